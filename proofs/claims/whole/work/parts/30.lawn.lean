set_option maxHeartbeats 4000000 in
set_option maxRecDepth 100000 in
theorem c_X4_become (l : Launch) (dG : va_G) (cI cM cW cS : ClassId) (xw xsk xkd xmo xlv xtc xts xtl xs0 xs1 xs2 xs3 : Nat) (xtn xlw : Nat) (xrg : Int32) (xhp : Int64) (xR0 xR1 xR2 xR3 xkf xmf xlf xcf xsf xtf : Nat → Int32) (yw ysk ykd ymo ylv ytc yts ytl ys0 ys1 ys2 ys3 : Nat) (ytn ylw : Nat) (yrg : Int32) (yhp : Int64) (yR0 yR1 yR2 yR3 ykf ymf ylf ycf ysf ytf : Nat → Int32)  : rM l yX4_become cX4_become 3 none ({ frames := 1, cells := 0, slots := 0, locals := 60 } : Room) dG (tY cI cM cW cS) rZ0 [.ref xw, .ref yw] [(xw, .inr (3, [.ref xsk, .ref xkd, .ref xmo, .ref xlv, .ref xtc, .ref xts, .ref xtl, .int (nI xtn), .int xrg, .long xhp, .int (nI xlw)])), (xsk, .inl (cM, 4, .inr (.inr (.inr (.inr (rr4 xs0 xs1 xs2 xs3)))))), (xs0, .inl (cI, 14, .inl xR0)), (xs1, .inl (cI, 14, .inl xR1)), (xs2, .inl (cI, 14, .inl xR2)), (xs3, .inl (cI, 14, .inl xR3)), (xkd, .inl (cI, 36, .inl xkf)), (xmo, .inl (cI, 36, .inl xmf)), (xlv, .inl (cI, 36, .inl xlf)), (xtc, .inl (cI, 4, .inl xcf)), (xts, .inl (cI, 4, .inl xsf)), (xtl, .inl (cI, 4, .inl xtf)), (yw, .inr (3, [.ref ysk, .ref ykd, .ref ymo, .ref ylv, .ref ytc, .ref yts, .ref ytl, .int (nI ytn), .int yrg, .long yhp, .int (nI ylw)])), (ysk, .inl (cM, 4, .inr (.inr (.inr (.inr (rr4 ys0 ys1 ys2 ys3)))))), (ys0, .inl (cI, 14, .inl yR0)), (ys1, .inl (cI, 14, .inl yR1)), (ys2, .inl (cI, 14, .inl yR2)), (ys3, .inl (cI, 14, .inl yR3)), (ykd, .inl (cI, 36, .inl ykf)), (ymo, .inl (cI, 36, .inl ymf)), (ylv, .inl (cI, 36, .inl ylf)), (ytc, .inl (cI, 4, .inl ycf)), (yts, .inl (cI, 4, .inl ysf)), (ytl, .inl (cI, 4, .inl ytf))] (fun ov oz => ov = none ∧ oz = [(xw, .inr (3, [.ref xsk, .ref xkd, .ref xmo, .ref xlv, .ref xtc, .ref xts, .ref xtl, .int (nI ytn), .int yrg, .long yhp, .int (nI ylw)])), (xsk, .inl (cM, 4, .inr (.inr (.inr (.inr (rr4 xs0 xs1 xs2 xs3)))))), (xs0, .inl (cI, 14, .inl yR0)), (xs1, .inl (cI, 14, .inl yR1)), (xs2, .inl (cI, 14, .inl yR2)), (xs3, .inl (cI, 14, .inl yR3)), (xkd, .inl (cI, 36, .inl ykf)), (xmo, .inl (cI, 36, .inl ymf)), (xlv, .inl (cI, 36, .inl ylf)), (xtc, .inl (cI, 4, .inl ycf)), (xts, .inl (cI, 4, .inl ysf)), (xtl, .inl (cI, 4, .inl ytf)), (yw, .inr (3, [.ref ysk, .ref ykd, .ref ymo, .ref ylv, .ref ytc, .ref yts, .ref ytl, .int (nI ytn), .int yrg, .long yhp, .int (nI ylw)])), (ysk, .inl (cM, 4, .inr (.inr (.inr (.inr (rr4 ys0 ys1 ys2 ys3)))))), (ys0, .inl (cI, 14, .inl yR0)), (ys1, .inl (cI, 14, .inl yR1)), (ys2, .inl (cI, 14, .inl yR2)), (ys3, .inl (cI, 14, .inl yR3)), (ykd, .inl (cI, 36, .inl ykf)), (ymo, .inl (cI, 36, .inl ymf)), (ylv, .inl (cI, 36, .inl ylf)), (ytc, .inl (cI, 4, .inl ycf)), (yts, .inl (cI, 4, .inl ysf)), (ytl, .inl (cI, 4, .inl ytf))] ∧ True) := by
  refine rM_ofV false (by intro h; cases h) rfl (Nat.le_of_ble_eq_true rfl) rfl (fun X C E => ?_)
  show X 0 0 [(xw, .inr (3, [.ref xsk, .ref xkd, .ref xmo, .ref xlv, .ref xtc, .ref xts, .ref xtl, .int (nI xtn), .int xrg, .long xhp, .int (nI xlw)])), (xsk, .inl (cM, 4, .inr (.inr (.inr (.inr (rr4 xs0 xs1 xs2 xs3)))))), (xs0, .inl (cI, 14, .inl xR0)), (xs1, .inl (cI, 14, .inl xR1)), (xs2, .inl (cI, 14, .inl xR2)), (xs3, .inl (cI, 14, .inl xR3)), (xkd, .inl (cI, 36, .inl xkf)), (xmo, .inl (cI, 36, .inl xmf)), (xlv, .inl (cI, 36, .inl xlf)), (xtc, .inl (cI, 4, .inl xcf)), (xts, .inl (cI, 4, .inl xsf)), (xtl, .inl (cI, 4, .inl xtf)), (yw, .inr (3, [.ref ysk, .ref ykd, .ref ymo, .ref ylv, .ref ytc, .ref yts, .ref ytl, .int (nI ytn), .int yrg, .long yhp, .int (nI ylw)])), (ysk, .inl (cM, 4, .inr (.inr (.inr (.inr (rr4 ys0 ys1 ys2 ys3)))))), (ys0, .inl (cI, 14, .inl yR0)), (ys1, .inl (cI, 14, .inl yR1)), (ys2, .inl (cI, 14, .inl yR2)), (ys3, .inl (cI, 14, .inl yR3)), (ykd, .inl (cI, 36, .inl ykf)), (ymo, .inl (cI, 36, .inl ymf)), (ylv, .inl (cI, 36, .inl ylf)), (ytc, .inl (cI, 4, .inl ycf)), (yts, .inl (cI, 4, .inl ysf)), (ytl, .inl (cI, 4, .inl ytf))] [(0, .ref xw), (1, .ref yw)] 0 []
  refine x_iconst C dX4_become_0 (v := 0) rfl ?_
  refine x_istore_n C dX4_become_1 (by decide) (lv' := [(2, .int 0), (0, .ref xw), (1, .ref yw)]) rfl ?_
  refine x_iload_n C dX4_become_2 0 rfl ?_
  refine x_iconst C dX4_become_3 (v := 4) rfl ?_
  refine x_icmp_ge C dX4_become_4 (tgt := 32) rfl (fun q9 => absurd q9 (by decide)) (fun _ => ?_)
  refine x_aload_n C dX4_become_7 2 rfl ?_
  refine x_get C inlX4 rfl 0 (by decide) gw_2_23 dX4_become_8 12 rfl rfl ?_
  refine x_iload_n C dX4_become_11 0 rfl ?_
  refine x_aaloadA C 1 rfl dX4_become_12 0 rfl (q_ix (rfl : (0 : Int32) = nI 0) (by decide) (by decide)) 13 rfl rfl ?_
  refine x_iconst C dX4_become_13 (v := 0) rfl ?_
  show X _ _ _ _ 14 _
  refine x_aload_n C dX4_become_14 1 rfl ?_
  refine x_get C inlX4 rfl 0 (by decide) gw_2_23 dX4_become_15 0 rfl rfl ?_
  refine x_iload_n C dX4_become_18 0 rfl ?_
  refine x_aaloadA C 1 rfl dX4_become_19 0 rfl (q_ix (rfl : (0 : Int32) = nI 0) (by decide) (by decide)) 1 rfl rfl ?_
  refine x_iconst C dX4_become_20 (v := 0) rfl ?_
  refine x_bipush C dX4_become_21 (v := 14) rfl ?_
  refine x_copyi C (sp' := 0) (dp' := 0) (z' := 14) 0 rfl gw_32_20 gw_23_15 gw_23_16 gw_23_17 (Nat.le_of_ble_eq_true rfl) (Nat.le_of_ble_eq_true rfl) dX4_become_23 14 2 rfl rfl ((rfl : (0 : Int32) = nI 0)) ((rfl : (0 : Int32) = nI 0)) ((rfl : (14 : Int32) = nI 14)) (by first | decide | omega) (by first | decide | omega) (by first | decide | omega) (by first | decide | omega) ?_
  show X _ _ [(xw, .inr (3, [.ref xsk, .ref xkd, .ref xmo, .ref xlv, .ref xtc, .ref xts, .ref xtl, .int (nI xtn), .int xrg, .long xhp, .int (nI xlw)])), (xsk, .inl (cM, 4, .inr (.inr (.inr (.inr (rr4 xs0 xs1 xs2 xs3)))))), (xs0, .inl (cI, 14, .inl (va_cpy yR0 xR0 0 0 14))), (xs1, .inl (cI, 14, .inl xR1)), (xs2, .inl (cI, 14, .inl xR2)), (xs3, .inl (cI, 14, .inl xR3)), (xkd, .inl (cI, 36, .inl xkf)), (xmo, .inl (cI, 36, .inl xmf)), (xlv, .inl (cI, 36, .inl xlf)), (xtc, .inl (cI, 4, .inl xcf)), (xts, .inl (cI, 4, .inl xsf)), (xtl, .inl (cI, 4, .inl xtf)), (yw, .inr (3, [.ref ysk, .ref ykd, .ref ymo, .ref ylv, .ref ytc, .ref yts, .ref ytl, .int (nI ytn), .int yrg, .long yhp, .int (nI ylw)])), (ysk, .inl (cM, 4, .inr (.inr (.inr (.inr (rr4 ys0 ys1 ys2 ys3)))))), (ys0, .inl (cI, 14, .inl yR0)), (ys1, .inl (cI, 14, .inl yR1)), (ys2, .inl (cI, 14, .inl yR2)), (ys3, .inl (cI, 14, .inl yR3)), (ykd, .inl (cI, 36, .inl ykf)), (ymo, .inl (cI, 36, .inl ymf)), (ylv, .inl (cI, 36, .inl ylf)), (ytc, .inl (cI, 4, .inl ycf)), (yts, .inl (cI, 4, .inl ysf)), (ytl, .inl (cI, 4, .inl ytf))] _ _ _
  refine x_iinc C dX4_become_26 0 rfl (v := 1) (rfl) (by decide) (lv' := [(2, .int 1), (0, .ref xw), (1, .ref yw)]) rfl ?_
  refine x_goto C dX4_become_29 (tgt := 2) rfl ?_
  refine x_iload_n C dX4_become_2 0 rfl ?_
  show X _ _ _ _ 3 _
  refine x_iconst C dX4_become_3 (v := 4) rfl ?_
  refine x_icmp_ge C dX4_become_4 (tgt := 32) rfl (fun q9 => absurd q9 (by decide)) (fun _ => ?_)
  refine x_aload_n C dX4_become_7 2 rfl ?_
  refine x_get C inlX4 rfl 0 (by decide) gw_2_23 dX4_become_8 12 rfl rfl ?_
  refine x_iload_n C dX4_become_11 0 rfl ?_
  refine x_aaloadA C 1 rfl dX4_become_12 1 rfl (q_ix (rfl : (1 : Int32) = nI 1) (by decide) (by decide)) 13 rfl rfl ?_
  refine x_iconst C dX4_become_13 (v := 0) rfl ?_
  refine x_aload_n C dX4_become_14 1 rfl ?_
  refine x_get C inlX4 rfl 0 (by decide) gw_2_23 dX4_become_15 0 rfl rfl ?_
  refine x_iload_n C dX4_become_18 0 rfl ?_
  show X _ _ _ _ 19 _
  refine x_aaloadA C 1 rfl dX4_become_19 1 rfl (q_ix (rfl : (1 : Int32) = nI 1) (by decide) (by decide)) 1 rfl rfl ?_
  refine x_iconst C dX4_become_20 (v := 0) rfl ?_
  refine x_bipush C dX4_become_21 (v := 14) rfl ?_
  refine x_copyi C (sp' := 0) (dp' := 0) (z' := 14) 0 rfl gw_32_20 gw_23_15 gw_23_16 gw_23_17 (Nat.le_of_ble_eq_true rfl) (Nat.le_of_ble_eq_true rfl) dX4_become_23 15 3 rfl rfl ((rfl : (0 : Int32) = nI 0)) ((rfl : (0 : Int32) = nI 0)) ((rfl : (14 : Int32) = nI 14)) (by first | decide | omega) (by first | decide | omega) (by first | decide | omega) (by first | decide | omega) ?_
  show X _ _ [(xw, .inr (3, [.ref xsk, .ref xkd, .ref xmo, .ref xlv, .ref xtc, .ref xts, .ref xtl, .int (nI xtn), .int xrg, .long xhp, .int (nI xlw)])), (xsk, .inl (cM, 4, .inr (.inr (.inr (.inr (rr4 xs0 xs1 xs2 xs3)))))), (xs0, .inl (cI, 14, .inl (va_cpy yR0 xR0 0 0 14))), (xs1, .inl (cI, 14, .inl (va_cpy yR1 xR1 0 0 14))), (xs2, .inl (cI, 14, .inl xR2)), (xs3, .inl (cI, 14, .inl xR3)), (xkd, .inl (cI, 36, .inl xkf)), (xmo, .inl (cI, 36, .inl xmf)), (xlv, .inl (cI, 36, .inl xlf)), (xtc, .inl (cI, 4, .inl xcf)), (xts, .inl (cI, 4, .inl xsf)), (xtl, .inl (cI, 4, .inl xtf)), (yw, .inr (3, [.ref ysk, .ref ykd, .ref ymo, .ref ylv, .ref ytc, .ref yts, .ref ytl, .int (nI ytn), .int yrg, .long yhp, .int (nI ylw)])), (ysk, .inl (cM, 4, .inr (.inr (.inr (.inr (rr4 ys0 ys1 ys2 ys3)))))), (ys0, .inl (cI, 14, .inl yR0)), (ys1, .inl (cI, 14, .inl yR1)), (ys2, .inl (cI, 14, .inl yR2)), (ys3, .inl (cI, 14, .inl yR3)), (ykd, .inl (cI, 36, .inl ykf)), (ymo, .inl (cI, 36, .inl ymf)), (ylv, .inl (cI, 36, .inl ylf)), (ytc, .inl (cI, 4, .inl ycf)), (yts, .inl (cI, 4, .inl ysf)), (ytl, .inl (cI, 4, .inl ytf))] _ _ _
  refine x_iinc C dX4_become_26 0 rfl (v := 2) (rfl) (by decide) (lv' := [(2, .int 2), (0, .ref xw), (1, .ref yw)]) rfl ?_
  refine x_goto C dX4_become_29 (tgt := 2) rfl ?_
  refine x_iload_n C dX4_become_2 0 rfl ?_
  refine x_iconst C dX4_become_3 (v := 4) rfl ?_
  refine x_icmp_ge C dX4_become_4 (tgt := 32) rfl (fun q9 => absurd q9 (by decide)) (fun _ => ?_)
  refine x_aload_n C dX4_become_7 2 rfl ?_
  show X _ _ _ _ 8 _
  refine x_get C inlX4 rfl 0 (by decide) gw_2_23 dX4_become_8 12 rfl rfl ?_
  refine x_iload_n C dX4_become_11 0 rfl ?_
  refine x_aaloadA C 1 rfl dX4_become_12 2 rfl (q_ix (rfl : (2 : Int32) = nI 2) (by decide) (by decide)) 13 rfl rfl ?_
  refine x_iconst C dX4_become_13 (v := 0) rfl ?_
  refine x_aload_n C dX4_become_14 1 rfl ?_
  refine x_get C inlX4 rfl 0 (by decide) gw_2_23 dX4_become_15 0 rfl rfl ?_
  refine x_iload_n C dX4_become_18 0 rfl ?_
  refine x_aaloadA C 1 rfl dX4_become_19 2 rfl (q_ix (rfl : (2 : Int32) = nI 2) (by decide) (by decide)) 1 rfl rfl ?_
  refine x_iconst C dX4_become_20 (v := 0) rfl ?_
  refine x_bipush C dX4_become_21 (v := 14) rfl ?_
  show X _ _ _ _ 23 _
  refine x_copyi C (sp' := 0) (dp' := 0) (z' := 14) 0 rfl gw_32_20 gw_23_15 gw_23_16 gw_23_17 (Nat.le_of_ble_eq_true rfl) (Nat.le_of_ble_eq_true rfl) dX4_become_23 16 4 rfl rfl ((rfl : (0 : Int32) = nI 0)) ((rfl : (0 : Int32) = nI 0)) ((rfl : (14 : Int32) = nI 14)) (by first | decide | omega) (by first | decide | omega) (by first | decide | omega) (by first | decide | omega) ?_
  show X _ _ [(xw, .inr (3, [.ref xsk, .ref xkd, .ref xmo, .ref xlv, .ref xtc, .ref xts, .ref xtl, .int (nI xtn), .int xrg, .long xhp, .int (nI xlw)])), (xsk, .inl (cM, 4, .inr (.inr (.inr (.inr (rr4 xs0 xs1 xs2 xs3)))))), (xs0, .inl (cI, 14, .inl (va_cpy yR0 xR0 0 0 14))), (xs1, .inl (cI, 14, .inl (va_cpy yR1 xR1 0 0 14))), (xs2, .inl (cI, 14, .inl (va_cpy yR2 xR2 0 0 14))), (xs3, .inl (cI, 14, .inl xR3)), (xkd, .inl (cI, 36, .inl xkf)), (xmo, .inl (cI, 36, .inl xmf)), (xlv, .inl (cI, 36, .inl xlf)), (xtc, .inl (cI, 4, .inl xcf)), (xts, .inl (cI, 4, .inl xsf)), (xtl, .inl (cI, 4, .inl xtf)), (yw, .inr (3, [.ref ysk, .ref ykd, .ref ymo, .ref ylv, .ref ytc, .ref yts, .ref ytl, .int (nI ytn), .int yrg, .long yhp, .int (nI ylw)])), (ysk, .inl (cM, 4, .inr (.inr (.inr (.inr (rr4 ys0 ys1 ys2 ys3)))))), (ys0, .inl (cI, 14, .inl yR0)), (ys1, .inl (cI, 14, .inl yR1)), (ys2, .inl (cI, 14, .inl yR2)), (ys3, .inl (cI, 14, .inl yR3)), (ykd, .inl (cI, 36, .inl ykf)), (ymo, .inl (cI, 36, .inl ymf)), (ylv, .inl (cI, 36, .inl ylf)), (ytc, .inl (cI, 4, .inl ycf)), (yts, .inl (cI, 4, .inl ysf)), (ytl, .inl (cI, 4, .inl ytf))] _ _ _
  refine x_iinc C dX4_become_26 0 rfl (v := 3) (rfl) (by decide) (lv' := [(2, .int 3), (0, .ref xw), (1, .ref yw)]) rfl ?_
  refine x_goto C dX4_become_29 (tgt := 2) rfl ?_
  refine x_iload_n C dX4_become_2 0 rfl ?_
  refine x_iconst C dX4_become_3 (v := 4) rfl ?_
  refine x_icmp_ge C dX4_become_4 (tgt := 32) rfl (fun q9 => absurd q9 (by decide)) (fun _ => ?_)
  refine x_aload_n C dX4_become_7 2 rfl ?_
  refine x_get C inlX4 rfl 0 (by decide) gw_2_23 dX4_become_8 12 rfl rfl ?_
  refine x_iload_n C dX4_become_11 0 rfl ?_
  refine x_aaloadA C 1 rfl dX4_become_12 3 rfl (q_ix (rfl : (3 : Int32) = nI 3) (by decide) (by decide)) 13 rfl rfl ?_
  show X _ _ _ _ 13 _
  refine x_iconst C dX4_become_13 (v := 0) rfl ?_
  refine x_aload_n C dX4_become_14 1 rfl ?_
  refine x_get C inlX4 rfl 0 (by decide) gw_2_23 dX4_become_15 0 rfl rfl ?_
  refine x_iload_n C dX4_become_18 0 rfl ?_
  refine x_aaloadA C 1 rfl dX4_become_19 3 rfl (q_ix (rfl : (3 : Int32) = nI 3) (by decide) (by decide)) 1 rfl rfl ?_
  refine x_iconst C dX4_become_20 (v := 0) rfl ?_
  refine x_bipush C dX4_become_21 (v := 14) rfl ?_
  refine x_copyi C (sp' := 0) (dp' := 0) (z' := 14) 0 rfl gw_32_20 gw_23_15 gw_23_16 gw_23_17 (Nat.le_of_ble_eq_true rfl) (Nat.le_of_ble_eq_true rfl) dX4_become_23 17 5 rfl rfl ((rfl : (0 : Int32) = nI 0)) ((rfl : (0 : Int32) = nI 0)) ((rfl : (14 : Int32) = nI 14)) (by first | decide | omega) (by first | decide | omega) (by first | decide | omega) (by first | decide | omega) ?_
  show X _ _ [(xw, .inr (3, [.ref xsk, .ref xkd, .ref xmo, .ref xlv, .ref xtc, .ref xts, .ref xtl, .int (nI xtn), .int xrg, .long xhp, .int (nI xlw)])), (xsk, .inl (cM, 4, .inr (.inr (.inr (.inr (rr4 xs0 xs1 xs2 xs3)))))), (xs0, .inl (cI, 14, .inl (va_cpy yR0 xR0 0 0 14))), (xs1, .inl (cI, 14, .inl (va_cpy yR1 xR1 0 0 14))), (xs2, .inl (cI, 14, .inl (va_cpy yR2 xR2 0 0 14))), (xs3, .inl (cI, 14, .inl (va_cpy yR3 xR3 0 0 14))), (xkd, .inl (cI, 36, .inl xkf)), (xmo, .inl (cI, 36, .inl xmf)), (xlv, .inl (cI, 36, .inl xlf)), (xtc, .inl (cI, 4, .inl xcf)), (xts, .inl (cI, 4, .inl xsf)), (xtl, .inl (cI, 4, .inl xtf)), (yw, .inr (3, [.ref ysk, .ref ykd, .ref ymo, .ref ylv, .ref ytc, .ref yts, .ref ytl, .int (nI ytn), .int yrg, .long yhp, .int (nI ylw)])), (ysk, .inl (cM, 4, .inr (.inr (.inr (.inr (rr4 ys0 ys1 ys2 ys3)))))), (ys0, .inl (cI, 14, .inl yR0)), (ys1, .inl (cI, 14, .inl yR1)), (ys2, .inl (cI, 14, .inl yR2)), (ys3, .inl (cI, 14, .inl yR3)), (ykd, .inl (cI, 36, .inl ykf)), (ymo, .inl (cI, 36, .inl ymf)), (ylv, .inl (cI, 36, .inl ylf)), (ytc, .inl (cI, 4, .inl ycf)), (yts, .inl (cI, 4, .inl ysf)), (ytl, .inl (cI, 4, .inl ytf))] _ _ _
  refine x_iinc C dX4_become_26 0 rfl (v := 4) (rfl) (by decide) (lv' := [(2, .int 4), (0, .ref xw), (1, .ref yw)]) rfl ?_
  refine x_goto C dX4_become_29 (tgt := 2) rfl ?_
  show X _ _ _ _ 2 _
  refine x_iload_n C dX4_become_2 0 rfl ?_
  refine x_iconst C dX4_become_3 (v := 4) rfl ?_
  refine x_icmp_ge C dX4_become_4 (tgt := 32) rfl (fun _ => ?_) (fun q9 => by first | exact absurd q9 (by decide) | exact absurd (by decide) q9)
  refine x_aload_n C dX4_become_32 2 rfl ?_
  refine x_get C inlX4 rfl 1 (by decide) gw_3_0 dX4_become_33 12 rfl rfl ?_
  refine x_iconst C dX4_become_36 (v := 0) rfl ?_
  refine x_aload_n C dX4_become_37 1 rfl ?_
  refine x_get C inlX4 rfl 1 (by decide) gw_3_0 dX4_become_38 0 rfl rfl ?_
  refine x_iconst C dX4_become_41 (v := 0) rfl ?_
  refine x_bipush C dX4_become_42 (v := 36) rfl ?_
  show X _ _ _ _ 44 _
  refine x_copyi C (sp' := 0) (dp' := 0) (z' := 36) 0 rfl gw_32_20 gw_23_15 gw_23_16 gw_23_17 (Nat.le_of_ble_eq_true rfl) (Nat.le_of_ble_eq_true rfl) dX4_become_44 18 6 rfl rfl ((rfl : (0 : Int32) = nI 0)) ((rfl : (0 : Int32) = nI 0)) ((rfl : (36 : Int32) = nI 36)) (by first | decide | omega) (by first | decide | omega) (by first | decide | omega) (by first | decide | omega) ?_
  show X _ _ [(xw, .inr (3, [.ref xsk, .ref xkd, .ref xmo, .ref xlv, .ref xtc, .ref xts, .ref xtl, .int (nI xtn), .int xrg, .long xhp, .int (nI xlw)])), (xsk, .inl (cM, 4, .inr (.inr (.inr (.inr (rr4 xs0 xs1 xs2 xs3)))))), (xs0, .inl (cI, 14, .inl (va_cpy yR0 xR0 0 0 14))), (xs1, .inl (cI, 14, .inl (va_cpy yR1 xR1 0 0 14))), (xs2, .inl (cI, 14, .inl (va_cpy yR2 xR2 0 0 14))), (xs3, .inl (cI, 14, .inl (va_cpy yR3 xR3 0 0 14))), (xkd, .inl (cI, 36, .inl (va_cpy ykf xkf 0 0 36))), (xmo, .inl (cI, 36, .inl xmf)), (xlv, .inl (cI, 36, .inl xlf)), (xtc, .inl (cI, 4, .inl xcf)), (xts, .inl (cI, 4, .inl xsf)), (xtl, .inl (cI, 4, .inl xtf)), (yw, .inr (3, [.ref ysk, .ref ykd, .ref ymo, .ref ylv, .ref ytc, .ref yts, .ref ytl, .int (nI ytn), .int yrg, .long yhp, .int (nI ylw)])), (ysk, .inl (cM, 4, .inr (.inr (.inr (.inr (rr4 ys0 ys1 ys2 ys3)))))), (ys0, .inl (cI, 14, .inl yR0)), (ys1, .inl (cI, 14, .inl yR1)), (ys2, .inl (cI, 14, .inl yR2)), (ys3, .inl (cI, 14, .inl yR3)), (ykd, .inl (cI, 36, .inl ykf)), (ymo, .inl (cI, 36, .inl ymf)), (ylv, .inl (cI, 36, .inl ylf)), (ytc, .inl (cI, 4, .inl ycf)), (yts, .inl (cI, 4, .inl ysf)), (ytl, .inl (cI, 4, .inl ytf))] _ _ _
  refine x_aload_n C dX4_become_47 2 rfl ?_
  refine x_get C inlX4 rfl 2 (by decide) gw_3_1 dX4_become_48 12 rfl rfl ?_
  refine x_iconst C dX4_become_51 (v := 0) rfl ?_
  refine x_aload_n C dX4_become_52 1 rfl ?_
  refine x_get C inlX4 rfl 2 (by decide) gw_3_1 dX4_become_53 0 rfl rfl ?_
  refine x_iconst C dX4_become_56 (v := 0) rfl ?_
  refine x_bipush C dX4_become_57 (v := 36) rfl ?_
  refine x_copyi C (sp' := 0) (dp' := 0) (z' := 36) 0 rfl gw_32_20 gw_23_15 gw_23_16 gw_23_17 (Nat.le_of_ble_eq_true rfl) (Nat.le_of_ble_eq_true rfl) dX4_become_59 19 7 rfl rfl ((rfl : (0 : Int32) = nI 0)) ((rfl : (0 : Int32) = nI 0)) ((rfl : (36 : Int32) = nI 36)) (by first | decide | omega) (by first | decide | omega) (by first | decide | omega) (by first | decide | omega) ?_
  show X _ _ [(xw, .inr (3, [.ref xsk, .ref xkd, .ref xmo, .ref xlv, .ref xtc, .ref xts, .ref xtl, .int (nI xtn), .int xrg, .long xhp, .int (nI xlw)])), (xsk, .inl (cM, 4, .inr (.inr (.inr (.inr (rr4 xs0 xs1 xs2 xs3)))))), (xs0, .inl (cI, 14, .inl (va_cpy yR0 xR0 0 0 14))), (xs1, .inl (cI, 14, .inl (va_cpy yR1 xR1 0 0 14))), (xs2, .inl (cI, 14, .inl (va_cpy yR2 xR2 0 0 14))), (xs3, .inl (cI, 14, .inl (va_cpy yR3 xR3 0 0 14))), (xkd, .inl (cI, 36, .inl (va_cpy ykf xkf 0 0 36))), (xmo, .inl (cI, 36, .inl (va_cpy ymf xmf 0 0 36))), (xlv, .inl (cI, 36, .inl xlf)), (xtc, .inl (cI, 4, .inl xcf)), (xts, .inl (cI, 4, .inl xsf)), (xtl, .inl (cI, 4, .inl xtf)), (yw, .inr (3, [.ref ysk, .ref ykd, .ref ymo, .ref ylv, .ref ytc, .ref yts, .ref ytl, .int (nI ytn), .int yrg, .long yhp, .int (nI ylw)])), (ysk, .inl (cM, 4, .inr (.inr (.inr (.inr (rr4 ys0 ys1 ys2 ys3)))))), (ys0, .inl (cI, 14, .inl yR0)), (ys1, .inl (cI, 14, .inl yR1)), (ys2, .inl (cI, 14, .inl yR2)), (ys3, .inl (cI, 14, .inl yR3)), (ykd, .inl (cI, 36, .inl ykf)), (ymo, .inl (cI, 36, .inl ymf)), (ylv, .inl (cI, 36, .inl ylf)), (ytc, .inl (cI, 4, .inl ycf)), (yts, .inl (cI, 4, .inl ysf)), (ytl, .inl (cI, 4, .inl ytf))] _ _ _
  refine x_aload_n C dX4_become_62 2 rfl ?_
  show X _ _ _ _ 63 _
  refine x_get C inlX4 rfl 3 (by decide) gw_3_2 dX4_become_63 12 rfl rfl ?_
  refine x_iconst C dX4_become_66 (v := 0) rfl ?_
  refine x_aload_n C dX4_become_67 1 rfl ?_
  refine x_get C inlX4 rfl 3 (by decide) gw_3_2 dX4_become_68 0 rfl rfl ?_
  refine x_iconst C dX4_become_71 (v := 0) rfl ?_
  refine x_bipush C dX4_become_72 (v := 36) rfl ?_
  refine x_copyi C (sp' := 0) (dp' := 0) (z' := 36) 0 rfl gw_32_20 gw_23_15 gw_23_16 gw_23_17 (Nat.le_of_ble_eq_true rfl) (Nat.le_of_ble_eq_true rfl) dX4_become_74 20 8 rfl rfl ((rfl : (0 : Int32) = nI 0)) ((rfl : (0 : Int32) = nI 0)) ((rfl : (36 : Int32) = nI 36)) (by first | decide | omega) (by first | decide | omega) (by first | decide | omega) (by first | decide | omega) ?_
  show X _ _ [(xw, .inr (3, [.ref xsk, .ref xkd, .ref xmo, .ref xlv, .ref xtc, .ref xts, .ref xtl, .int (nI xtn), .int xrg, .long xhp, .int (nI xlw)])), (xsk, .inl (cM, 4, .inr (.inr (.inr (.inr (rr4 xs0 xs1 xs2 xs3)))))), (xs0, .inl (cI, 14, .inl (va_cpy yR0 xR0 0 0 14))), (xs1, .inl (cI, 14, .inl (va_cpy yR1 xR1 0 0 14))), (xs2, .inl (cI, 14, .inl (va_cpy yR2 xR2 0 0 14))), (xs3, .inl (cI, 14, .inl (va_cpy yR3 xR3 0 0 14))), (xkd, .inl (cI, 36, .inl (va_cpy ykf xkf 0 0 36))), (xmo, .inl (cI, 36, .inl (va_cpy ymf xmf 0 0 36))), (xlv, .inl (cI, 36, .inl (va_cpy ylf xlf 0 0 36))), (xtc, .inl (cI, 4, .inl xcf)), (xts, .inl (cI, 4, .inl xsf)), (xtl, .inl (cI, 4, .inl xtf)), (yw, .inr (3, [.ref ysk, .ref ykd, .ref ymo, .ref ylv, .ref ytc, .ref yts, .ref ytl, .int (nI ytn), .int yrg, .long yhp, .int (nI ylw)])), (ysk, .inl (cM, 4, .inr (.inr (.inr (.inr (rr4 ys0 ys1 ys2 ys3)))))), (ys0, .inl (cI, 14, .inl yR0)), (ys1, .inl (cI, 14, .inl yR1)), (ys2, .inl (cI, 14, .inl yR2)), (ys3, .inl (cI, 14, .inl yR3)), (ykd, .inl (cI, 36, .inl ykf)), (ymo, .inl (cI, 36, .inl ymf)), (ylv, .inl (cI, 36, .inl ylf)), (ytc, .inl (cI, 4, .inl ycf)), (yts, .inl (cI, 4, .inl ysf)), (ytl, .inl (cI, 4, .inl ytf))] _ _ _
  refine x_aload_n C dX4_become_77 2 rfl ?_
  refine x_get C inlX4 rfl 4 (by decide) gw_3_3 dX4_become_78 12 rfl rfl ?_
  refine x_iconst C dX4_become_81 (v := 0) rfl ?_
  show X _ _ _ _ 82 _
  refine x_aload_n C dX4_become_82 1 rfl ?_
  refine x_get C inlX4 rfl 4 (by decide) gw_3_3 dX4_become_83 0 rfl rfl ?_
  refine x_iconst C dX4_become_86 (v := 0) rfl ?_
  refine x_iconst C dX4_become_87 (v := 4) rfl ?_
  refine x_copyi C (sp' := 0) (dp' := 0) (z' := 4) 0 rfl gw_32_20 gw_23_15 gw_23_16 gw_23_17 (Nat.le_of_ble_eq_true rfl) (Nat.le_of_ble_eq_true rfl) dX4_become_88 21 9 rfl rfl ((rfl : (0 : Int32) = nI 0)) ((rfl : (0 : Int32) = nI 0)) ((rfl : (4 : Int32) = nI 4)) (by first | decide | omega) (by first | decide | omega) (by first | decide | omega) (by first | decide | omega) ?_
  show X _ _ [(xw, .inr (3, [.ref xsk, .ref xkd, .ref xmo, .ref xlv, .ref xtc, .ref xts, .ref xtl, .int (nI xtn), .int xrg, .long xhp, .int (nI xlw)])), (xsk, .inl (cM, 4, .inr (.inr (.inr (.inr (rr4 xs0 xs1 xs2 xs3)))))), (xs0, .inl (cI, 14, .inl (va_cpy yR0 xR0 0 0 14))), (xs1, .inl (cI, 14, .inl (va_cpy yR1 xR1 0 0 14))), (xs2, .inl (cI, 14, .inl (va_cpy yR2 xR2 0 0 14))), (xs3, .inl (cI, 14, .inl (va_cpy yR3 xR3 0 0 14))), (xkd, .inl (cI, 36, .inl (va_cpy ykf xkf 0 0 36))), (xmo, .inl (cI, 36, .inl (va_cpy ymf xmf 0 0 36))), (xlv, .inl (cI, 36, .inl (va_cpy ylf xlf 0 0 36))), (xtc, .inl (cI, 4, .inl (va_cpy ycf xcf 0 0 4))), (xts, .inl (cI, 4, .inl xsf)), (xtl, .inl (cI, 4, .inl xtf)), (yw, .inr (3, [.ref ysk, .ref ykd, .ref ymo, .ref ylv, .ref ytc, .ref yts, .ref ytl, .int (nI ytn), .int yrg, .long yhp, .int (nI ylw)])), (ysk, .inl (cM, 4, .inr (.inr (.inr (.inr (rr4 ys0 ys1 ys2 ys3)))))), (ys0, .inl (cI, 14, .inl yR0)), (ys1, .inl (cI, 14, .inl yR1)), (ys2, .inl (cI, 14, .inl yR2)), (ys3, .inl (cI, 14, .inl yR3)), (ykd, .inl (cI, 36, .inl ykf)), (ymo, .inl (cI, 36, .inl ymf)), (ylv, .inl (cI, 36, .inl ylf)), (ytc, .inl (cI, 4, .inl ycf)), (yts, .inl (cI, 4, .inl ysf)), (ytl, .inl (cI, 4, .inl ytf))] _ _ _
  refine x_aload_n C dX4_become_91 2 rfl ?_
  refine x_get C inlX4 rfl 5 (by decide) gw_3_4 dX4_become_92 12 rfl rfl ?_
  refine x_iconst C dX4_become_95 (v := 0) rfl ?_
  refine x_aload_n C dX4_become_96 1 rfl ?_
  refine x_get C inlX4 rfl 5 (by decide) gw_3_4 dX4_become_97 0 rfl rfl ?_
  show X _ _ _ _ 100 _
  refine x_iconst C dX4_become_100 (v := 0) rfl ?_
  refine x_iconst C dX4_become_101 (v := 4) rfl ?_
  refine x_copyi C (sp' := 0) (dp' := 0) (z' := 4) 0 rfl gw_32_20 gw_23_15 gw_23_16 gw_23_17 (Nat.le_of_ble_eq_true rfl) (Nat.le_of_ble_eq_true rfl) dX4_become_102 22 10 rfl rfl ((rfl : (0 : Int32) = nI 0)) ((rfl : (0 : Int32) = nI 0)) ((rfl : (4 : Int32) = nI 4)) (by first | decide | omega) (by first | decide | omega) (by first | decide | omega) (by first | decide | omega) ?_
  show X _ _ [(xw, .inr (3, [.ref xsk, .ref xkd, .ref xmo, .ref xlv, .ref xtc, .ref xts, .ref xtl, .int (nI xtn), .int xrg, .long xhp, .int (nI xlw)])), (xsk, .inl (cM, 4, .inr (.inr (.inr (.inr (rr4 xs0 xs1 xs2 xs3)))))), (xs0, .inl (cI, 14, .inl (va_cpy yR0 xR0 0 0 14))), (xs1, .inl (cI, 14, .inl (va_cpy yR1 xR1 0 0 14))), (xs2, .inl (cI, 14, .inl (va_cpy yR2 xR2 0 0 14))), (xs3, .inl (cI, 14, .inl (va_cpy yR3 xR3 0 0 14))), (xkd, .inl (cI, 36, .inl (va_cpy ykf xkf 0 0 36))), (xmo, .inl (cI, 36, .inl (va_cpy ymf xmf 0 0 36))), (xlv, .inl (cI, 36, .inl (va_cpy ylf xlf 0 0 36))), (xtc, .inl (cI, 4, .inl (va_cpy ycf xcf 0 0 4))), (xts, .inl (cI, 4, .inl (va_cpy ysf xsf 0 0 4))), (xtl, .inl (cI, 4, .inl xtf)), (yw, .inr (3, [.ref ysk, .ref ykd, .ref ymo, .ref ylv, .ref ytc, .ref yts, .ref ytl, .int (nI ytn), .int yrg, .long yhp, .int (nI ylw)])), (ysk, .inl (cM, 4, .inr (.inr (.inr (.inr (rr4 ys0 ys1 ys2 ys3)))))), (ys0, .inl (cI, 14, .inl yR0)), (ys1, .inl (cI, 14, .inl yR1)), (ys2, .inl (cI, 14, .inl yR2)), (ys3, .inl (cI, 14, .inl yR3)), (ykd, .inl (cI, 36, .inl ykf)), (ymo, .inl (cI, 36, .inl ymf)), (ylv, .inl (cI, 36, .inl ylf)), (ytc, .inl (cI, 4, .inl ycf)), (yts, .inl (cI, 4, .inl ysf)), (ytl, .inl (cI, 4, .inl ytf))] _ _ _
  refine x_aload_n C dX4_become_105 2 rfl ?_
  refine x_get C inlX4 rfl 6 (by decide) gw_3_5 dX4_become_106 12 rfl rfl ?_
  refine x_iconst C dX4_become_109 (v := 0) rfl ?_
  refine x_aload_n C dX4_become_110 1 rfl ?_
  refine x_get C inlX4 rfl 6 (by decide) gw_3_5 dX4_become_111 0 rfl rfl ?_
  refine x_iconst C dX4_become_114 (v := 0) rfl ?_
  refine x_iconst C dX4_become_115 (v := 4) rfl ?_
  show X _ _ _ _ 116 _
  refine x_copyi C (sp' := 0) (dp' := 0) (z' := 4) 0 rfl gw_32_20 gw_23_15 gw_23_16 gw_23_17 (Nat.le_of_ble_eq_true rfl) (Nat.le_of_ble_eq_true rfl) dX4_become_116 23 11 rfl rfl ((rfl : (0 : Int32) = nI 0)) ((rfl : (0 : Int32) = nI 0)) ((rfl : (4 : Int32) = nI 4)) (by first | decide | omega) (by first | decide | omega) (by first | decide | omega) (by first | decide | omega) ?_
  show X _ _ [(xw, .inr (3, [.ref xsk, .ref xkd, .ref xmo, .ref xlv, .ref xtc, .ref xts, .ref xtl, .int (nI xtn), .int xrg, .long xhp, .int (nI xlw)])), (xsk, .inl (cM, 4, .inr (.inr (.inr (.inr (rr4 xs0 xs1 xs2 xs3)))))), (xs0, .inl (cI, 14, .inl (va_cpy yR0 xR0 0 0 14))), (xs1, .inl (cI, 14, .inl (va_cpy yR1 xR1 0 0 14))), (xs2, .inl (cI, 14, .inl (va_cpy yR2 xR2 0 0 14))), (xs3, .inl (cI, 14, .inl (va_cpy yR3 xR3 0 0 14))), (xkd, .inl (cI, 36, .inl (va_cpy ykf xkf 0 0 36))), (xmo, .inl (cI, 36, .inl (va_cpy ymf xmf 0 0 36))), (xlv, .inl (cI, 36, .inl (va_cpy ylf xlf 0 0 36))), (xtc, .inl (cI, 4, .inl (va_cpy ycf xcf 0 0 4))), (xts, .inl (cI, 4, .inl (va_cpy ysf xsf 0 0 4))), (xtl, .inl (cI, 4, .inl (va_cpy ytf xtf 0 0 4))), (yw, .inr (3, [.ref ysk, .ref ykd, .ref ymo, .ref ylv, .ref ytc, .ref yts, .ref ytl, .int (nI ytn), .int yrg, .long yhp, .int (nI ylw)])), (ysk, .inl (cM, 4, .inr (.inr (.inr (.inr (rr4 ys0 ys1 ys2 ys3)))))), (ys0, .inl (cI, 14, .inl yR0)), (ys1, .inl (cI, 14, .inl yR1)), (ys2, .inl (cI, 14, .inl yR2)), (ys3, .inl (cI, 14, .inl yR3)), (ykd, .inl (cI, 36, .inl ykf)), (ymo, .inl (cI, 36, .inl ymf)), (ylv, .inl (cI, 36, .inl ylf)), (ytc, .inl (cI, 4, .inl ycf)), (yts, .inl (cI, 4, .inl ysf)), (ytl, .inl (cI, 4, .inl ytf))] _ _ _
  refine x_aload_n C dX4_become_119 1 rfl ?_
  refine x_aload_n C dX4_become_120 2 rfl ?_
  refine x_get C inlX4 rfl 7 (by decide) gw_32_21 dX4_become_121 12 rfl rfl ?_
  refine x_put C inlX4 rfl tyX4 tyX4_ok nmX4 7 (by decide) gw_32_21 rfl dX4_become_124 0 rfl (rfl) rfl (Nat.le_of_ble_eq_true rfl) ?_
  show X _ _ [(xw, .inr (3, [.ref xsk, .ref xkd, .ref xmo, .ref xlv, .ref xtc, .ref xts, .ref xtl, .int (nI ytn), .int xrg, .long xhp, .int (nI xlw)])), (xsk, .inl (cM, 4, .inr (.inr (.inr (.inr (rr4 xs0 xs1 xs2 xs3)))))), (xs0, .inl (cI, 14, .inl (va_cpy yR0 xR0 0 0 14))), (xs1, .inl (cI, 14, .inl (va_cpy yR1 xR1 0 0 14))), (xs2, .inl (cI, 14, .inl (va_cpy yR2 xR2 0 0 14))), (xs3, .inl (cI, 14, .inl (va_cpy yR3 xR3 0 0 14))), (xkd, .inl (cI, 36, .inl (va_cpy ykf xkf 0 0 36))), (xmo, .inl (cI, 36, .inl (va_cpy ymf xmf 0 0 36))), (xlv, .inl (cI, 36, .inl (va_cpy ylf xlf 0 0 36))), (xtc, .inl (cI, 4, .inl (va_cpy ycf xcf 0 0 4))), (xts, .inl (cI, 4, .inl (va_cpy ysf xsf 0 0 4))), (xtl, .inl (cI, 4, .inl (va_cpy ytf xtf 0 0 4))), (yw, .inr (3, [.ref ysk, .ref ykd, .ref ymo, .ref ylv, .ref ytc, .ref yts, .ref ytl, .int (nI ytn), .int yrg, .long yhp, .int (nI ylw)])), (ysk, .inl (cM, 4, .inr (.inr (.inr (.inr (rr4 ys0 ys1 ys2 ys3)))))), (ys0, .inl (cI, 14, .inl yR0)), (ys1, .inl (cI, 14, .inl yR1)), (ys2, .inl (cI, 14, .inl yR2)), (ys3, .inl (cI, 14, .inl yR3)), (ykd, .inl (cI, 36, .inl ykf)), (ymo, .inl (cI, 36, .inl ymf)), (ylv, .inl (cI, 36, .inl ylf)), (ytc, .inl (cI, 4, .inl ycf)), (yts, .inl (cI, 4, .inl ysf)), (ytl, .inl (cI, 4, .inl ytf))] _ _ _
  refine x_aload_n C dX4_become_127 1 rfl ?_
  refine x_aload_n C dX4_become_128 2 rfl ?_
  refine x_get C inlX4 rfl 8 (by decide) gw_32_22 dX4_become_129 12 rfl rfl ?_
  refine x_put C inlX4 rfl tyX4 tyX4_ok nmX4 8 (by decide) gw_32_22 rfl dX4_become_132 0 rfl (rfl) rfl (Nat.le_of_ble_eq_true rfl) ?_
  show X _ _ [(xw, .inr (3, [.ref xsk, .ref xkd, .ref xmo, .ref xlv, .ref xtc, .ref xts, .ref xtl, .int (nI ytn), .int yrg, .long xhp, .int (nI xlw)])), (xsk, .inl (cM, 4, .inr (.inr (.inr (.inr (rr4 xs0 xs1 xs2 xs3)))))), (xs0, .inl (cI, 14, .inl (va_cpy yR0 xR0 0 0 14))), (xs1, .inl (cI, 14, .inl (va_cpy yR1 xR1 0 0 14))), (xs2, .inl (cI, 14, .inl (va_cpy yR2 xR2 0 0 14))), (xs3, .inl (cI, 14, .inl (va_cpy yR3 xR3 0 0 14))), (xkd, .inl (cI, 36, .inl (va_cpy ykf xkf 0 0 36))), (xmo, .inl (cI, 36, .inl (va_cpy ymf xmf 0 0 36))), (xlv, .inl (cI, 36, .inl (va_cpy ylf xlf 0 0 36))), (xtc, .inl (cI, 4, .inl (va_cpy ycf xcf 0 0 4))), (xts, .inl (cI, 4, .inl (va_cpy ysf xsf 0 0 4))), (xtl, .inl (cI, 4, .inl (va_cpy ytf xtf 0 0 4))), (yw, .inr (3, [.ref ysk, .ref ykd, .ref ymo, .ref ylv, .ref ytc, .ref yts, .ref ytl, .int (nI ytn), .int yrg, .long yhp, .int (nI ylw)])), (ysk, .inl (cM, 4, .inr (.inr (.inr (.inr (rr4 ys0 ys1 ys2 ys3)))))), (ys0, .inl (cI, 14, .inl yR0)), (ys1, .inl (cI, 14, .inl yR1)), (ys2, .inl (cI, 14, .inl yR2)), (ys3, .inl (cI, 14, .inl yR3)), (ykd, .inl (cI, 36, .inl ykf)), (ymo, .inl (cI, 36, .inl ymf)), (ylv, .inl (cI, 36, .inl ylf)), (ytc, .inl (cI, 4, .inl ycf)), (yts, .inl (cI, 4, .inl ysf)), (ytl, .inl (cI, 4, .inl ytf))] _ _ _
  refine x_aload_n C dX4_become_135 1 rfl ?_
  show X _ _ _ _ 136 _
  refine x_aload_n C dX4_become_136 2 rfl ?_
  refine x_get C inlX4 rfl 9 (by decide) gw_3_6 dX4_become_137 12 rfl rfl ?_
  refine x_put C inlX4 rfl tyX4 tyX4_ok nmX4 9 (by decide) gw_3_6 rfl dX4_become_140 0 rfl (rfl) rfl (Nat.le_of_ble_eq_true rfl) ?_
  show X _ _ [(xw, .inr (3, [.ref xsk, .ref xkd, .ref xmo, .ref xlv, .ref xtc, .ref xts, .ref xtl, .int (nI ytn), .int yrg, .long yhp, .int (nI xlw)])), (xsk, .inl (cM, 4, .inr (.inr (.inr (.inr (rr4 xs0 xs1 xs2 xs3)))))), (xs0, .inl (cI, 14, .inl (va_cpy yR0 xR0 0 0 14))), (xs1, .inl (cI, 14, .inl (va_cpy yR1 xR1 0 0 14))), (xs2, .inl (cI, 14, .inl (va_cpy yR2 xR2 0 0 14))), (xs3, .inl (cI, 14, .inl (va_cpy yR3 xR3 0 0 14))), (xkd, .inl (cI, 36, .inl (va_cpy ykf xkf 0 0 36))), (xmo, .inl (cI, 36, .inl (va_cpy ymf xmf 0 0 36))), (xlv, .inl (cI, 36, .inl (va_cpy ylf xlf 0 0 36))), (xtc, .inl (cI, 4, .inl (va_cpy ycf xcf 0 0 4))), (xts, .inl (cI, 4, .inl (va_cpy ysf xsf 0 0 4))), (xtl, .inl (cI, 4, .inl (va_cpy ytf xtf 0 0 4))), (yw, .inr (3, [.ref ysk, .ref ykd, .ref ymo, .ref ylv, .ref ytc, .ref yts, .ref ytl, .int (nI ytn), .int yrg, .long yhp, .int (nI ylw)])), (ysk, .inl (cM, 4, .inr (.inr (.inr (.inr (rr4 ys0 ys1 ys2 ys3)))))), (ys0, .inl (cI, 14, .inl yR0)), (ys1, .inl (cI, 14, .inl yR1)), (ys2, .inl (cI, 14, .inl yR2)), (ys3, .inl (cI, 14, .inl yR3)), (ykd, .inl (cI, 36, .inl ykf)), (ymo, .inl (cI, 36, .inl ymf)), (ylv, .inl (cI, 36, .inl ylf)), (ytc, .inl (cI, 4, .inl ycf)), (yts, .inl (cI, 4, .inl ysf)), (ytl, .inl (cI, 4, .inl ytf))] _ _ _
  refine x_aload_n C dX4_become_143 1 rfl ?_
  refine x_aload_n C dX4_become_144 2 rfl ?_
  refine x_get C inlX4 rfl 10 (by decide) gw_32_23 dX4_become_145 12 rfl rfl ?_
  refine x_put C inlX4 rfl tyX4 tyX4_ok nmX4 10 (by decide) gw_32_23 rfl dX4_become_148 0 rfl (rfl) rfl (Nat.le_of_ble_eq_true rfl) ?_
  show X _ _ [(xw, .inr (3, [.ref xsk, .ref xkd, .ref xmo, .ref xlv, .ref xtc, .ref xts, .ref xtl, .int (nI ytn), .int yrg, .long yhp, .int (nI ylw)])), (xsk, .inl (cM, 4, .inr (.inr (.inr (.inr (rr4 xs0 xs1 xs2 xs3)))))), (xs0, .inl (cI, 14, .inl (va_cpy yR0 xR0 0 0 14))), (xs1, .inl (cI, 14, .inl (va_cpy yR1 xR1 0 0 14))), (xs2, .inl (cI, 14, .inl (va_cpy yR2 xR2 0 0 14))), (xs3, .inl (cI, 14, .inl (va_cpy yR3 xR3 0 0 14))), (xkd, .inl (cI, 36, .inl (va_cpy ykf xkf 0 0 36))), (xmo, .inl (cI, 36, .inl (va_cpy ymf xmf 0 0 36))), (xlv, .inl (cI, 36, .inl (va_cpy ylf xlf 0 0 36))), (xtc, .inl (cI, 4, .inl (va_cpy ycf xcf 0 0 4))), (xts, .inl (cI, 4, .inl (va_cpy ysf xsf 0 0 4))), (xtl, .inl (cI, 4, .inl (va_cpy ytf xtf 0 0 4))), (yw, .inr (3, [.ref ysk, .ref ykd, .ref ymo, .ref ylv, .ref ytc, .ref yts, .ref ytl, .int (nI ytn), .int yrg, .long yhp, .int (nI ylw)])), (ysk, .inl (cM, 4, .inr (.inr (.inr (.inr (rr4 ys0 ys1 ys2 ys3)))))), (ys0, .inl (cI, 14, .inl yR0)), (ys1, .inl (cI, 14, .inl yR1)), (ys2, .inl (cI, 14, .inl yR2)), (ys3, .inl (cI, 14, .inl yR3)), (ykd, .inl (cI, 36, .inl ykf)), (ymo, .inl (cI, 36, .inl ymf)), (ylv, .inl (cI, 36, .inl ylf)), (ytc, .inl (cI, 4, .inl ycf)), (yts, .inl (cI, 4, .inl ysf)), (ytl, .inl (cI, 4, .inl ytf))] _ _ _
  refine x_arr C 2 rfl yR0 (q_cpy) ?_
  show X _ _ [(xw, .inr (3, [.ref xsk, .ref xkd, .ref xmo, .ref xlv, .ref xtc, .ref xts, .ref xtl, .int (nI ytn), .int yrg, .long yhp, .int (nI ylw)])), (xsk, .inl (cM, 4, .inr (.inr (.inr (.inr (rr4 xs0 xs1 xs2 xs3)))))), (xs0, .inl (cI, 14, .inl yR0)), (xs1, .inl (cI, 14, .inl (va_cpy yR1 xR1 0 0 14))), (xs2, .inl (cI, 14, .inl (va_cpy yR2 xR2 0 0 14))), (xs3, .inl (cI, 14, .inl (va_cpy yR3 xR3 0 0 14))), (xkd, .inl (cI, 36, .inl (va_cpy ykf xkf 0 0 36))), (xmo, .inl (cI, 36, .inl (va_cpy ymf xmf 0 0 36))), (xlv, .inl (cI, 36, .inl (va_cpy ylf xlf 0 0 36))), (xtc, .inl (cI, 4, .inl (va_cpy ycf xcf 0 0 4))), (xts, .inl (cI, 4, .inl (va_cpy ysf xsf 0 0 4))), (xtl, .inl (cI, 4, .inl (va_cpy ytf xtf 0 0 4))), (yw, .inr (3, [.ref ysk, .ref ykd, .ref ymo, .ref ylv, .ref ytc, .ref yts, .ref ytl, .int (nI ytn), .int yrg, .long yhp, .int (nI ylw)])), (ysk, .inl (cM, 4, .inr (.inr (.inr (.inr (rr4 ys0 ys1 ys2 ys3)))))), (ys0, .inl (cI, 14, .inl yR0)), (ys1, .inl (cI, 14, .inl yR1)), (ys2, .inl (cI, 14, .inl yR2)), (ys3, .inl (cI, 14, .inl yR3)), (ykd, .inl (cI, 36, .inl ykf)), (ymo, .inl (cI, 36, .inl ymf)), (ylv, .inl (cI, 36, .inl ylf)), (ytc, .inl (cI, 4, .inl ycf)), (yts, .inl (cI, 4, .inl ysf)), (ytl, .inl (cI, 4, .inl ytf))] _ _ _
  refine x_arr C 3 rfl yR1 (q_cpy) ?_
  show X _ _ [(xw, .inr (3, [.ref xsk, .ref xkd, .ref xmo, .ref xlv, .ref xtc, .ref xts, .ref xtl, .int (nI ytn), .int yrg, .long yhp, .int (nI ylw)])), (xsk, .inl (cM, 4, .inr (.inr (.inr (.inr (rr4 xs0 xs1 xs2 xs3)))))), (xs0, .inl (cI, 14, .inl yR0)), (xs1, .inl (cI, 14, .inl yR1)), (xs2, .inl (cI, 14, .inl (va_cpy yR2 xR2 0 0 14))), (xs3, .inl (cI, 14, .inl (va_cpy yR3 xR3 0 0 14))), (xkd, .inl (cI, 36, .inl (va_cpy ykf xkf 0 0 36))), (xmo, .inl (cI, 36, .inl (va_cpy ymf xmf 0 0 36))), (xlv, .inl (cI, 36, .inl (va_cpy ylf xlf 0 0 36))), (xtc, .inl (cI, 4, .inl (va_cpy ycf xcf 0 0 4))), (xts, .inl (cI, 4, .inl (va_cpy ysf xsf 0 0 4))), (xtl, .inl (cI, 4, .inl (va_cpy ytf xtf 0 0 4))), (yw, .inr (3, [.ref ysk, .ref ykd, .ref ymo, .ref ylv, .ref ytc, .ref yts, .ref ytl, .int (nI ytn), .int yrg, .long yhp, .int (nI ylw)])), (ysk, .inl (cM, 4, .inr (.inr (.inr (.inr (rr4 ys0 ys1 ys2 ys3)))))), (ys0, .inl (cI, 14, .inl yR0)), (ys1, .inl (cI, 14, .inl yR1)), (ys2, .inl (cI, 14, .inl yR2)), (ys3, .inl (cI, 14, .inl yR3)), (ykd, .inl (cI, 36, .inl ykf)), (ymo, .inl (cI, 36, .inl ymf)), (ylv, .inl (cI, 36, .inl ylf)), (ytc, .inl (cI, 4, .inl ycf)), (yts, .inl (cI, 4, .inl ysf)), (ytl, .inl (cI, 4, .inl ytf))] _ _ _
  refine x_arr C 4 rfl yR2 (q_cpy) ?_
  show X _ _ [(xw, .inr (3, [.ref xsk, .ref xkd, .ref xmo, .ref xlv, .ref xtc, .ref xts, .ref xtl, .int (nI ytn), .int yrg, .long yhp, .int (nI ylw)])), (xsk, .inl (cM, 4, .inr (.inr (.inr (.inr (rr4 xs0 xs1 xs2 xs3)))))), (xs0, .inl (cI, 14, .inl yR0)), (xs1, .inl (cI, 14, .inl yR1)), (xs2, .inl (cI, 14, .inl yR2)), (xs3, .inl (cI, 14, .inl (va_cpy yR3 xR3 0 0 14))), (xkd, .inl (cI, 36, .inl (va_cpy ykf xkf 0 0 36))), (xmo, .inl (cI, 36, .inl (va_cpy ymf xmf 0 0 36))), (xlv, .inl (cI, 36, .inl (va_cpy ylf xlf 0 0 36))), (xtc, .inl (cI, 4, .inl (va_cpy ycf xcf 0 0 4))), (xts, .inl (cI, 4, .inl (va_cpy ysf xsf 0 0 4))), (xtl, .inl (cI, 4, .inl (va_cpy ytf xtf 0 0 4))), (yw, .inr (3, [.ref ysk, .ref ykd, .ref ymo, .ref ylv, .ref ytc, .ref yts, .ref ytl, .int (nI ytn), .int yrg, .long yhp, .int (nI ylw)])), (ysk, .inl (cM, 4, .inr (.inr (.inr (.inr (rr4 ys0 ys1 ys2 ys3)))))), (ys0, .inl (cI, 14, .inl yR0)), (ys1, .inl (cI, 14, .inl yR1)), (ys2, .inl (cI, 14, .inl yR2)), (ys3, .inl (cI, 14, .inl yR3)), (ykd, .inl (cI, 36, .inl ykf)), (ymo, .inl (cI, 36, .inl ymf)), (ylv, .inl (cI, 36, .inl ylf)), (ytc, .inl (cI, 4, .inl ycf)), (yts, .inl (cI, 4, .inl ysf)), (ytl, .inl (cI, 4, .inl ytf))] _ _ _
  refine x_arr C 5 rfl yR3 (q_cpy) ?_
  show X _ _ [(xw, .inr (3, [.ref xsk, .ref xkd, .ref xmo, .ref xlv, .ref xtc, .ref xts, .ref xtl, .int (nI ytn), .int yrg, .long yhp, .int (nI ylw)])), (xsk, .inl (cM, 4, .inr (.inr (.inr (.inr (rr4 xs0 xs1 xs2 xs3)))))), (xs0, .inl (cI, 14, .inl yR0)), (xs1, .inl (cI, 14, .inl yR1)), (xs2, .inl (cI, 14, .inl yR2)), (xs3, .inl (cI, 14, .inl yR3)), (xkd, .inl (cI, 36, .inl (va_cpy ykf xkf 0 0 36))), (xmo, .inl (cI, 36, .inl (va_cpy ymf xmf 0 0 36))), (xlv, .inl (cI, 36, .inl (va_cpy ylf xlf 0 0 36))), (xtc, .inl (cI, 4, .inl (va_cpy ycf xcf 0 0 4))), (xts, .inl (cI, 4, .inl (va_cpy ysf xsf 0 0 4))), (xtl, .inl (cI, 4, .inl (va_cpy ytf xtf 0 0 4))), (yw, .inr (3, [.ref ysk, .ref ykd, .ref ymo, .ref ylv, .ref ytc, .ref yts, .ref ytl, .int (nI ytn), .int yrg, .long yhp, .int (nI ylw)])), (ysk, .inl (cM, 4, .inr (.inr (.inr (.inr (rr4 ys0 ys1 ys2 ys3)))))), (ys0, .inl (cI, 14, .inl yR0)), (ys1, .inl (cI, 14, .inl yR1)), (ys2, .inl (cI, 14, .inl yR2)), (ys3, .inl (cI, 14, .inl yR3)), (ykd, .inl (cI, 36, .inl ykf)), (ymo, .inl (cI, 36, .inl ymf)), (ylv, .inl (cI, 36, .inl ylf)), (ytc, .inl (cI, 4, .inl ycf)), (yts, .inl (cI, 4, .inl ysf)), (ytl, .inl (cI, 4, .inl ytf))] _ _ _
  refine x_arr C 6 rfl ykf (q_cpy) ?_
  show X _ _ [(xw, .inr (3, [.ref xsk, .ref xkd, .ref xmo, .ref xlv, .ref xtc, .ref xts, .ref xtl, .int (nI ytn), .int yrg, .long yhp, .int (nI ylw)])), (xsk, .inl (cM, 4, .inr (.inr (.inr (.inr (rr4 xs0 xs1 xs2 xs3)))))), (xs0, .inl (cI, 14, .inl yR0)), (xs1, .inl (cI, 14, .inl yR1)), (xs2, .inl (cI, 14, .inl yR2)), (xs3, .inl (cI, 14, .inl yR3)), (xkd, .inl (cI, 36, .inl ykf)), (xmo, .inl (cI, 36, .inl (va_cpy ymf xmf 0 0 36))), (xlv, .inl (cI, 36, .inl (va_cpy ylf xlf 0 0 36))), (xtc, .inl (cI, 4, .inl (va_cpy ycf xcf 0 0 4))), (xts, .inl (cI, 4, .inl (va_cpy ysf xsf 0 0 4))), (xtl, .inl (cI, 4, .inl (va_cpy ytf xtf 0 0 4))), (yw, .inr (3, [.ref ysk, .ref ykd, .ref ymo, .ref ylv, .ref ytc, .ref yts, .ref ytl, .int (nI ytn), .int yrg, .long yhp, .int (nI ylw)])), (ysk, .inl (cM, 4, .inr (.inr (.inr (.inr (rr4 ys0 ys1 ys2 ys3)))))), (ys0, .inl (cI, 14, .inl yR0)), (ys1, .inl (cI, 14, .inl yR1)), (ys2, .inl (cI, 14, .inl yR2)), (ys3, .inl (cI, 14, .inl yR3)), (ykd, .inl (cI, 36, .inl ykf)), (ymo, .inl (cI, 36, .inl ymf)), (ylv, .inl (cI, 36, .inl ylf)), (ytc, .inl (cI, 4, .inl ycf)), (yts, .inl (cI, 4, .inl ysf)), (ytl, .inl (cI, 4, .inl ytf))] _ _ _
  refine x_arr C 7 rfl ymf (q_cpy) ?_
  show X _ _ [(xw, .inr (3, [.ref xsk, .ref xkd, .ref xmo, .ref xlv, .ref xtc, .ref xts, .ref xtl, .int (nI ytn), .int yrg, .long yhp, .int (nI ylw)])), (xsk, .inl (cM, 4, .inr (.inr (.inr (.inr (rr4 xs0 xs1 xs2 xs3)))))), (xs0, .inl (cI, 14, .inl yR0)), (xs1, .inl (cI, 14, .inl yR1)), (xs2, .inl (cI, 14, .inl yR2)), (xs3, .inl (cI, 14, .inl yR3)), (xkd, .inl (cI, 36, .inl ykf)), (xmo, .inl (cI, 36, .inl ymf)), (xlv, .inl (cI, 36, .inl (va_cpy ylf xlf 0 0 36))), (xtc, .inl (cI, 4, .inl (va_cpy ycf xcf 0 0 4))), (xts, .inl (cI, 4, .inl (va_cpy ysf xsf 0 0 4))), (xtl, .inl (cI, 4, .inl (va_cpy ytf xtf 0 0 4))), (yw, .inr (3, [.ref ysk, .ref ykd, .ref ymo, .ref ylv, .ref ytc, .ref yts, .ref ytl, .int (nI ytn), .int yrg, .long yhp, .int (nI ylw)])), (ysk, .inl (cM, 4, .inr (.inr (.inr (.inr (rr4 ys0 ys1 ys2 ys3)))))), (ys0, .inl (cI, 14, .inl yR0)), (ys1, .inl (cI, 14, .inl yR1)), (ys2, .inl (cI, 14, .inl yR2)), (ys3, .inl (cI, 14, .inl yR3)), (ykd, .inl (cI, 36, .inl ykf)), (ymo, .inl (cI, 36, .inl ymf)), (ylv, .inl (cI, 36, .inl ylf)), (ytc, .inl (cI, 4, .inl ycf)), (yts, .inl (cI, 4, .inl ysf)), (ytl, .inl (cI, 4, .inl ytf))] _ _ _
  refine x_arr C 8 rfl ylf (q_cpy) ?_
  show X _ _ [(xw, .inr (3, [.ref xsk, .ref xkd, .ref xmo, .ref xlv, .ref xtc, .ref xts, .ref xtl, .int (nI ytn), .int yrg, .long yhp, .int (nI ylw)])), (xsk, .inl (cM, 4, .inr (.inr (.inr (.inr (rr4 xs0 xs1 xs2 xs3)))))), (xs0, .inl (cI, 14, .inl yR0)), (xs1, .inl (cI, 14, .inl yR1)), (xs2, .inl (cI, 14, .inl yR2)), (xs3, .inl (cI, 14, .inl yR3)), (xkd, .inl (cI, 36, .inl ykf)), (xmo, .inl (cI, 36, .inl ymf)), (xlv, .inl (cI, 36, .inl ylf)), (xtc, .inl (cI, 4, .inl (va_cpy ycf xcf 0 0 4))), (xts, .inl (cI, 4, .inl (va_cpy ysf xsf 0 0 4))), (xtl, .inl (cI, 4, .inl (va_cpy ytf xtf 0 0 4))), (yw, .inr (3, [.ref ysk, .ref ykd, .ref ymo, .ref ylv, .ref ytc, .ref yts, .ref ytl, .int (nI ytn), .int yrg, .long yhp, .int (nI ylw)])), (ysk, .inl (cM, 4, .inr (.inr (.inr (.inr (rr4 ys0 ys1 ys2 ys3)))))), (ys0, .inl (cI, 14, .inl yR0)), (ys1, .inl (cI, 14, .inl yR1)), (ys2, .inl (cI, 14, .inl yR2)), (ys3, .inl (cI, 14, .inl yR3)), (ykd, .inl (cI, 36, .inl ykf)), (ymo, .inl (cI, 36, .inl ymf)), (ylv, .inl (cI, 36, .inl ylf)), (ytc, .inl (cI, 4, .inl ycf)), (yts, .inl (cI, 4, .inl ysf)), (ytl, .inl (cI, 4, .inl ytf))] _ _ _
  refine x_arr C 9 rfl ycf (q_cpy) ?_
  show X _ _ [(xw, .inr (3, [.ref xsk, .ref xkd, .ref xmo, .ref xlv, .ref xtc, .ref xts, .ref xtl, .int (nI ytn), .int yrg, .long yhp, .int (nI ylw)])), (xsk, .inl (cM, 4, .inr (.inr (.inr (.inr (rr4 xs0 xs1 xs2 xs3)))))), (xs0, .inl (cI, 14, .inl yR0)), (xs1, .inl (cI, 14, .inl yR1)), (xs2, .inl (cI, 14, .inl yR2)), (xs3, .inl (cI, 14, .inl yR3)), (xkd, .inl (cI, 36, .inl ykf)), (xmo, .inl (cI, 36, .inl ymf)), (xlv, .inl (cI, 36, .inl ylf)), (xtc, .inl (cI, 4, .inl ycf)), (xts, .inl (cI, 4, .inl (va_cpy ysf xsf 0 0 4))), (xtl, .inl (cI, 4, .inl (va_cpy ytf xtf 0 0 4))), (yw, .inr (3, [.ref ysk, .ref ykd, .ref ymo, .ref ylv, .ref ytc, .ref yts, .ref ytl, .int (nI ytn), .int yrg, .long yhp, .int (nI ylw)])), (ysk, .inl (cM, 4, .inr (.inr (.inr (.inr (rr4 ys0 ys1 ys2 ys3)))))), (ys0, .inl (cI, 14, .inl yR0)), (ys1, .inl (cI, 14, .inl yR1)), (ys2, .inl (cI, 14, .inl yR2)), (ys3, .inl (cI, 14, .inl yR3)), (ykd, .inl (cI, 36, .inl ykf)), (ymo, .inl (cI, 36, .inl ymf)), (ylv, .inl (cI, 36, .inl ylf)), (ytc, .inl (cI, 4, .inl ycf)), (yts, .inl (cI, 4, .inl ysf)), (ytl, .inl (cI, 4, .inl ytf))] _ _ _
  refine x_arr C 10 rfl ysf (q_cpy) ?_
  show X _ _ [(xw, .inr (3, [.ref xsk, .ref xkd, .ref xmo, .ref xlv, .ref xtc, .ref xts, .ref xtl, .int (nI ytn), .int yrg, .long yhp, .int (nI ylw)])), (xsk, .inl (cM, 4, .inr (.inr (.inr (.inr (rr4 xs0 xs1 xs2 xs3)))))), (xs0, .inl (cI, 14, .inl yR0)), (xs1, .inl (cI, 14, .inl yR1)), (xs2, .inl (cI, 14, .inl yR2)), (xs3, .inl (cI, 14, .inl yR3)), (xkd, .inl (cI, 36, .inl ykf)), (xmo, .inl (cI, 36, .inl ymf)), (xlv, .inl (cI, 36, .inl ylf)), (xtc, .inl (cI, 4, .inl ycf)), (xts, .inl (cI, 4, .inl ysf)), (xtl, .inl (cI, 4, .inl (va_cpy ytf xtf 0 0 4))), (yw, .inr (3, [.ref ysk, .ref ykd, .ref ymo, .ref ylv, .ref ytc, .ref yts, .ref ytl, .int (nI ytn), .int yrg, .long yhp, .int (nI ylw)])), (ysk, .inl (cM, 4, .inr (.inr (.inr (.inr (rr4 ys0 ys1 ys2 ys3)))))), (ys0, .inl (cI, 14, .inl yR0)), (ys1, .inl (cI, 14, .inl yR1)), (ys2, .inl (cI, 14, .inl yR2)), (ys3, .inl (cI, 14, .inl yR3)), (ykd, .inl (cI, 36, .inl ykf)), (ymo, .inl (cI, 36, .inl ymf)), (ylv, .inl (cI, 36, .inl ylf)), (ytc, .inl (cI, 4, .inl ycf)), (yts, .inl (cI, 4, .inl ysf)), (ytl, .inl (cI, 4, .inl ytf))] _ _ _
  refine x_arr C 11 rfl ytf (q_cpy) ?_
  show X _ _ [(xw, .inr (3, [.ref xsk, .ref xkd, .ref xmo, .ref xlv, .ref xtc, .ref xts, .ref xtl, .int (nI ytn), .int yrg, .long yhp, .int (nI ylw)])), (xsk, .inl (cM, 4, .inr (.inr (.inr (.inr (rr4 xs0 xs1 xs2 xs3)))))), (xs0, .inl (cI, 14, .inl yR0)), (xs1, .inl (cI, 14, .inl yR1)), (xs2, .inl (cI, 14, .inl yR2)), (xs3, .inl (cI, 14, .inl yR3)), (xkd, .inl (cI, 36, .inl ykf)), (xmo, .inl (cI, 36, .inl ymf)), (xlv, .inl (cI, 36, .inl ylf)), (xtc, .inl (cI, 4, .inl ycf)), (xts, .inl (cI, 4, .inl ysf)), (xtl, .inl (cI, 4, .inl ytf)), (yw, .inr (3, [.ref ysk, .ref ykd, .ref ymo, .ref ylv, .ref ytc, .ref yts, .ref ytl, .int (nI ytn), .int yrg, .long yhp, .int (nI ylw)])), (ysk, .inl (cM, 4, .inr (.inr (.inr (.inr (rr4 ys0 ys1 ys2 ys3)))))), (ys0, .inl (cI, 14, .inl yR0)), (ys1, .inl (cI, 14, .inl yR1)), (ys2, .inl (cI, 14, .inl yR2)), (ys3, .inl (cI, 14, .inl yR3)), (ykd, .inl (cI, 36, .inl ykf)), (ymo, .inl (cI, 36, .inl ymf)), (ylv, .inl (cI, 36, .inl ylf)), (ytc, .inl (cI, 4, .inl ycf)), (yts, .inl (cI, 4, .inl ysf)), (ytl, .inl (cI, 4, .inl ytf))] _ _ _
  refine E dX4_become_151 ?_
  exact ⟨rfl, rfl, by trivial⟩
set_option maxHeartbeats 4000000 in
set_option maxRecDepth 100000 in
theorem c_X4_layOut (l : Launch) (dG : va_G) (cI cM cW cS : ClassId) (w sk kd mo lv tc ts tl s0 s1 s2 s3 : Nat) (tn lw : Nat) (rg : Int32) (hp : Int64) (kf mf : Nat → Int32) (c : Nat) (k9 m9 : Int32) (hc : c < 36) : rM l yX4_layOut cX4_layOut 4 none ({ frames := 0, cells := 0, slots := 0, locals := 0 } : Room) dG (tY cI cM cW cS) rZ0 [.ref w, .int (nI c), .int k9, .int m9] [(w, .inr (3, [.ref sk, .ref kd, .ref mo, .ref lv, .ref tc, .ref ts, .ref tl, .int (nI tn), .int rg, .long hp, .int (nI lw)])), (kd, .inl (cI, 36, .inl kf)), (mo, .inl (cI, 36, .inl mf))] (fun ov oz => ov = none ∧ oz = [(w, .inr (3, [.ref sk, .ref kd, .ref mo, .ref lv, .ref tc, .ref ts, .ref tl, .int (nI tn), .int rg, .long hp, .int (nI lw)])), (kd, .inl (cI, 36, .inl (upd kf c k9))), (mo, .inl (cI, 36, .inl (upd mf c m9)))] ∧ True) := by
  refine rM_ofV false (by intro h; cases h) rfl (Nat.le_of_ble_eq_true rfl) rfl (fun X C E => ?_)
  show X 0 0 [(w, .inr (3, [.ref sk, .ref kd, .ref mo, .ref lv, .ref tc, .ref ts, .ref tl, .int (nI tn), .int rg, .long hp, .int (nI lw)])), (kd, .inl (cI, 36, .inl kf)), (mo, .inl (cI, 36, .inl mf))] [(0, .ref w), (1, .int (nI c)), (2, .int k9), (3, .int m9)] 0 []
  refine x_aload_n C dX4_layOut_0 0 rfl ?_
  refine x_get C inlX4 rfl 1 (by decide) gw_3_0 dX4_layOut_1 0 rfl rfl ?_
  refine x_iload_n C dX4_layOut_4 1 rfl ?_
  refine x_iload_n C dX4_layOut_5 2 rfl ?_
  refine x_iastore C 0 rfl dX4_layOut_6 c (q_cl rfl (by omega)) (q_ix rfl (by omega) (by omega)) 1 rfl ?_
  show X _ _ [(w, .inr (3, [.ref sk, .ref kd, .ref mo, .ref lv, .ref tc, .ref ts, .ref tl, .int (nI tn), .int rg, .long hp, .int (nI lw)])), (kd, .inl (cI, 36, .inl (upd kf c k9))), (mo, .inl (cI, 36, .inl mf))] _ _ _
  refine x_aload_n C dX4_layOut_7 0 rfl ?_
  refine x_get C inlX4 rfl 2 (by decide) gw_3_1 dX4_layOut_8 0 rfl rfl ?_
  refine x_iload_n C dX4_layOut_11 1 rfl ?_
  refine x_iload_n C dX4_layOut_12 3 rfl ?_
  refine x_iastore C 0 rfl dX4_layOut_13 c (q_cl rfl (by omega)) (q_ix rfl (by omega) (by omega)) 2 rfl ?_
  show X _ _ [(w, .inr (3, [.ref sk, .ref kd, .ref mo, .ref lv, .ref tc, .ref ts, .ref tl, .int (nI tn), .int rg, .long hp, .int (nI lw)])), (kd, .inl (cI, 36, .inl (upd kf c k9))), (mo, .inl (cI, 36, .inl (upd mf c m9)))] _ _ _
  show X _ _ _ _ 14 _
  refine E dX4_layOut_14 ?_
  exact ⟨rfl, rfl, by trivial⟩
set_option maxHeartbeats 4000000 in
set_option maxRecDepth 100000 in
theorem c_X4_leavesTogether (l : Launch) (dG : va_G) (cI cM cW cS : ClassId) (w sk kd mo lv tc ts tl s0 s1 s2 s3 : Nat) (tn lw : Nat) (rg : Int32) (hp : Int64) (lf : Nat → Int32) : rM l yX4_leavesTogether cX4_leavesTogether 3 (some .int) ({ frames := 0, cells := 0, slots := 0, locals := 0 } : Room) dG (tY cI cM cW cS) rZ0 [.ref w] [(w, .inr (3, [.ref sk, .ref kd, .ref mo, .ref lv, .ref tc, .ref ts, .ref tl, .int (nI tn), .int rg, .long hp, .int (nI lw)])), (lv, .inl (cI, 36, .inl lf))] (fun ov oz => ∃ (r : Int32), ov = some (.int r) ∧ oz = [(w, .inr (3, [.ref sk, .ref kd, .ref mo, .ref lv, .ref tc, .ref ts, .ref tl, .int (nI tn), .int rg, .long hp, .int (nI lw)])), (lv, .inl (cI, 36, .inl lf))] ∧ r = s_sum lf 36) := by
  refine rM_ofI rfl (Nat.le_of_ble_eq_true rfl) rfl (fun X C E => ?_)
  show X 0 0 [(w, .inr (3, [.ref sk, .ref kd, .ref mo, .ref lv, .ref tc, .ref ts, .ref tl, .int (nI tn), .int rg, .long hp, .int (nI lw)])), (lv, .inl (cI, 36, .inl lf))] [(0, .ref w)] 0 []
  refine x_iconst C dX4_leavesTogether_0 (v := 0) rfl ?_
  refine x_istore_n C dX4_leavesTogether_1 (by decide) (lv' := [(1, .int 0), (0, .ref w)]) rfl ?_
  refine x_iconst C dX4_leavesTogether_2 (v := 0) rfl ?_
  refine x_istore_n C dX4_leavesTogether_3 (by decide) (lv' := [(2, .int 0), (1, .int 0), (0, .ref w)]) rfl ?_
  have L4_0 : ∀ (fuel : Nat) (i : Nat) (a9 : Int32), (hi : i ≤ 36) → (ha : a9 = s_sum lf i) → 36 - i < fuel → X 0 0 [(w, .inr (3, [.ref sk, .ref kd, .ref mo, .ref lv, .ref tc, .ref ts, .ref tl, .int (nI tn), .int rg, .long hp, .int (nI lw)])), (lv, .inl (cI, 36, .inl lf))] [(2, .int (nI i)), (1, .int a9), (0, .ref w)] 4 [] := by
    intro fuel
    induction fuel with
    | zero => intros; omega
    | succ fuel ihL4_0 =>
      intro i a9 hi ha hfu
      refine x_iload_n C dX4_leavesTogether_4 0 rfl ?_
      refine x_bipush C dX4_leavesTogether_5 (v := 36) rfl ?_
      refine x_icmp_ge C dX4_leavesTogether_7 (tgt := 25) rfl (fun c2 => ?_) (fun c2 => ?_)
      ·
        have c2 : i ≥ 36 := q_ge_t rfl (rfl : (36 : Int32) = nI 36) (by omega) (by omega) c2
        refine x_iload_n C dX4_leavesTogether_25 1 rfl ?_
        refine E dX4_leavesTogether_26 (rfl) ?_
        exact ⟨a9, rfl, rfl, by rw [ha, show i = 36 by omega]⟩
      ·
        have c2 : i < 36 := q_ge_f rfl (rfl : (36 : Int32) = nI 36) (by omega) (by omega) c2
        refine x_iload_n C dX4_leavesTogether_10 1 rfl ?_
        refine x_aload_n C dX4_leavesTogether_11 2 rfl ?_
        refine x_get C inlX4 rfl 3 (by decide) gw_3_2 dX4_leavesTogether_12 0 rfl rfl ?_
        refine x_iload_n C dX4_leavesTogether_15 0 rfl ?_
        refine x_iaload C 0 rfl dX4_leavesTogether_16 i (q_cl rfl (by omega)) (q_ix rfl (by omega) (by omega)) 1 rfl ?_
        refine x_iadd C dX4_leavesTogether_17 ?_
        refine x_istore_n C dX4_leavesTogether_18 (by decide) (lv' := [(1, .int (a9 + (lf i))), (2, .int (nI i)), (0, .ref w)]) rfl ?_
        refine x_iinc C dX4_leavesTogether_19 1 rfl (v := nI (i + 1)) (nI_1 _) (by decide) (lv' := [(2, .int (nI (i + 1))), (1, .int (a9 + (lf i))), (0, .ref w)]) rfl ?_
        refine x_goto C dX4_leavesTogether_22 (tgt := 4) rfl ?_
        exact ihL4_0 (i + 1) (a9 + (lf i)) (by omega) (by rw [ha]; rfl) (by omega)
  show X 0 0 [(w, .inr (3, [.ref sk, .ref kd, .ref mo, .ref lv, .ref tc, .ref ts, .ref tl, .int (nI tn), .int rg, .long hp, .int (nI lw)])), (lv, .inl (cI, 36, .inl lf))] [(2, .int (nI 0)), (1, .int 0), (0, .ref w)] 4 []
  exact L4_0 ((36 - 0) + 1) 0 0 (by omega) (rfl) (Nat.lt_succ_self _)
set_option maxHeartbeats 4000000 in
set_option maxRecDepth 100000 in
theorem c_X4_draw (l : Launch) (dG : va_G) (cI cM cW cS : ClassId) (w sk kd mo lv tc ts tl s0 s1 s2 s3 : Nat) (tn lw : Nat) (rg : Int32) (hp : Int64) (R0 R1 : Nat → Int32) (sd : Nat) (hsd : sd < 200000) : rM l yX4_draw cX4_draw 5 none ({ frames := 0, cells := 0, slots := 0, locals := 0 } : Room) dG (tY cI cM cW cS) rZ0 [.ref w, .int (nI sd)] [(w, .inr (3, [.ref sk, .ref kd, .ref mo, .ref lv, .ref tc, .ref ts, .ref tl, .int (nI tn), .int rg, .long hp, .int (nI lw)])), (sk, .inl (cM, 4, .inr (.inr (.inr (.inr (rr4 s0 s1 s2 s3)))))), (s0, .inl (cI, 14, .inl R0)), (s1, .inl (cI, 14, .inl R1))] (fun ov oz => ov = none ∧ oz = [(w, .inr (3, [.ref sk, .ref kd, .ref mo, .ref lv, .ref tc, .ref ts, .ref tl, .int (nI tn), .int rg, .long hp, .int (nI lw)])), (sk, .inl (cM, 4, .inr (.inr (.inr (.inr (rr4 s0 s1 s2 s3)))))), (s0, .inl (cI, 14, .inl (nIf (s_lw sd)))), (s1, .inl (cI, 14, .inl (nIf (s_ls sd))))] ∧ True) := by
  refine rM_ofV false (by intro h; cases h) rfl (Nat.le_of_ble_eq_true rfl) rfl (fun X C E => ?_)
  show X 0 0 [(w, .inr (3, [.ref sk, .ref kd, .ref mo, .ref lv, .ref tc, .ref ts, .ref tl, .int (nI tn), .int rg, .long hp, .int (nI lw)])), (sk, .inl (cM, 4, .inr (.inr (.inr (.inr (rr4 s0 s1 s2 s3)))))), (s0, .inl (cI, 14, .inl R0)), (s1, .inl (cI, 14, .inl R1))] [(0, .ref w), (1, .int (nI sd))] 0 []
  refine x_iload_n C dX4_draw_0 1 rfl ?_
  refine x_iconst C dX4_draw_1 (v := 1) rfl ?_
  refine x_iadd C dX4_draw_2 ?_
  refine x_i2l C dX4_draw_3 ?_
  refine x_topl C (lN (s_lot sd 0)) (by rw [nI_1]; exact nI_l (by omega)) ?_
  refine x_lstore_n C dX4_draw_4 (by decide) (lv' := [(2, .long (lN (s_lot sd 0))), (0, .ref w), (1, .int (nI sd))]) rfl ?_
  refine x_iconst C dX4_draw_5 (v := 0) rfl ?_
  refine x_istore C dX4_draw_6 (by decide) (lv' := [(4, .int 0), (2, .long (lN (s_lot sd 0))), (0, .ref w), (1, .int (nI sd))]) rfl ?_
  have L8_0 : ∀ (fuel : Nat) (d : Nat) (g0 g1 : Nat → Int32), (hd9 : d ≤ 14) → (h0 : ∀ j, g0 j = if j < d then nIf (s_lw sd) j else R0 j) → (h1 : ∀ j, g1 j = if j < d then nIf (s_ls sd) j else R1 j) → 14 - d < fuel → X 0 0 [(w, .inr (3, [.ref sk, .ref kd, .ref mo, .ref lv, .ref tc, .ref ts, .ref tl, .int (nI tn), .int rg, .long hp, .int (nI lw)])), (sk, .inl (cM, 4, .inr (.inr (.inr (.inr (rr4 s0 s1 s2 s3)))))), (s0, .inl (cI, 14, .inl g0)), (s1, .inl (cI, 14, .inl g1))] [(4, .int (nI d)), (2, .long (lN (s_lot sd d))), (0, .ref w)] 8 [] := by
    intro fuel
    induction fuel with
    | zero => intros; omega
    | succ fuel ihL8_0 =>
      intro d g0 g1 hd9 h0 h1 hfu
      refine x_iload C dX4_draw_8 0 rfl ?_
      refine x_bipush C dX4_draw_10 (v := 14) rfl ?_
      refine x_icmp_ge C dX4_draw_12 (tgt := 65) rfl (fun c2 => ?_) (fun c2 => ?_)
      ·
        have c2 : d ≥ 14 := q_ge_t rfl (rfl : (14 : Int32) = nI 14) (by omega) (by omega) c2
        obtain rfl : d = 14 := by omega
        refine x_arr C 2 rfl (nIf (s_lw sd)) (q_end h0) ?_
        show X _ _ [(w, .inr (3, [.ref sk, .ref kd, .ref mo, .ref lv, .ref tc, .ref ts, .ref tl, .int (nI tn), .int rg, .long hp, .int (nI lw)])), (sk, .inl (cM, 4, .inr (.inr (.inr (.inr (rr4 s0 s1 s2 s3)))))), (s0, .inl (cI, 14, .inl (nIf (s_lw sd)))), (s1, .inl (cI, 14, .inl g1))] _ _ _
        refine x_arr C 3 rfl (nIf (s_ls sd)) (q_end h1) ?_
        show X _ _ [(w, .inr (3, [.ref sk, .ref kd, .ref mo, .ref lv, .ref tc, .ref ts, .ref tl, .int (nI tn), .int rg, .long hp, .int (nI lw)])), (sk, .inl (cM, 4, .inr (.inr (.inr (.inr (rr4 s0 s1 s2 s3)))))), (s0, .inl (cI, 14, .inl (nIf (s_lw sd)))), (s1, .inl (cI, 14, .inl (nIf (s_ls sd))))] _ _ _
        refine E dX4_draw_65 ?_
        exact ⟨rfl, rfl, by trivial⟩
      ·
        have c2 : d < 14 := q_ge_f rfl (rfl : (14 : Int32) = nI 14) (by omega) (by omega) c2
        refine x_lload_n C dX4_draw_15 1 rfl ?_
        refine x_ldc2 C gw_40_2 dX4_draw_16 ?_
        refine x_lmul C dX4_draw_19 ?_
        refine x_ldc2 C gw_40_3 dX4_draw_20 ?_
        refine x_lrem C dX4_draw_23 (by decide) ?_
        refine x_topl C (lN (s_lot sd (d + 1))) (q_lot hsd) ?_
        refine x_lstore_n C dX4_draw_24 (by decide) (lv' := [(2, .long (lN (s_lot sd (d + 1)))), (4, .int (nI d)), (0, .ref w)]) rfl ?_
        refine x_aload_n C dX4_draw_25 2 rfl ?_
        refine x_get C inlX4 rfl 0 (by decide) gw_2_23 dX4_draw_26 0 rfl rfl ?_
        refine x_iconst C dX4_draw_29 (v := 0) rfl ?_
        refine x_aaloadA C 1 rfl dX4_draw_30 0 rfl (q_ix (rfl : (0 : Int32) = nI 0) (by decide) (by decide)) 1 rfl rfl ?_
        show X _ _ _ _ 31 _
        refine x_iload C dX4_draw_31 1 rfl ?_
        refine x_lload_n C dX4_draw_33 0 rfl ?_
        refine x_ldc2 C gw_40_4 dX4_draw_34 ?_
        refine x_lrem C dX4_draw_37 (by decide) ?_
        refine x_l2i C dX4_draw_38 ?_
        have hlt := s_lot_lt hsd (d + 1)
        refine x_topi C (nIf (s_lw sd) d) (q_lw hlt) ?_
        refine x_iastore C 0 rfl dX4_draw_39 d (q_cl rfl (by omega)) (q_ix rfl (by omega) (by omega)) 2 rfl ?_
        show X _ _ [(w, .inr (3, [.ref sk, .ref kd, .ref mo, .ref lv, .ref tc, .ref ts, .ref tl, .int (nI tn), .int rg, .long hp, .int (nI lw)])), (sk, .inl (cM, 4, .inr (.inr (.inr (.inr (rr4 s0 s1 s2 s3)))))), (s0, .inl (cI, 14, .inl (upd g0 d (nIf (s_lw sd) d)))), (s1, .inl (cI, 14, .inl g1))] _ _ _
        refine x_aload_n C dX4_draw_40 2 rfl ?_
        refine x_get C inlX4 rfl 0 (by decide) gw_2_23 dX4_draw_41 0 rfl rfl ?_
        refine x_iconst C dX4_draw_44 (v := 1) rfl ?_
        refine x_aaloadA C 1 rfl dX4_draw_45 1 rfl (q_ix (rfl : (1 : Int32) = nI 1) (by decide) (by decide)) 1 rfl rfl ?_
        show X _ _ _ _ 46 _
        refine x_iload C dX4_draw_46 1 rfl ?_
        refine x_lload_n C dX4_draw_48 0 rfl ?_
        refine x_ldc2 C gw_40_4 dX4_draw_49 ?_
        refine x_ldiv C dX4_draw_52 (by decide) ?_
        refine x_ldc2 C gw_40_5 dX4_draw_53 ?_
        refine x_lrem C dX4_draw_56 (by decide) ?_
        refine x_l2i C dX4_draw_57 ?_
        refine x_topi C (nIf (s_ls sd) d) (q_ls hlt) ?_
        refine x_iastore C 0 rfl dX4_draw_58 d (q_cl rfl (by omega)) (q_ix rfl (by omega) (by omega)) 3 rfl ?_
        show X _ _ [(w, .inr (3, [.ref sk, .ref kd, .ref mo, .ref lv, .ref tc, .ref ts, .ref tl, .int (nI tn), .int rg, .long hp, .int (nI lw)])), (sk, .inl (cM, 4, .inr (.inr (.inr (.inr (rr4 s0 s1 s2 s3)))))), (s0, .inl (cI, 14, .inl (upd g0 d (nIf (s_lw sd) d)))), (s1, .inl (cI, 14, .inl (upd g1 d (nIf (s_ls sd) d))))] _ _ _
        refine x_iinc C dX4_draw_59 1 rfl (v := nI (d + 1)) (nI_1 _) (by decide) (lv' := [(4, .int (nI (d + 1))), (2, .long (lN (s_lot sd (d + 1)))), (0, .ref w)]) rfl ?_
        refine x_goto C dX4_draw_62 (tgt := 8) rfl ?_
        exact ihL8_0 (d + 1) (upd g0 d (nIf (s_lw sd) d)) (upd g1 d (nIf (s_ls sd) d)) (by omega) (q_up h0 rfl) (q_up h1 rfl) (by omega)
  refine x_lv C [0, 1, 2] (lv' := [(4, .int 0), (2, .long (lN (s_lot sd 0))), (0, .ref w)]) rfl ?_
  show X 0 0 [(w, .inr (3, [.ref sk, .ref kd, .ref mo, .ref lv, .ref tc, .ref ts, .ref tl, .int (nI tn), .int rg, .long hp, .int (nI lw)])), (sk, .inl (cM, 4, .inr (.inr (.inr (.inr (rr4 s0 s1 s2 s3)))))), (s0, .inl (cI, 14, .inl R0)), (s1, .inl (cI, 14, .inl R1))] [(4, .int (nI 0)), (2, .long (lN (s_lot sd 0))), (0, .ref w)] 8 []
  exact L8_0 ((14 - 0) + 1) 0 R0 R1 (by omega) (q_0) (q_0) (Nat.lt_succ_self _)
