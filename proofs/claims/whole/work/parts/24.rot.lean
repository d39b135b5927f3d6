theorem kV_X0_110 : GoodIn GW (wsV RX0 110 yX3_says.cls yX3_says (Cond.code yX3_says cX3_says 6 (some .int) :: GW)) := r_gV gw_24_14 gw_17_12 gw_17_13 gw_2_15 gw_17_14
theorem hy_X3_says : yX3_says.cls ≠ "java/lang/invoke/MethodHandle" ∧ yX3_says.cls ≠ "java/lang/invoke/VarHandle" ∧ (parseMethodDescriptor yX3_says.desc).map (fun d => d.parameters.length) = some 2 := ⟨by decide +kernel, by decide +kernel, by decide +kernel⟩
set_option maxHeartbeats 4000000 in
set_option maxRecDepth 100000 in
theorem c_X0_portion_0 (l : Launch) (dG : va_G) (cI cM cW cS : ClassId) (o ly l0 l1 bl b0 b1 cv hg fl of_ nm : Nat) (rt rk ct : Int32) (q qc qs qe : Nat) (sz : Int32) (cd sq en : Nat → Int32) (T : sT) (D W N0 : Nat → Int32) (so fr : Int32) (p c : Nat) (my : Int32) (hp : p < 3) (hc : c < 36) (hn1 : N0 1 = so) (hn2 : N0 2 = fr) (hok : s_ok T) (hL : s_law cd en T) : rM l yX0_portion cX0_portion 7 (some .int) ({ frames := 3, cells := 0, slots := 0, locals := 67 } : Room) dG (tY cI cM cW cS) rZ0 [.ref o, .ref q, .int (nI p), .int (nI c), .int 0, .int my] [(o, .inr (0, [.ref ly, .ref bl, .ref cv, .ref hg, .ref fl, .ref of_, .ref nm, .int rt, .int rk, .int ct])), (ly, .inl (cM, 2, .inr (.inr (.inr (.inr (rr2 l0 l1)))))), (l0, .inl (cI, 36, .inl D)), (l1, .inl (cI, 36, .inl W)), (nm, .inl (cI, 6, .inl N0)), (q, .inr (2, [.ref qc, .ref qs, .ref qe, .int sz])), (qc, .inl (cI, 160, .inl cd)), (qs, .inl (cI, 160, .inl sq)), (qe, .inl (cI, 3, .inl en))] (fun ov oz => ∃ (r : Int32) (N0' : Nat → Int32) (sq' : Nat → Int32), ov = some (.int r) ∧ oz = [(o, .inr (0, [.ref ly, .ref bl, .ref cv, .ref hg, .ref fl, .ref of_, .ref nm, .int rt, .int rk, .int ct])), (ly, .inl (cM, 2, .inr (.inr (.inr (.inr (rr2 l0 l1)))))), (l0, .inl (cI, 36, .inl D)), (l1, .inl (cI, 36, .inl W)), (nm, .inl (cI, 6, .inl N0')), (q, .inr (2, [.ref qc, .ref qs, .ref qe, .int sz])), (qc, .inl (cI, 160, .inl cd)), (qs, .inl (cI, 160, .inl sq')), (qe, .inl (cI, 3, .inl en))] ∧ r = s_pt T p so fr 0 (D c) my ∧ N0' 1 = so ∧ N0' 2 = fr) := by
  refine rM_ofI rfl (Nat.le_of_ble_eq_true rfl) rfl (fun X C E => ?_)
  show X 0 0 [(o, .inr (0, [.ref ly, .ref bl, .ref cv, .ref hg, .ref fl, .ref of_, .ref nm, .int rt, .int rk, .int ct])), (ly, .inl (cM, 2, .inr (.inr (.inr (.inr (rr2 l0 l1)))))), (l0, .inl (cI, 36, .inl D)), (l1, .inl (cI, 36, .inl W)), (nm, .inl (cI, 6, .inl N0)), (q, .inr (2, [.ref qc, .ref qs, .ref qe, .int sz])), (qc, .inl (cI, 160, .inl cd)), (qs, .inl (cI, 160, .inl sq)), (qe, .inl (cI, 3, .inl en))] [(0, .ref o), (1, .ref q), (2, .int (nI p)), (3, .int (nI c)), (4, .int 0), (5, .int my)] 0 []
  refine x_aload_n C dX0_portion_0 0 rfl ?_
  refine x_get C inlX0 rfl 0 (by decide) gw_3_11 dX0_portion_1 0 rfl rfl ?_
  refine x_iload C dX0_portion_4 4 rfl ?_
  refine x_aaloadA C 1 rfl dX0_portion_6 0 rfl (q_ix (rfl : (0 : Int32) = nI 0) (by decide) (by decide)) 1 rfl rfl ?_
  refine x_iload_n C dX0_portion_7 3 rfl ?_
  refine x_iaload C 0 rfl dX0_portion_8 c (q_cl rfl (by omega)) (q_ix rfl (by omega) (by omega)) 2 rfl ?_
  refine x_istore C dX0_portion_9 (by decide) (lv' := [(6, .int (D c)), (0, .ref o), (1, .ref q), (2, .int (nI p)), (3, .int (nI c)), (4, .int 0), (5, .int my)]) rfl ?_
  refine x_iload C dX0_portion_11 0 rfl ?_
  refine x_if_ne C dX0_portion_13 (tgt := 18) rfl (fun c1 => ?_) (fun c1 => ?_)
  ·
    refine x_aload_n C dX0_portion_18 1 rfl ?_
    refine x_get C inlX0 rfl 6 (by decide) gw_3_17 dX0_portion_19 0 rfl rfl ?_
    refine x_iconst C dX0_portion_22 (v := 0) rfl ?_
    refine x_iconst C dX0_portion_23 (v := 0) rfl ?_
    refine x_iastore C 0 rfl dX0_portion_24 0 rfl (q_ix (rfl : (0 : Int32) = nI 0) (by decide) (by decide)) 4 rfl ?_
    show X _ _ [(o, .inr (0, [.ref ly, .ref bl, .ref cv, .ref hg, .ref fl, .ref of_, .ref nm, .int rt, .int rk, .int ct])), (ly, .inl (cM, 2, .inr (.inr (.inr (.inr (rr2 l0 l1)))))), (l0, .inl (cI, 36, .inl D)), (l1, .inl (cI, 36, .inl W)), (nm, .inl (cI, 6, .inl (upd N0 0 0))), (q, .inr (2, [.ref qc, .ref qs, .ref qe, .int sz])), (qc, .inl (cI, 160, .inl cd)), (qs, .inl (cI, 160, .inl sq)), (qe, .inl (cI, 3, .inl en))] _ _ _
    refine x_aload_n C dX0_portion_25 1 rfl ?_
    refine x_get C inlX0 rfl 6 (by decide) gw_3_17 dX0_portion_26 0 rfl rfl ?_
    refine x_iconst C dX0_portion_29 (v := 3) rfl ?_
    refine x_iload C dX0_portion_30 5 rfl ?_
    refine x_iastore C 0 rfl dX0_portion_32 3 rfl (q_ix (rfl : (3 : Int32) = nI 3) (by decide) (by decide)) 4 rfl ?_
    show X _ _ [(o, .inr (0, [.ref ly, .ref bl, .ref cv, .ref hg, .ref fl, .ref of_, .ref nm, .int rt, .int rk, .int ct])), (ly, .inl (cM, 2, .inr (.inr (.inr (.inr (rr2 l0 l1)))))), (l0, .inl (cI, 36, .inl D)), (l1, .inl (cI, 36, .inl W)), (nm, .inl (cI, 6, .inl (upd (upd N0 0 0) 3 0))), (q, .inr (2, [.ref qc, .ref qs, .ref qe, .int sz])), (qc, .inl (cI, 160, .inl cd)), (qs, .inl (cI, 160, .inl sq)), (qe, .inl (cI, 3, .inl en))] _ _ _
    show X _ _ _ _ 33 _
    refine x_aload_n C dX0_portion_33 1 rfl ?_
    refine x_get C inlX0 rfl 6 (by decide) gw_3_17 dX0_portion_34 0 rfl rfl ?_
    refine x_iconst C dX0_portion_37 (v := 4) rfl ?_
    refine x_iconst C dX0_portion_38 (v := 0) rfl ?_
    refine x_iastore C 0 rfl dX0_portion_39 4 rfl (q_ix (rfl : (4 : Int32) = nI 4) (by decide) (by decide)) 4 rfl ?_
    show X _ _ [(o, .inr (0, [.ref ly, .ref bl, .ref cv, .ref hg, .ref fl, .ref of_, .ref nm, .int rt, .int rk, .int ct])), (ly, .inl (cM, 2, .inr (.inr (.inr (.inr (rr2 l0 l1)))))), (l0, .inl (cI, 36, .inl D)), (l1, .inl (cI, 36, .inl W)), (nm, .inl (cI, 6, .inl (upd (upd (upd N0 0 0) 3 0) 4 0))), (q, .inr (2, [.ref qc, .ref qs, .ref qe, .int sz])), (qc, .inl (cI, 160, .inl cd)), (qs, .inl (cI, 160, .inl sq)), (qe, .inl (cI, 3, .inl en))] _ _ _
    refine x_aload_n C dX0_portion_40 1 rfl ?_
    refine x_get C inlX0 rfl 6 (by decide) gw_3_17 dX0_portion_41 0 rfl rfl ?_
    refine x_iconst C dX0_portion_44 (v := 5) rfl ?_
    refine x_iload C dX0_portion_45 6 rfl ?_
    refine x_iastore C 0 rfl dX0_portion_47 5 rfl (q_ix (rfl : (5 : Int32) = nI 5) (by decide) (by decide)) 4 rfl ?_
    show X _ _ [(o, .inr (0, [.ref ly, .ref bl, .ref cv, .ref hg, .ref fl, .ref of_, .ref nm, .int rt, .int rk, .int ct])), (ly, .inl (cM, 2, .inr (.inr (.inr (.inr (rr2 l0 l1)))))), (l0, .inl (cI, 36, .inl D)), (l1, .inl (cI, 36, .inl W)), (nm, .inl (cI, 6, .inl (upd (upd (upd (upd N0 0 0) 3 0) 4 0) 5 my))), (q, .inr (2, [.ref qc, .ref qs, .ref qe, .int sz])), (qc, .inl (cI, 160, .inl cd)), (qs, .inl (cI, 160, .inl sq)), (qe, .inl (cI, 3, .inl en))] _ _ _
    show X _ _ _ _ 48 _
    refine x_iload C dX0_portion_48 0 rfl ?_
    refine x_aload_n C dX0_portion_50 2 rfl ?_
    refine x_iload_n C dX0_portion_51 3 rfl ?_
    refine x_aload_n C dX0_portion_52 1 rfl ?_
    refine x_get C inlX0 rfl 6 (by decide) gw_3_17 dX0_portion_53 0 rfl rfl ?_
    refine x_arr C 4 rfl (s_nm 0 so fr 0 0 my) (q_nms rfl hn1 hn2 rfl rfl rfl) ?_
    show X _ _ [(o, .inr (0, [.ref ly, .ref bl, .ref cv, .ref hg, .ref fl, .ref of_, .ref nm, .int rt, .int rk, .int ct])), (ly, .inl (cM, 2, .inr (.inr (.inr (.inr (rr2 l0 l1)))))), (l0, .inl (cI, 36, .inl D)), (l1, .inl (cI, 36, .inl W)), (nm, .inl (cI, 6, .inl (s_nm 0 so fr 0 0 my))), (q, .inr (2, [.ref qc, .ref qs, .ref qe, .int sz])), (qc, .inl (cI, 160, .inl cd)), (qs, .inl (cI, 160, .inl sq)), (qe, .inl (cI, 3, .inl en))] _ _ _
    refine x_callV C (As := [.int (nI p), .ref nm]) (st := [.int (D c)]) (wc := [(q, .inr (2, [.ref qc, .ref qs, .ref qe, .int sz])), (qc, .inl (cI, 160, .inl cd)), (qs, .inl (cI, 160, .inl sq)), (qe, .inl (cI, 3, .inl en)), (nm, .inl (cI, 6, .inl (s_nm 0 so fr 0 0 my)))]) (wr := [(o, .inr (0, [.ref ly, .ref bl, .ref cv, .ref hg, .ref fl, .ref of_, .ref nm, .int rt, .int rk, .int ct])), (ly, .inl (cM, 2, .inr (.inr (.inr (.inr (rr2 l0 l1)))))), (l0, .inl (cI, 36, .inl D)), (l1, .inl (cI, 36, .inl W))]) (c_X3_says l dG cI cM cW cS q qc qs qe nm p sz cd sq en (s_nm 0 so fr 0 0 my) T (by first | assumption | omega | decide) (by first | assumption | omega | decide) (by first | assumption | omega | decide)) rZ0_ok (fun _ _ _ _ => trivial) kV_X0_110 ⟨rfl, hy_X3_says⟩ ⟨Nat.le_of_ble_eq_true rfl, Nat.le_of_ble_eq_true rfl⟩ ⟨Nat.le_of_ble_eq_true rfl, Nat.le_of_ble_eq_true rfl⟩ dX0_portion_56 5 rfl rfl [5, 6, 7, 8, 4] [0, 1, 2, 3] rfl rfl rfl rfl (by decide) rfl (Nat.le_of_ble_eq_true rfl) ?_
    intro v2 w3 h4
    obtain ⟨_, sk_6, rfl, rfl, rfl⟩ := h4
    show X 0 0 [(o, .inr (0, [.ref ly, .ref bl, .ref cv, .ref hg, .ref fl, .ref of_, .ref nm, .int rt, .int rk, .int ct])), (ly, .inl (cM, 2, .inr (.inr (.inr (.inr (rr2 l0 l1)))))), (l0, .inl (cI, 36, .inl D)), (l1, .inl (cI, 36, .inl W)), (q, .inr (2, [.ref qc, .ref qs, .ref qe, .int sz])), (qc, .inl (cI, 160, .inl cd)), (qs, .inl (cI, 160, .inl sk_6)), (qe, .inl (cI, 3, .inl en)), (nm, .inl (cI, 6, .inl (s_nm 0 so fr 0 0 my)))] [(6, .int (D c)), (0, .ref o), (1, .ref q), (2, .int (nI p)), (3, .int (nI c)), (4, .int 0), (5, .int my)] 59 [.int (s_says T p (s_nm 0 so fr 0 0 my)), .int (D c)]
    refine x_imul C dX0_portion_59 ?_
    refine x_bipush C dX0_portion_60 (v := 100) rfl ?_
    refine x_idiv C dX0_portion_62 (by decide) ?_
    refine x_sub C [0, 1, 2, 3, 8, 4, 5, 6, 7] (ws' := [(o, .inr (0, [.ref ly, .ref bl, .ref cv, .ref hg, .ref fl, .ref of_, .ref nm, .int rt, .int rk, .int ct])), (ly, .inl (cM, 2, .inr (.inr (.inr (.inr (rr2 l0 l1)))))), (l0, .inl (cI, 36, .inl D)), (l1, .inl (cI, 36, .inl W)), (nm, .inl (cI, 6, .inl (s_nm 0 so fr 0 0 my))), (q, .inr (2, [.ref qc, .ref qs, .ref qe, .int sz])), (qc, .inl (cI, 160, .inl cd)), (qs, .inl (cI, 160, .inl sk_6)), (qe, .inl (cI, 3, .inl en))]) rfl rfl ?_
    refine E dX0_portion_63 (rfl) ?_
    exact ⟨(((D c) * (s_says T p (s_nm 0 so fr 0 0 my))) / 100), (s_nm 0 so fr 0 0 my), sk_6, rfl, rfl, ⟨by rw [s_pt, if_neg (by assumption)], rfl, rfl⟩⟩
  ·
    refine x_iconst C dX0_portion_16 (v := 0) rfl ?_
    refine E dX0_portion_17 (rfl) ?_
    exact ⟨0, N0, sq, rfl, rfl, ⟨by rw [s_pt, if_pos (by assumption)], hn1, hn2⟩⟩
set_option maxHeartbeats 4000000 in
set_option maxRecDepth 100000 in
theorem c_X0_portion_1 (l : Launch) (dG : va_G) (cI cM cW cS : ClassId) (o ly l0 l1 bl b0 b1 cv hg fl of_ nm : Nat) (rt rk ct : Int32) (q qc qs qe : Nat) (sz : Int32) (cd sq en : Nat → Int32) (T : sT) (D W N0 : Nat → Int32) (so fr : Int32) (p c : Nat) (my : Int32) (hp : p < 3) (hc : c < 36) (hn1 : N0 1 = so) (hn2 : N0 2 = fr) (hok : s_ok T) (hL : s_law cd en T) : rM l yX0_portion cX0_portion 7 (some .int) ({ frames := 3, cells := 0, slots := 0, locals := 67 } : Room) dG (tY cI cM cW cS) rZ0 [.ref o, .ref q, .int (nI p), .int (nI c), .int 1, .int my] [(o, .inr (0, [.ref ly, .ref bl, .ref cv, .ref hg, .ref fl, .ref of_, .ref nm, .int rt, .int rk, .int ct])), (ly, .inl (cM, 2, .inr (.inr (.inr (.inr (rr2 l0 l1)))))), (l0, .inl (cI, 36, .inl D)), (l1, .inl (cI, 36, .inl W)), (nm, .inl (cI, 6, .inl N0)), (q, .inr (2, [.ref qc, .ref qs, .ref qe, .int sz])), (qc, .inl (cI, 160, .inl cd)), (qs, .inl (cI, 160, .inl sq)), (qe, .inl (cI, 3, .inl en))] (fun ov oz => ∃ (r : Int32) (N0' : Nat → Int32) (sq' : Nat → Int32), ov = some (.int r) ∧ oz = [(o, .inr (0, [.ref ly, .ref bl, .ref cv, .ref hg, .ref fl, .ref of_, .ref nm, .int rt, .int rk, .int ct])), (ly, .inl (cM, 2, .inr (.inr (.inr (.inr (rr2 l0 l1)))))), (l0, .inl (cI, 36, .inl D)), (l1, .inl (cI, 36, .inl W)), (nm, .inl (cI, 6, .inl N0')), (q, .inr (2, [.ref qc, .ref qs, .ref qe, .int sz])), (qc, .inl (cI, 160, .inl cd)), (qs, .inl (cI, 160, .inl sq')), (qe, .inl (cI, 3, .inl en))] ∧ r = s_pt T p so fr 1 (W c) my ∧ N0' 1 = so ∧ N0' 2 = fr) := by
  refine rM_ofI rfl (Nat.le_of_ble_eq_true rfl) rfl (fun X C E => ?_)
  show X 0 0 [(o, .inr (0, [.ref ly, .ref bl, .ref cv, .ref hg, .ref fl, .ref of_, .ref nm, .int rt, .int rk, .int ct])), (ly, .inl (cM, 2, .inr (.inr (.inr (.inr (rr2 l0 l1)))))), (l0, .inl (cI, 36, .inl D)), (l1, .inl (cI, 36, .inl W)), (nm, .inl (cI, 6, .inl N0)), (q, .inr (2, [.ref qc, .ref qs, .ref qe, .int sz])), (qc, .inl (cI, 160, .inl cd)), (qs, .inl (cI, 160, .inl sq)), (qe, .inl (cI, 3, .inl en))] [(0, .ref o), (1, .ref q), (2, .int (nI p)), (3, .int (nI c)), (4, .int 1), (5, .int my)] 0 []
  refine x_aload_n C dX0_portion_0 0 rfl ?_
  refine x_get C inlX0 rfl 0 (by decide) gw_3_11 dX0_portion_1 0 rfl rfl ?_
  refine x_iload C dX0_portion_4 4 rfl ?_
  refine x_aaloadA C 1 rfl dX0_portion_6 1 rfl (q_ix (rfl : (1 : Int32) = nI 1) (by decide) (by decide)) 1 rfl rfl ?_
  refine x_iload_n C dX0_portion_7 3 rfl ?_
  refine x_iaload C 0 rfl dX0_portion_8 c (q_cl rfl (by omega)) (q_ix rfl (by omega) (by omega)) 3 rfl ?_
  refine x_istore C dX0_portion_9 (by decide) (lv' := [(6, .int (W c)), (0, .ref o), (1, .ref q), (2, .int (nI p)), (3, .int (nI c)), (4, .int 1), (5, .int my)]) rfl ?_
  refine x_iload C dX0_portion_11 0 rfl ?_
  refine x_if_ne C dX0_portion_13 (tgt := 18) rfl (fun c1 => ?_) (fun c1 => ?_)
  ·
    refine x_aload_n C dX0_portion_18 1 rfl ?_
    refine x_get C inlX0 rfl 6 (by decide) gw_3_17 dX0_portion_19 0 rfl rfl ?_
    refine x_iconst C dX0_portion_22 (v := 0) rfl ?_
    refine x_iconst C dX0_portion_23 (v := 0) rfl ?_
    refine x_iastore C 0 rfl dX0_portion_24 0 rfl (q_ix (rfl : (0 : Int32) = nI 0) (by decide) (by decide)) 4 rfl ?_
    show X _ _ [(o, .inr (0, [.ref ly, .ref bl, .ref cv, .ref hg, .ref fl, .ref of_, .ref nm, .int rt, .int rk, .int ct])), (ly, .inl (cM, 2, .inr (.inr (.inr (.inr (rr2 l0 l1)))))), (l0, .inl (cI, 36, .inl D)), (l1, .inl (cI, 36, .inl W)), (nm, .inl (cI, 6, .inl (upd N0 0 0))), (q, .inr (2, [.ref qc, .ref qs, .ref qe, .int sz])), (qc, .inl (cI, 160, .inl cd)), (qs, .inl (cI, 160, .inl sq)), (qe, .inl (cI, 3, .inl en))] _ _ _
    refine x_aload_n C dX0_portion_25 1 rfl ?_
    refine x_get C inlX0 rfl 6 (by decide) gw_3_17 dX0_portion_26 0 rfl rfl ?_
    refine x_iconst C dX0_portion_29 (v := 3) rfl ?_
    refine x_iload C dX0_portion_30 5 rfl ?_
    refine x_iastore C 0 rfl dX0_portion_32 3 rfl (q_ix (rfl : (3 : Int32) = nI 3) (by decide) (by decide)) 4 rfl ?_
    show X _ _ [(o, .inr (0, [.ref ly, .ref bl, .ref cv, .ref hg, .ref fl, .ref of_, .ref nm, .int rt, .int rk, .int ct])), (ly, .inl (cM, 2, .inr (.inr (.inr (.inr (rr2 l0 l1)))))), (l0, .inl (cI, 36, .inl D)), (l1, .inl (cI, 36, .inl W)), (nm, .inl (cI, 6, .inl (upd (upd N0 0 0) 3 1))), (q, .inr (2, [.ref qc, .ref qs, .ref qe, .int sz])), (qc, .inl (cI, 160, .inl cd)), (qs, .inl (cI, 160, .inl sq)), (qe, .inl (cI, 3, .inl en))] _ _ _
    show X _ _ _ _ 33 _
    refine x_aload_n C dX0_portion_33 1 rfl ?_
    refine x_get C inlX0 rfl 6 (by decide) gw_3_17 dX0_portion_34 0 rfl rfl ?_
    refine x_iconst C dX0_portion_37 (v := 4) rfl ?_
    refine x_iconst C dX0_portion_38 (v := 0) rfl ?_
    refine x_iastore C 0 rfl dX0_portion_39 4 rfl (q_ix (rfl : (4 : Int32) = nI 4) (by decide) (by decide)) 4 rfl ?_
    show X _ _ [(o, .inr (0, [.ref ly, .ref bl, .ref cv, .ref hg, .ref fl, .ref of_, .ref nm, .int rt, .int rk, .int ct])), (ly, .inl (cM, 2, .inr (.inr (.inr (.inr (rr2 l0 l1)))))), (l0, .inl (cI, 36, .inl D)), (l1, .inl (cI, 36, .inl W)), (nm, .inl (cI, 6, .inl (upd (upd (upd N0 0 0) 3 1) 4 0))), (q, .inr (2, [.ref qc, .ref qs, .ref qe, .int sz])), (qc, .inl (cI, 160, .inl cd)), (qs, .inl (cI, 160, .inl sq)), (qe, .inl (cI, 3, .inl en))] _ _ _
    refine x_aload_n C dX0_portion_40 1 rfl ?_
    refine x_get C inlX0 rfl 6 (by decide) gw_3_17 dX0_portion_41 0 rfl rfl ?_
    refine x_iconst C dX0_portion_44 (v := 5) rfl ?_
    refine x_iload C dX0_portion_45 6 rfl ?_
    refine x_iastore C 0 rfl dX0_portion_47 5 rfl (q_ix (rfl : (5 : Int32) = nI 5) (by decide) (by decide)) 4 rfl ?_
    show X _ _ [(o, .inr (0, [.ref ly, .ref bl, .ref cv, .ref hg, .ref fl, .ref of_, .ref nm, .int rt, .int rk, .int ct])), (ly, .inl (cM, 2, .inr (.inr (.inr (.inr (rr2 l0 l1)))))), (l0, .inl (cI, 36, .inl D)), (l1, .inl (cI, 36, .inl W)), (nm, .inl (cI, 6, .inl (upd (upd (upd (upd N0 0 0) 3 1) 4 0) 5 my))), (q, .inr (2, [.ref qc, .ref qs, .ref qe, .int sz])), (qc, .inl (cI, 160, .inl cd)), (qs, .inl (cI, 160, .inl sq)), (qe, .inl (cI, 3, .inl en))] _ _ _
    show X _ _ _ _ 48 _
    refine x_iload C dX0_portion_48 0 rfl ?_
    refine x_aload_n C dX0_portion_50 2 rfl ?_
    refine x_iload_n C dX0_portion_51 3 rfl ?_
    refine x_aload_n C dX0_portion_52 1 rfl ?_
    refine x_get C inlX0 rfl 6 (by decide) gw_3_17 dX0_portion_53 0 rfl rfl ?_
    refine x_arr C 4 rfl (s_nm 0 so fr 1 0 my) (q_nms rfl hn1 hn2 rfl rfl rfl) ?_
    show X _ _ [(o, .inr (0, [.ref ly, .ref bl, .ref cv, .ref hg, .ref fl, .ref of_, .ref nm, .int rt, .int rk, .int ct])), (ly, .inl (cM, 2, .inr (.inr (.inr (.inr (rr2 l0 l1)))))), (l0, .inl (cI, 36, .inl D)), (l1, .inl (cI, 36, .inl W)), (nm, .inl (cI, 6, .inl (s_nm 0 so fr 1 0 my))), (q, .inr (2, [.ref qc, .ref qs, .ref qe, .int sz])), (qc, .inl (cI, 160, .inl cd)), (qs, .inl (cI, 160, .inl sq)), (qe, .inl (cI, 3, .inl en))] _ _ _
    refine x_callV C (As := [.int (nI p), .ref nm]) (st := [.int (W c)]) (wc := [(q, .inr (2, [.ref qc, .ref qs, .ref qe, .int sz])), (qc, .inl (cI, 160, .inl cd)), (qs, .inl (cI, 160, .inl sq)), (qe, .inl (cI, 3, .inl en)), (nm, .inl (cI, 6, .inl (s_nm 0 so fr 1 0 my)))]) (wr := [(o, .inr (0, [.ref ly, .ref bl, .ref cv, .ref hg, .ref fl, .ref of_, .ref nm, .int rt, .int rk, .int ct])), (ly, .inl (cM, 2, .inr (.inr (.inr (.inr (rr2 l0 l1)))))), (l0, .inl (cI, 36, .inl D)), (l1, .inl (cI, 36, .inl W))]) (c_X3_says l dG cI cM cW cS q qc qs qe nm p sz cd sq en (s_nm 0 so fr 1 0 my) T (by first | assumption | omega | decide) (by first | assumption | omega | decide) (by first | assumption | omega | decide)) rZ0_ok (fun _ _ _ _ => trivial) kV_X0_110 ⟨rfl, hy_X3_says⟩ ⟨Nat.le_of_ble_eq_true rfl, Nat.le_of_ble_eq_true rfl⟩ ⟨Nat.le_of_ble_eq_true rfl, Nat.le_of_ble_eq_true rfl⟩ dX0_portion_56 5 rfl rfl [5, 6, 7, 8, 4] [0, 1, 2, 3] rfl rfl rfl rfl (by decide) rfl (Nat.le_of_ble_eq_true rfl) ?_
    intro v2 w3 h4
    obtain ⟨_, sk_6, rfl, rfl, rfl⟩ := h4
    show X 0 0 [(o, .inr (0, [.ref ly, .ref bl, .ref cv, .ref hg, .ref fl, .ref of_, .ref nm, .int rt, .int rk, .int ct])), (ly, .inl (cM, 2, .inr (.inr (.inr (.inr (rr2 l0 l1)))))), (l0, .inl (cI, 36, .inl D)), (l1, .inl (cI, 36, .inl W)), (q, .inr (2, [.ref qc, .ref qs, .ref qe, .int sz])), (qc, .inl (cI, 160, .inl cd)), (qs, .inl (cI, 160, .inl sk_6)), (qe, .inl (cI, 3, .inl en)), (nm, .inl (cI, 6, .inl (s_nm 0 so fr 1 0 my)))] [(6, .int (W c)), (0, .ref o), (1, .ref q), (2, .int (nI p)), (3, .int (nI c)), (4, .int 1), (5, .int my)] 59 [.int (s_says T p (s_nm 0 so fr 1 0 my)), .int (W c)]
    refine x_imul C dX0_portion_59 ?_
    refine x_bipush C dX0_portion_60 (v := 100) rfl ?_
    refine x_idiv C dX0_portion_62 (by decide) ?_
    refine x_sub C [0, 1, 2, 3, 8, 4, 5, 6, 7] (ws' := [(o, .inr (0, [.ref ly, .ref bl, .ref cv, .ref hg, .ref fl, .ref of_, .ref nm, .int rt, .int rk, .int ct])), (ly, .inl (cM, 2, .inr (.inr (.inr (.inr (rr2 l0 l1)))))), (l0, .inl (cI, 36, .inl D)), (l1, .inl (cI, 36, .inl W)), (nm, .inl (cI, 6, .inl (s_nm 0 so fr 1 0 my))), (q, .inr (2, [.ref qc, .ref qs, .ref qe, .int sz])), (qc, .inl (cI, 160, .inl cd)), (qs, .inl (cI, 160, .inl sk_6)), (qe, .inl (cI, 3, .inl en))]) rfl rfl ?_
    refine E dX0_portion_63 (rfl) ?_
    exact ⟨(((W c) * (s_says T p (s_nm 0 so fr 1 0 my))) / 100), (s_nm 0 so fr 1 0 my), sk_6, rfl, rfl, ⟨by rw [s_pt, if_neg (by assumption)], rfl, rfl⟩⟩
  ·
    refine x_iconst C dX0_portion_16 (v := 0) rfl ?_
    refine E dX0_portion_17 (rfl) ?_
    exact ⟨0, N0, sq, rfl, rfl, ⟨by rw [s_pt, if_pos (by assumption)], hn1, hn2⟩⟩
theorem kV_X0_136 : GoodIn GW (wsV RX0 136 yX0_portion.cls yX0_portion (Cond.code yX0_portion cX0_portion 7 (some .int) :: GW)) := r_gV gw_25_5 gw_25_6 gw_25_7 gw_1_21 gw_25_8
theorem hy_X0_portion : yX0_portion.cls ≠ "java/lang/invoke/MethodHandle" ∧ yX0_portion.cls ≠ "java/lang/invoke/VarHandle" ∧ (parseMethodDescriptor yX0_portion.desc).map (fun d => d.parameters.length) = some 5 := ⟨by decide +kernel, by decide +kernel, by decide +kernel⟩
set_option maxHeartbeats 4000000 in
set_option maxRecDepth 100000 in
theorem c_X0_rot (l : Launch) (dG : va_G) (cI cM cW cS : ClassId) (o ly l0 l1 bl b0 b1 cv hg fl of_ nm : Nat) (rt rk ct : Int32) (q qc qs qe : Nat) (sz : Int32) (cd sq en : Nat → Int32) (T : sT) (D W N0 : Nat → Int32) (so fr : Int32) (hn1 : N0 1 = so) (hn2 : N0 2 = fr) (hok : s_ok T) (hL : s_law cd en T) : rM l yX0_rot cX0_rot 6 none ({ frames := 4, cells := 0, slots := 0, locals := 93 } : Room) dG (tY cI cM cW cS) rZ0 [.ref o, .ref q] [(o, .inr (0, [.ref ly, .ref bl, .ref cv, .ref hg, .ref fl, .ref of_, .ref nm, .int rt, .int rk, .int ct])), (ly, .inl (cM, 2, .inr (.inr (.inr (.inr (rr2 l0 l1)))))), (l0, .inl (cI, 36, .inl D)), (l1, .inl (cI, 36, .inl W)), (nm, .inl (cI, 6, .inl N0)), (q, .inr (2, [.ref qc, .ref qs, .ref qe, .int sz])), (qc, .inl (cI, 160, .inl cd)), (qs, .inl (cI, 160, .inl sq)), (qe, .inl (cI, 3, .inl en))] (fun ov oz => ∃ (N0' : Nat → Int32) (sq' : Nat → Int32), ov = none ∧ oz = [(o, .inr (0, [.ref ly, .ref bl, .ref cv, .ref hg, .ref fl, .ref of_, .ref nm, .int (s_rots (s_rt T so fr 0 D D W) (s_rt T so fr 1 W D W) rt 36), .int rk, .int ct])), (ly, .inl (cM, 2, .inr (.inr (.inr (.inr (rr2 l0 l1)))))), (l0, .inl (cI, 36, .inl (fun j => D j - s_rt T so fr 0 D D W j))), (l1, .inl (cI, 36, .inl (fun j => W j - s_rt T so fr 1 W D W j))), (nm, .inl (cI, 6, .inl N0')), (q, .inr (2, [.ref qc, .ref qs, .ref qe, .int sz])), (qc, .inl (cI, 160, .inl cd)), (qs, .inl (cI, 160, .inl sq')), (qe, .inl (cI, 3, .inl en))] ∧ True) := by
  refine rM_ofV false (by intro h; cases h) rfl (Nat.le_of_ble_eq_true rfl) rfl (fun X C E => ?_)
  show X 0 0 [(o, .inr (0, [.ref ly, .ref bl, .ref cv, .ref hg, .ref fl, .ref of_, .ref nm, .int rt, .int rk, .int ct])), (ly, .inl (cM, 2, .inr (.inr (.inr (.inr (rr2 l0 l1)))))), (l0, .inl (cI, 36, .inl D)), (l1, .inl (cI, 36, .inl W)), (nm, .inl (cI, 6, .inl N0)), (q, .inr (2, [.ref qc, .ref qs, .ref qe, .int sz])), (qc, .inl (cI, 160, .inl cd)), (qs, .inl (cI, 160, .inl sq)), (qe, .inl (cI, 3, .inl en))] [(0, .ref o), (1, .ref q)] 0 []
  refine x_iconst C dX0_rot_0 (v := 0) rfl ?_
  refine x_istore_n C dX0_rot_1 (by decide) (lv' := [(2, .int 0), (0, .ref o), (1, .ref q)]) rfl ?_
  have L2_0 : ∀ (fuel : Nat) (i : Nat) (g0 g1 N0 sq : Nat → Int32) (z : Int32), (hi : i ≤ 36) → (h0 : ∀ j, g0 j = if j < i then (fun j => D j - s_rt T so fr 0 D D W j) j else D j) → (h1 : ∀ j, g1 j = if j < i then (fun j => W j - s_rt T so fr 1 W D W j) j else W j) → (hz : z = s_rots (s_rt T so fr 0 D D W) (s_rt T so fr 1 W D W) rt i) → (hn1 : N0 1 = so) → (hn2 : N0 2 = fr) → 36 - i < fuel → X 0 0 [(o, .inr (0, [.ref ly, .ref bl, .ref cv, .ref hg, .ref fl, .ref of_, .ref nm, .int z, .int rk, .int ct])), (ly, .inl (cM, 2, .inr (.inr (.inr (.inr (rr2 l0 l1)))))), (l0, .inl (cI, 36, .inl g0)), (l1, .inl (cI, 36, .inl g1)), (nm, .inl (cI, 6, .inl N0)), (q, .inr (2, [.ref qc, .ref qs, .ref qe, .int sz])), (qc, .inl (cI, 160, .inl cd)), (qs, .inl (cI, 160, .inl sq)), (qe, .inl (cI, 3, .inl en))] [(2, .int (nI i)), (1, .ref q), (0, .ref o)] 2 [] := by
    intro fuel
    induction fuel with
    | zero => intros; omega
    | succ fuel ihL2_0 =>
      intro i g0 g1 N0 sq z hi h0 h1 hz hn1 hn2 hfu
      refine x_iload_n C dX0_rot_2 0 rfl ?_
      refine x_bipush C dX0_rot_3 (v := 36) rfl ?_
      refine x_icmp_ge C dX0_rot_5 (tgt := 72) rfl (fun c2 => ?_) (fun c2 => ?_)
      ·
        have c2 : i ≥ 36 := q_ge_t rfl (rfl : (36 : Int32) = nI 36) (by omega) (by omega) c2
        obtain rfl : i = 36 := by omega
        refine x_arr C 2 rfl (fun j => D j - s_rt T so fr 0 D D W j) (q_end h0) ?_
        show X _ _ [(o, .inr (0, [.ref ly, .ref bl, .ref cv, .ref hg, .ref fl, .ref of_, .ref nm, .int z, .int rk, .int ct])), (ly, .inl (cM, 2, .inr (.inr (.inr (.inr (rr2 l0 l1)))))), (l0, .inl (cI, 36, .inl (fun j => D j - s_rt T so fr 0 D D W j))), (l1, .inl (cI, 36, .inl g1)), (nm, .inl (cI, 6, .inl N0)), (q, .inr (2, [.ref qc, .ref qs, .ref qe, .int sz])), (qc, .inl (cI, 160, .inl cd)), (qs, .inl (cI, 160, .inl sq)), (qe, .inl (cI, 3, .inl en))] _ _ _
        refine x_arr C 3 rfl (fun j => W j - s_rt T so fr 1 W D W j) (q_end h1) ?_
        show X _ _ [(o, .inr (0, [.ref ly, .ref bl, .ref cv, .ref hg, .ref fl, .ref of_, .ref nm, .int z, .int rk, .int ct])), (ly, .inl (cM, 2, .inr (.inr (.inr (.inr (rr2 l0 l1)))))), (l0, .inl (cI, 36, .inl (fun j => D j - s_rt T so fr 0 D D W j))), (l1, .inl (cI, 36, .inl (fun j => W j - s_rt T so fr 1 W D W j))), (nm, .inl (cI, 6, .inl N0)), (q, .inr (2, [.ref qc, .ref qs, .ref qe, .int sz])), (qc, .inl (cI, 160, .inl cd)), (qs, .inl (cI, 160, .inl sq)), (qe, .inl (cI, 3, .inl en))] _ _ _
        subst hz
        refine E dX0_rot_72 ?_
        exact ⟨N0, sq, rfl, rfl, by trivial⟩
      ·
        have c2 : i < 36 := q_ge_f rfl (rfl : (36 : Int32) = nI 36) (by omega) (by omega) c2
        refine x_aload_n C dX0_rot_8 2 rfl ?_
        refine x_iload_n C dX0_rot_9 0 rfl ?_
        refine x_callV C (As := [.int (nI i)]) (st := []) (wc := [(o, .inr (0, [.ref ly, .ref bl, .ref cv, .ref hg, .ref fl, .ref of_, .ref nm, .int z, .int rk, .int ct])), (ly, .inl (cM, 2, .inr (.inr (.inr (.inr (rr2 l0 l1)))))), (l0, .inl (cI, 36, .inl g0)), (l1, .inl (cI, 36, .inl g1))]) (wr := [(nm, .inl (cI, 6, .inl N0)), (q, .inr (2, [.ref qc, .ref qs, .ref qe, .int sz])), (qc, .inl (cI, 160, .inl cd)), (qs, .inl (cI, 160, .inl sq)), (qe, .inl (cI, 3, .inl en))]) (c_X0_lyingIn l dG cI cM cW cS o ly l0 l1 bl 0 0 cv hg fl of_ nm z rk ct g0 g1 i (by first | assumption | omega | decide)) rZ0_ok (fun _ _ _ _ => trivial) kV_X0_129 ⟨rfl, hy_X0_lyingIn⟩ ⟨Nat.le_of_ble_eq_true rfl, Nat.le_of_ble_eq_true rfl⟩ ⟨Nat.le_of_ble_eq_true rfl, Nat.le_of_ble_eq_true rfl⟩ dX0_rot_10 0 rfl rfl [0, 1, 2, 3] [4, 5, 6, 7, 8] rfl rfl rfl rfl (by decide) rfl (Nat.le_of_ble_eq_true rfl) ?_
        intro v3 w4 h5
        obtain ⟨_, rfl, rfl, rfl⟩ := h5
        show X 0 0 [(nm, .inl (cI, 6, .inl N0)), (q, .inr (2, [.ref qc, .ref qs, .ref qe, .int sz])), (qc, .inl (cI, 160, .inl cd)), (qs, .inl (cI, 160, .inl sq)), (qe, .inl (cI, 3, .inl en)), (o, .inr (0, [.ref ly, .ref bl, .ref cv, .ref hg, .ref fl, .ref of_, .ref nm, .int z, .int rk, .int ct])), (ly, .inl (cM, 2, .inr (.inr (.inr (.inr (rr2 l0 l1)))))), (l0, .inl (cI, 36, .inl g0)), (l1, .inl (cI, 36, .inl g1))] [(2, .int (nI i)), (1, .ref q), (0, .ref o)] 13 [.int (g0 i + g1 i)]
        obtain ⟨my, hmy⟩ : ∃ z, z = D i + W i := ⟨_, rfl⟩
        refine x_topi C my (by rw [hmy, q_at (A := fun j => D j - s_rt T so fr 0 D D W j) h0, q_at (A := fun j => W j - s_rt T so fr 1 W D W j) h1]) ?_
        refine x_istore_n C dX0_rot_13 (by decide) (lv' := [(3, .int my), (2, .int (nI i)), (1, .ref q), (0, .ref o)]) rfl ?_
        refine x_iconst C dX0_rot_14 (v := 0) rfl ?_
        refine x_istore C dX0_rot_15 (by decide) (lv' := [(4, .int 0), (3, .int my), (2, .int (nI i)), (1, .ref q), (0, .ref o)]) rfl ?_
        refine x_iload C dX0_rot_17 0 rfl ?_
        refine x_iconst C dX0_rot_19 (v := 2) rfl ?_
        refine x_icmp_ge C dX0_rot_20 (tgt := 66) rfl (fun q9 => absurd q9 (by decide)) (fun _ => ?_)
        refine x_aload_n C dX0_rot_23 4 rfl ?_
        show X _ _ _ _ 24 _
        refine x_aload_n C dX0_rot_24 3 rfl ?_
        refine x_iconst C dX0_rot_25 (v := 2) rfl ?_
        refine x_iload_n C dX0_rot_26 2 rfl ?_
        refine x_iload C dX0_rot_27 0 rfl ?_
        refine x_iload_n C dX0_rot_29 1 rfl ?_
        refine x_callV C (As := [.ref q, .int (nI 2), .int (nI i), .int 0, .int my]) (st := []) (wc := [(o, .inr (0, [.ref ly, .ref bl, .ref cv, .ref hg, .ref fl, .ref of_, .ref nm, .int z, .int rk, .int ct])), (ly, .inl (cM, 2, .inr (.inr (.inr (.inr (rr2 l0 l1)))))), (l0, .inl (cI, 36, .inl g0)), (l1, .inl (cI, 36, .inl g1)), (nm, .inl (cI, 6, .inl N0)), (q, .inr (2, [.ref qc, .ref qs, .ref qe, .int sz])), (qc, .inl (cI, 160, .inl cd)), (qs, .inl (cI, 160, .inl sq)), (qe, .inl (cI, 3, .inl en))]) (wr := []) (c_X0_portion_0 l dG cI cM cW cS o ly l0 l1 bl 0 0 cv hg fl of_ nm z rk ct q qc qs qe sz cd sq en T g0 g1 N0 so fr 2 i my (by first | assumption | omega | decide) (by first | assumption | omega | decide) (hn1) (hn2) (by first | assumption | omega | decide) (by first | assumption | omega | decide)) rZ0_ok (fun _ _ _ _ => trivial) kV_X0_136 ⟨rfl, hy_X0_portion⟩ ⟨Nat.le_of_ble_eq_true rfl, Nat.le_of_ble_eq_true rfl⟩ ⟨Nat.le_of_ble_eq_true rfl, Nat.le_of_ble_eq_true rfl⟩ dX0_rot_30 5 rfl rfl [5, 6, 7, 8, 0, 1, 2, 3, 4] [] rfl rfl rfl rfl (by decide) rfl (Nat.le_of_ble_eq_true rfl) ?_
        intro v8 w9 h10
        obtain ⟨r_11, N_12, sq_13, rfl, rfl, ⟨hr_15, ha_16, hb_17⟩⟩ := h10
        show X 0 0 [(o, .inr (0, [.ref ly, .ref bl, .ref cv, .ref hg, .ref fl, .ref of_, .ref nm, .int z, .int rk, .int ct])), (ly, .inl (cM, 2, .inr (.inr (.inr (.inr (rr2 l0 l1)))))), (l0, .inl (cI, 36, .inl g0)), (l1, .inl (cI, 36, .inl g1)), (nm, .inl (cI, 6, .inl N_12)), (q, .inr (2, [.ref qc, .ref qs, .ref qe, .int sz])), (qc, .inl (cI, 160, .inl cd)), (qs, .inl (cI, 160, .inl sq_13)), (qe, .inl (cI, 3, .inl en))] [(4, .int 0), (3, .int my), (2, .int (nI i)), (1, .ref q), (0, .ref o)] 33 [.int r_11]
        have e0 : r_11 = s_rt T so fr 0 D D W i := by rw [hr_15, q_at (A := fun j => D j - s_rt T so fr 0 D D W j) h0, hmy]; rfl
        have nn0 := ha_16
        have mm0 := hb_17
        refine x_istore C dX0_rot_33 (by decide) (lv' := [(5, .int r_11), (4, .int 0), (3, .int my), (2, .int (nI i)), (1, .ref q), (0, .ref o)]) rfl ?_
        refine x_aload_n C dX0_rot_35 5 rfl ?_
        refine x_get C inlX0 rfl 0 (by decide) gw_3_11 dX0_rot_36 0 rfl rfl ?_
        refine x_iload C dX0_rot_39 1 rfl ?_
        show X _ _ _ _ 41 _
        refine x_aaloadA C 1 rfl dX0_rot_41 0 rfl (q_ix (rfl : (0 : Int32) = nI 0) (by decide) (by decide)) 1 rfl rfl ?_
        refine x_iload_n C dX0_rot_42 3 rfl ?_
        refine x_dup2 C dX0_rot_43 rfl rfl ?_
        refine x_iaload C 0 rfl dX0_rot_44 i (q_cl rfl (by omega)) (q_ix rfl (by omega) (by omega)) 2 rfl ?_
        refine x_iload C dX0_rot_45 0 rfl ?_
        refine x_isub C dX0_rot_47 ?_
        refine x_iastore C 0 rfl dX0_rot_48 i (q_cl rfl (by omega)) (q_ix rfl (by omega) (by omega)) 2 rfl ?_
        show X _ _ [(o, .inr (0, [.ref ly, .ref bl, .ref cv, .ref hg, .ref fl, .ref of_, .ref nm, .int z, .int rk, .int ct])), (ly, .inl (cM, 2, .inr (.inr (.inr (.inr (rr2 l0 l1)))))), (l0, .inl (cI, 36, .inl (upd g0 i ((g0 i) - r_11)))), (l1, .inl (cI, 36, .inl g1)), (nm, .inl (cI, 6, .inl N_12)), (q, .inr (2, [.ref qc, .ref qs, .ref qe, .int sz])), (qc, .inl (cI, 160, .inl cd)), (qs, .inl (cI, 160, .inl sq_13)), (qe, .inl (cI, 3, .inl en))] _ _ _
        refine x_aload_n C dX0_rot_49 5 rfl ?_
        refine x_dup C dX0_rot_50 rfl ?_
        refine x_get C inlX0 rfl 7 (by decide) gw_23_18 dX0_rot_51 0 rfl rfl ?_
        show X _ _ _ _ 54 _
        refine x_iload C dX0_rot_54 0 rfl ?_
        refine x_iadd C dX0_rot_56 ?_
        refine x_put C inlX0 rfl tyX0 tyX0_ok nmX0 7 (by decide) gw_23_18 rfl dX0_rot_57 0 rfl (rfl) rfl (Nat.le_of_ble_eq_true rfl) ?_
        show X _ _ [(o, .inr (0, [.ref ly, .ref bl, .ref cv, .ref hg, .ref fl, .ref of_, .ref nm, .int (z + r_11), .int rk, .int ct])), (ly, .inl (cM, 2, .inr (.inr (.inr (.inr (rr2 l0 l1)))))), (l0, .inl (cI, 36, .inl (upd g0 i ((g0 i) - r_11)))), (l1, .inl (cI, 36, .inl g1)), (nm, .inl (cI, 6, .inl N_12)), (q, .inr (2, [.ref qc, .ref qs, .ref qe, .int sz])), (qc, .inl (cI, 160, .inl cd)), (qs, .inl (cI, 160, .inl sq_13)), (qe, .inl (cI, 3, .inl en))] _ _ _
        refine x_iinc C dX0_rot_60 1 rfl (v := 1) (rfl) (by decide) (lv' := [(4, .int 1), (5, .int r_11), (3, .int my), (2, .int (nI i)), (1, .ref q), (0, .ref o)]) rfl ?_
        refine x_goto C dX0_rot_63 (tgt := 17) rfl ?_
        refine x_iload C dX0_rot_17 0 rfl ?_
        refine x_iconst C dX0_rot_19 (v := 2) rfl ?_
        refine x_icmp_ge C dX0_rot_20 (tgt := 66) rfl (fun q9 => absurd q9 (by decide)) (fun _ => ?_)
        refine x_aload_n C dX0_rot_23 5 rfl ?_
        refine x_aload_n C dX0_rot_24 4 rfl ?_
        show X _ _ _ _ 25 _
        refine x_iconst C dX0_rot_25 (v := 2) rfl ?_
        refine x_iload_n C dX0_rot_26 3 rfl ?_
        refine x_iload C dX0_rot_27 0 rfl ?_
        refine x_iload_n C dX0_rot_29 2 rfl ?_
        refine x_callV C (As := [.ref q, .int (nI 2), .int (nI i), .int 1, .int my]) (st := []) (wc := [(o, .inr (0, [.ref ly, .ref bl, .ref cv, .ref hg, .ref fl, .ref of_, .ref nm, .int (z + r_11), .int rk, .int ct])), (ly, .inl (cM, 2, .inr (.inr (.inr (.inr (rr2 l0 l1)))))), (l0, .inl (cI, 36, .inl (upd g0 i ((g0 i) - r_11)))), (l1, .inl (cI, 36, .inl g1)), (nm, .inl (cI, 6, .inl N_12)), (q, .inr (2, [.ref qc, .ref qs, .ref qe, .int sz])), (qc, .inl (cI, 160, .inl cd)), (qs, .inl (cI, 160, .inl sq_13)), (qe, .inl (cI, 3, .inl en))]) (wr := []) (c_X0_portion_1 l dG cI cM cW cS o ly l0 l1 bl 0 0 cv hg fl of_ nm (z + r_11) rk ct q qc qs qe sz cd sq_13 en T (upd g0 i ((g0 i) - r_11)) g1 N_12 so fr 2 i my (by first | assumption | omega | decide) (by first | assumption | omega | decide) (nn0) (mm0) (by first | assumption | omega | decide) (by first | assumption | omega | decide)) rZ0_ok (fun _ _ _ _ => trivial) kV_X0_136 ⟨rfl, hy_X0_portion⟩ ⟨Nat.le_of_ble_eq_true rfl, Nat.le_of_ble_eq_true rfl⟩ ⟨Nat.le_of_ble_eq_true rfl, Nat.le_of_ble_eq_true rfl⟩ dX0_rot_30 0 rfl rfl [0, 1, 2, 3, 4, 5, 6, 7, 8] [] rfl rfl rfl rfl (by decide) rfl (Nat.le_of_ble_eq_true rfl) ?_
        intro v18 w19 h20
        obtain ⟨r_21, N_22, sq_23, rfl, rfl, ⟨hr_25, ha_26, hb_27⟩⟩ := h20
        show X 0 0 [(o, .inr (0, [.ref ly, .ref bl, .ref cv, .ref hg, .ref fl, .ref of_, .ref nm, .int (z + r_11), .int rk, .int ct])), (ly, .inl (cM, 2, .inr (.inr (.inr (.inr (rr2 l0 l1)))))), (l0, .inl (cI, 36, .inl (upd g0 i ((g0 i) - r_11)))), (l1, .inl (cI, 36, .inl g1)), (nm, .inl (cI, 6, .inl N_22)), (q, .inr (2, [.ref qc, .ref qs, .ref qe, .int sz])), (qc, .inl (cI, 160, .inl cd)), (qs, .inl (cI, 160, .inl sq_23)), (qe, .inl (cI, 3, .inl en))] [(4, .int 1), (5, .int r_11), (3, .int my), (2, .int (nI i)), (1, .ref q), (0, .ref o)] 33 [.int r_21]
        have e1 : r_21 = s_rt T so fr 1 W D W i := by rw [hr_25, q_at (A := fun j => W j - s_rt T so fr 1 W D W j) h1, hmy]; rfl
        have nn1 := ha_26
        have mm1 := hb_27
        refine x_istore C dX0_rot_33 (by decide) (lv' := [(5, .int r_21), (4, .int 1), (3, .int my), (2, .int (nI i)), (1, .ref q), (0, .ref o)]) rfl ?_
        refine x_aload_n C dX0_rot_35 5 rfl ?_
        refine x_get C inlX0 rfl 0 (by decide) gw_3_11 dX0_rot_36 0 rfl rfl ?_
        refine x_iload C dX0_rot_39 1 rfl ?_
        refine x_aaloadA C 1 rfl dX0_rot_41 1 rfl (q_ix (rfl : (1 : Int32) = nI 1) (by decide) (by decide)) 1 rfl rfl ?_
        show X _ _ _ _ 42 _
        refine x_iload_n C dX0_rot_42 3 rfl ?_
        refine x_dup2 C dX0_rot_43 rfl rfl ?_
        refine x_iaload C 0 rfl dX0_rot_44 i (q_cl rfl (by omega)) (q_ix rfl (by omega) (by omega)) 3 rfl ?_
        refine x_iload C dX0_rot_45 0 rfl ?_
        refine x_isub C dX0_rot_47 ?_
        refine x_iastore C 0 rfl dX0_rot_48 i (q_cl rfl (by omega)) (q_ix rfl (by omega) (by omega)) 3 rfl ?_
        show X _ _ [(o, .inr (0, [.ref ly, .ref bl, .ref cv, .ref hg, .ref fl, .ref of_, .ref nm, .int (z + r_11), .int rk, .int ct])), (ly, .inl (cM, 2, .inr (.inr (.inr (.inr (rr2 l0 l1)))))), (l0, .inl (cI, 36, .inl (upd g0 i ((g0 i) - r_11)))), (l1, .inl (cI, 36, .inl (upd g1 i ((g1 i) - r_21)))), (nm, .inl (cI, 6, .inl N_22)), (q, .inr (2, [.ref qc, .ref qs, .ref qe, .int sz])), (qc, .inl (cI, 160, .inl cd)), (qs, .inl (cI, 160, .inl sq_23)), (qe, .inl (cI, 3, .inl en))] _ _ _
        refine x_aload_n C dX0_rot_49 5 rfl ?_
        refine x_dup C dX0_rot_50 rfl ?_
        refine x_get C inlX0 rfl 7 (by decide) gw_23_18 dX0_rot_51 0 rfl rfl ?_
        refine x_iload C dX0_rot_54 0 rfl ?_
        show X _ _ _ _ 56 _
        refine x_iadd C dX0_rot_56 ?_
        refine x_put C inlX0 rfl tyX0 tyX0_ok nmX0 7 (by decide) gw_23_18 rfl dX0_rot_57 0 rfl (rfl) rfl (Nat.le_of_ble_eq_true rfl) ?_
        show X _ _ [(o, .inr (0, [.ref ly, .ref bl, .ref cv, .ref hg, .ref fl, .ref of_, .ref nm, .int ((z + r_11) + r_21), .int rk, .int ct])), (ly, .inl (cM, 2, .inr (.inr (.inr (.inr (rr2 l0 l1)))))), (l0, .inl (cI, 36, .inl (upd g0 i ((g0 i) - r_11)))), (l1, .inl (cI, 36, .inl (upd g1 i ((g1 i) - r_21)))), (nm, .inl (cI, 6, .inl N_22)), (q, .inr (2, [.ref qc, .ref qs, .ref qe, .int sz])), (qc, .inl (cI, 160, .inl cd)), (qs, .inl (cI, 160, .inl sq_23)), (qe, .inl (cI, 3, .inl en))] _ _ _
        refine x_iinc C dX0_rot_60 1 rfl (v := 2) (rfl) (by decide) (lv' := [(4, .int 2), (5, .int r_21), (3, .int my), (2, .int (nI i)), (1, .ref q), (0, .ref o)]) rfl ?_
        refine x_goto C dX0_rot_63 (tgt := 17) rfl ?_
        refine x_iload C dX0_rot_17 0 rfl ?_
        refine x_iconst C dX0_rot_19 (v := 2) rfl ?_
        refine x_icmp_ge C dX0_rot_20 (tgt := 66) rfl (fun _ => ?_) (fun q9 => by first | exact absurd q9 (by decide) | exact absurd (by decide) q9)
        refine x_iinc C dX0_rot_66 3 rfl (v := nI (i + 1)) (nI_1 _) (by decide) (lv' := [(2, .int (nI (i + 1))), (4, .int 2), (5, .int r_21), (3, .int my), (1, .ref q), (0, .ref o)]) rfl ?_
        refine x_goto C dX0_rot_69 (tgt := 2) rfl ?_
        refine x_lv C [0, 4, 5] (lv' := [(2, .int (nI (i + 1))), (1, .ref q), (0, .ref o)]) rfl ?_
        exact ihL2_0 (i + 1) (upd g0 i ((g0 i) - r_11)) (upd g1 i ((g1 i) - r_21)) N_22 sq_23 ((z + r_11) + r_21) (by omega) (q_up h0 (by rw [q_at h0, e0])) (q_up h1 (by rw [q_at h1, e1])) (by rw [hz, e0, e1]; rfl) (nn1) (mm1) (by omega)
  refine x_lv C [0, 2, 1] (lv' := [(2, .int 0), (1, .ref q), (0, .ref o)]) rfl ?_
  show X 0 0 [(o, .inr (0, [.ref ly, .ref bl, .ref cv, .ref hg, .ref fl, .ref of_, .ref nm, .int rt, .int rk, .int ct])), (ly, .inl (cM, 2, .inr (.inr (.inr (.inr (rr2 l0 l1)))))), (l0, .inl (cI, 36, .inl D)), (l1, .inl (cI, 36, .inl W)), (nm, .inl (cI, 6, .inl N0)), (q, .inr (2, [.ref qc, .ref qs, .ref qe, .int sz])), (qc, .inl (cI, 160, .inl cd)), (qs, .inl (cI, 160, .inl sq)), (qe, .inl (cI, 3, .inl en))] [(2, .int (nI 0)), (1, .ref q), (0, .ref o)] 2 []
  exact L2_0 ((36 - 0) + 1) 0 D W N0 sq rt (by omega) (q_0) (q_0) (rfl) (hn1) (hn2) (Nat.lt_succ_self _)
