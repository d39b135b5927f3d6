set_option maxHeartbeats 4000000 in
set_option maxRecDepth 100000 in
theorem c_X5_add (l : Launch) (dG : va_G) (cI cM cW cS : ClassId) (rd rta rlw rsz : Nat) (rat rtk rpl rva rfa v : Int32) (tp : Nat → Int32) (hrz : rsz < 160) : rM l yX5_add cX5_add 2 none ({ frames := 0, cells := 0, slots := 0, locals := 0 } : Room) dG (tY cI cM cW cS) rZ0 [.ref rd, .int v] [(rd, .inr (4, [.ref rta, .int (nI rsz), .int rat, .int rtk, .int rpl, .int rva, .int rfa, .ref rlw])), (rta, .inl (cI, 160, .inl tp))] (fun ov oz => ov = none ∧ oz = [(rd, .inr (4, [.ref rta, .int (nI (rsz + 1)), .int rat, .int rtk, .int rpl, .int rva, .int rfa, .ref rlw])), (rta, .inl (cI, 160, .inl (upd tp rsz v)))] ∧ True) := by
  refine rM_ofV false (by intro h; cases h) rfl (Nat.le_of_ble_eq_true rfl) rfl (fun X C E => ?_)
  show X 0 0 [(rd, .inr (4, [.ref rta, .int (nI rsz), .int rat, .int rtk, .int rpl, .int rva, .int rfa, .ref rlw])), (rta, .inl (cI, 160, .inl tp))] [(0, .ref rd), (1, .int v)] 0 []
  refine x_aload_n C dX5_add_0 0 rfl ?_
  refine x_get C inlX5 rfl 1 (by decide) gw_6_18 dX5_add_1 0 rfl rfl ?_
  refine x_sipush C dX5_add_4 (v := 160) rfl ?_
  refine x_icmp_lt C dX5_add_7 (tgt := 11) rfl (fun c1 => ?_) (fun c1 => ?_)
  ·
    have c1 : rsz < 160 := q_lt_t rfl (rfl : (160 : Int32) = nI 160) (by omega) (by omega) c1
    refine x_aload_n C dX5_add_11 0 rfl ?_
    refine x_get C inlX5 rfl 0 (by decide) gw_4_1 dX5_add_12 0 rfl rfl ?_
    refine x_aload_n C dX5_add_15 0 rfl ?_
    refine x_get C inlX5 rfl 1 (by decide) gw_6_18 dX5_add_16 0 rfl rfl ?_
    refine x_iload_n C dX5_add_19 1 rfl ?_
    refine x_iastore C 0 rfl dX5_add_20 rsz (q_cl rfl (by omega)) (q_ix rfl (by omega) (by omega)) 1 rfl ?_
    show X _ _ [(rd, .inr (4, [.ref rta, .int (nI rsz), .int rat, .int rtk, .int rpl, .int rva, .int rfa, .ref rlw])), (rta, .inl (cI, 160, .inl (upd tp rsz v)))] _ _ _
    refine x_aload_n C dX5_add_21 0 rfl ?_
    refine x_dup C dX5_add_22 rfl ?_
    refine x_get C inlX5 rfl 1 (by decide) gw_6_18 dX5_add_23 0 rfl rfl ?_
    refine x_iconst C dX5_add_26 (v := 1) rfl ?_
    show X _ _ _ _ 27 _
    refine x_iadd C dX5_add_27 ?_
    refine x_topi C (nI (rsz + 1)) (q_iadd (a := rsz) (b := 1) rfl (rfl : (1 : Int32) = nI 1)) ?_
    refine x_put C inlX5 rfl tyX5 tyX5_ok nmX5 1 (by decide) gw_6_18 rfl dX5_add_28 0 rfl (rfl) rfl (Nat.le_of_ble_eq_true rfl) ?_
    show X _ _ [(rd, .inr (4, [.ref rta, .int (nI (rsz + 1)), .int rat, .int rtk, .int rpl, .int rva, .int rfa, .ref rlw])), (rta, .inl (cI, 160, .inl (upd tp rsz v)))] _ _ _
    refine E dX5_add_31 ?_
    exact ⟨rfl, rfl, by trivial⟩
  ·
    have c1 : rsz ≥ 160 := q_lt_f rfl (rfl : (160 : Int32) = nI 160) (by omega) (by omega) c1
    exfalso; omega
theorem kS_X7_116 : GoodIn GW (va_wsS RX7 116 yX7_isByte (Cond.code yX7_isByte cX7_isByte 1 (some .boolean) :: GW)) := r_gS gw_16_11 gw_16_12 gw_1_2 gw_16_13
theorem hy_X7_isByte : yX7_isByte.cls ≠ "java/lang/invoke/MethodHandle" ∧ yX7_isByte.cls ≠ "java/lang/invoke/VarHandle" ∧ (parseMethodDescriptor yX7_isByte.desc).map (fun d => d.parameters.length) = some 1 := ⟨by decide +kernel, by decide +kernel, by decide +kernel⟩
theorem kV_X7_76 : GoodIn GW (wsV RX7 76 yX5_add.cls yX5_add (Cond.code yX5_add cX5_add 2 none :: GW)) := r_gV gw_6_14 gw_6_15 gw_6_16 gw_2_5 gw_6_17
theorem hy_X5_add : yX5_add.cls ≠ "java/lang/invoke/MethodHandle" ∧ yX5_add.cls ≠ "java/lang/invoke/VarHandle" ∧ (parseMethodDescriptor yX5_add.desc).map (fun d => d.parameters.length) = some 1 := ⟨by decide +kernel, by decide +kernel, by decide +kernel⟩
set_option maxHeartbeats 4000000 in
set_option maxRecDepth 100000 in
theorem c_X7_feed (l : Launch) (dG : va_G) (cI cM cW cS : ClassId) (x pw uw o hh rd bk pl asd fd : Nat) (wr : Nat) (hi9 : Int32) (tw : Nat) (rta rlw rsz : Nat) (rat rtk rpl rva rfa : Int32) (tpf : Nat → Int32) (n a b c d e : Int32) (hrz : rsz ≤ 160) : rM l yX7_feed cX7_feed 8 (some .int) ({ frames := 2, cells := 0, slots := 0, locals := 42 } : Room) dG (tY cI cM cW cS) rZ0 [.ref x, .int n, .int a, .int b, .int c, .int d, .int e] [(x, .inr (6, [.ref tw, .ref pw, .ref uw, .ref o, .ref hh, .ref rd, .ref bk, .ref pl, .ref asd, .ref fd, .int (nI wr), .int hi9])), (rd, .inr (4, [.ref rta, .int (nI rsz), .int rat, .int rtk, .int rpl, .int rva, .int rfa, .ref rlw])), (rta, .inl (cI, 160, .inl tpf))] (fun ov oz => ∃ (r : Int32) (z' : Nat) (f' : Nat → Int32), ov = some (.int r) ∧ oz = [(x, .inr (6, [.ref tw, .ref pw, .ref uw, .ref o, .ref hh, .ref rd, .ref bk, .ref pl, .ref asd, .ref fd, .int (nI wr), .int hi9])), (rd, .inr (4, [.ref rta, .int (nI z'), .int rat, .int rtk, .int rpl, .int rva, .int rfa, .ref rlw])), (rta, .inl (cI, 160, .inl f'))] ∧ (r, z', f') = (o_feed rsz n a b c d e, o_feed_n rsz n a b c d e, o_feed_f tpf rsz n a b c d e)) := by
  refine rM_ofI rfl (Nat.le_of_ble_eq_true rfl) rfl (fun X C E => ?_)
  show X 0 0 [(x, .inr (6, [.ref tw, .ref pw, .ref uw, .ref o, .ref hh, .ref rd, .ref bk, .ref pl, .ref asd, .ref fd, .int (nI wr), .int hi9])), (rd, .inr (4, [.ref rta, .int (nI rsz), .int rat, .int rtk, .int rpl, .int rva, .int rfa, .ref rlw])), (rta, .inl (cI, 160, .inl tpf))] [(0, .ref x), (1, .int n), (2, .int a), (3, .int b), (4, .int c), (5, .int d), (6, .int e)] 0 []
  refine x_iload_n C dX7_feed_0 2 rfl ?_
  refine x_callS C (As := [.int a]) (st := []) (wc := []) (wr := [(x, .inr (6, [.ref tw, .ref pw, .ref uw, .ref o, .ref hh, .ref rd, .ref bk, .ref pl, .ref asd, .ref fd, .int (nI wr), .int hi9])), (rd, .inr (4, [.ref rta, .int (nI rsz), .int rat, .int rtk, .int rpl, .int rva, .int rfa, .ref rlw])), (rta, .inl (cI, 160, .inl tpf))]) (c_X7_isByte l dG cI cM cW cS a ) rZ0_ok (fun _ _ _ _ => trivial) kS_X7_116 hy_X7_isByte ⟨Nat.le_of_ble_eq_true rfl, Nat.le_of_ble_eq_true rfl⟩ ⟨Nat.le_of_ble_eq_true rfl, Nat.le_of_ble_eq_true rfl⟩ dX7_feed_1 [] [0, 1, 2] rfl rfl rfl rfl (by decide) rfl (Nat.le_of_ble_eq_true rfl) ?_
  intro v1 w2 h3
  rcases h3 with h3 | h3
  ·
    obtain ⟨rfl, rfl, hf4⟩ := h3
    show X 0 0 [(x, .inr (6, [.ref tw, .ref pw, .ref uw, .ref o, .ref hh, .ref rd, .ref bk, .ref pl, .ref asd, .ref fd, .int (nI wr), .int hi9])), (rd, .inr (4, [.ref rta, .int (nI rsz), .int rat, .int rtk, .int rpl, .int rva, .int rfa, .ref rlw])), (rta, .inl (cI, 160, .inl tpf))] [(0, .ref x), (1, .int n), (2, .int a), (3, .int b), (4, .int c), (5, .int d), (6, .int e)] 4 [.int 1]
    refine x_if_eq C dX7_feed_4 (tgt := 42) rfl (fun q9 => absurd q9 (by decide)) (fun _ => ?_)
    refine x_iload_n C dX7_feed_7 3 rfl ?_
    refine x_callS C (As := [.int b]) (st := []) (wc := []) (wr := [(x, .inr (6, [.ref tw, .ref pw, .ref uw, .ref o, .ref hh, .ref rd, .ref bk, .ref pl, .ref asd, .ref fd, .int (nI wr), .int hi9])), (rd, .inr (4, [.ref rta, .int (nI rsz), .int rat, .int rtk, .int rpl, .int rva, .int rfa, .ref rlw])), (rta, .inl (cI, 160, .inl tpf))]) (c_X7_isByte l dG cI cM cW cS b ) rZ0_ok (fun _ _ _ _ => trivial) kS_X7_116 hy_X7_isByte ⟨Nat.le_of_ble_eq_true rfl, Nat.le_of_ble_eq_true rfl⟩ ⟨Nat.le_of_ble_eq_true rfl, Nat.le_of_ble_eq_true rfl⟩ dX7_feed_8 [] [0, 1, 2] rfl rfl rfl rfl (by decide) rfl (Nat.le_of_ble_eq_true rfl) ?_
    intro v5 w6 h7
    rcases h7 with h7 | h7
    ·
      obtain ⟨rfl, rfl, hf8⟩ := h7
      show X 0 0 [(x, .inr (6, [.ref tw, .ref pw, .ref uw, .ref o, .ref hh, .ref rd, .ref bk, .ref pl, .ref asd, .ref fd, .int (nI wr), .int hi9])), (rd, .inr (4, [.ref rta, .int (nI rsz), .int rat, .int rtk, .int rpl, .int rva, .int rfa, .ref rlw])), (rta, .inl (cI, 160, .inl tpf))] [(0, .ref x), (1, .int n), (2, .int a), (3, .int b), (4, .int c), (5, .int d), (6, .int e)] 11 [.int 1]
      refine x_if_eq C dX7_feed_11 (tgt := 42) rfl (fun q9 => absurd q9 (by decide)) (fun _ => ?_)
      refine x_iload C dX7_feed_14 4 rfl ?_
      refine x_callS C (As := [.int c]) (st := []) (wc := []) (wr := [(x, .inr (6, [.ref tw, .ref pw, .ref uw, .ref o, .ref hh, .ref rd, .ref bk, .ref pl, .ref asd, .ref fd, .int (nI wr), .int hi9])), (rd, .inr (4, [.ref rta, .int (nI rsz), .int rat, .int rtk, .int rpl, .int rva, .int rfa, .ref rlw])), (rta, .inl (cI, 160, .inl tpf))]) (c_X7_isByte l dG cI cM cW cS c ) rZ0_ok (fun _ _ _ _ => trivial) kS_X7_116 hy_X7_isByte ⟨Nat.le_of_ble_eq_true rfl, Nat.le_of_ble_eq_true rfl⟩ ⟨Nat.le_of_ble_eq_true rfl, Nat.le_of_ble_eq_true rfl⟩ dX7_feed_16 [] [0, 1, 2] rfl rfl rfl rfl (by decide) rfl (Nat.le_of_ble_eq_true rfl) ?_
      intro v9 w10 h11
      rcases h11 with h11 | h11
      ·
        obtain ⟨rfl, rfl, hf12⟩ := h11
        show X 0 0 [(x, .inr (6, [.ref tw, .ref pw, .ref uw, .ref o, .ref hh, .ref rd, .ref bk, .ref pl, .ref asd, .ref fd, .int (nI wr), .int hi9])), (rd, .inr (4, [.ref rta, .int (nI rsz), .int rat, .int rtk, .int rpl, .int rva, .int rfa, .ref rlw])), (rta, .inl (cI, 160, .inl tpf))] [(0, .ref x), (1, .int n), (2, .int a), (3, .int b), (4, .int c), (5, .int d), (6, .int e)] 19 [.int 1]
        refine x_if_eq C dX7_feed_19 (tgt := 42) rfl (fun q9 => absurd q9 (by decide)) (fun _ => ?_)
        refine x_iload C dX7_feed_22 5 rfl ?_
        refine x_callS C (As := [.int d]) (st := []) (wc := []) (wr := [(x, .inr (6, [.ref tw, .ref pw, .ref uw, .ref o, .ref hh, .ref rd, .ref bk, .ref pl, .ref asd, .ref fd, .int (nI wr), .int hi9])), (rd, .inr (4, [.ref rta, .int (nI rsz), .int rat, .int rtk, .int rpl, .int rva, .int rfa, .ref rlw])), (rta, .inl (cI, 160, .inl tpf))]) (c_X7_isByte l dG cI cM cW cS d ) rZ0_ok (fun _ _ _ _ => trivial) kS_X7_116 hy_X7_isByte ⟨Nat.le_of_ble_eq_true rfl, Nat.le_of_ble_eq_true rfl⟩ ⟨Nat.le_of_ble_eq_true rfl, Nat.le_of_ble_eq_true rfl⟩ dX7_feed_24 [] [0, 1, 2] rfl rfl rfl rfl (by decide) rfl (Nat.le_of_ble_eq_true rfl) ?_
        intro v13 w14 h15
        rcases h15 with h15 | h15
        ·
          obtain ⟨rfl, rfl, hf16⟩ := h15
          show X 0 0 [(x, .inr (6, [.ref tw, .ref pw, .ref uw, .ref o, .ref hh, .ref rd, .ref bk, .ref pl, .ref asd, .ref fd, .int (nI wr), .int hi9])), (rd, .inr (4, [.ref rta, .int (nI rsz), .int rat, .int rtk, .int rpl, .int rva, .int rfa, .ref rlw])), (rta, .inl (cI, 160, .inl tpf))] [(0, .ref x), (1, .int n), (2, .int a), (3, .int b), (4, .int c), (5, .int d), (6, .int e)] 27 [.int 1]
          refine x_if_eq C dX7_feed_27 (tgt := 42) rfl (fun q9 => absurd q9 (by decide)) (fun _ => ?_)
          refine x_iload C dX7_feed_30 6 rfl ?_
          refine x_callS C (As := [.int e]) (st := []) (wc := []) (wr := [(x, .inr (6, [.ref tw, .ref pw, .ref uw, .ref o, .ref hh, .ref rd, .ref bk, .ref pl, .ref asd, .ref fd, .int (nI wr), .int hi9])), (rd, .inr (4, [.ref rta, .int (nI rsz), .int rat, .int rtk, .int rpl, .int rva, .int rfa, .ref rlw])), (rta, .inl (cI, 160, .inl tpf))]) (c_X7_isByte l dG cI cM cW cS e ) rZ0_ok (fun _ _ _ _ => trivial) kS_X7_116 hy_X7_isByte ⟨Nat.le_of_ble_eq_true rfl, Nat.le_of_ble_eq_true rfl⟩ ⟨Nat.le_of_ble_eq_true rfl, Nat.le_of_ble_eq_true rfl⟩ dX7_feed_32 [] [0, 1, 2] rfl rfl rfl rfl (by decide) rfl (Nat.le_of_ble_eq_true rfl) ?_
          intro v17 w18 h19
          rcases h19 with h19 | h19
          ·
            obtain ⟨rfl, rfl, hf20⟩ := h19
            show X 0 0 [(x, .inr (6, [.ref tw, .ref pw, .ref uw, .ref o, .ref hh, .ref rd, .ref bk, .ref pl, .ref asd, .ref fd, .int (nI wr), .int hi9])), (rd, .inr (4, [.ref rta, .int (nI rsz), .int rat, .int rtk, .int rpl, .int rva, .int rfa, .ref rlw])), (rta, .inl (cI, 160, .inl tpf))] [(0, .ref x), (1, .int n), (2, .int a), (3, .int b), (4, .int c), (5, .int d), (6, .int e)] 35 [.int 1]
            refine x_if_eq C dX7_feed_35 (tgt := 42) rfl (fun q9 => absurd q9 (by decide)) (fun _ => ?_)
            refine x_iconst C dX7_feed_38 (v := 1) rfl ?_
            refine x_goto C dX7_feed_39 (tgt := 43) rfl ?_
            refine x_istore C dX7_feed_43 (by decide) (lv' := [(7, .int 1), (0, .ref x), (1, .int n), (2, .int a), (3, .int b), (4, .int c), (5, .int d), (6, .int e)]) rfl ?_
            refine x_iload_n C dX7_feed_45 2 rfl ?_
            refine x_iconst C dX7_feed_46 (v := 1) rfl ?_
            refine x_iconst C dX7_feed_47 (v := 5) rfl ?_
            refine x_callS C (As := [.int n, .int 1, .int 5]) (st := []) (wc := []) (wr := [(x, .inr (6, [.ref tw, .ref pw, .ref uw, .ref o, .ref hh, .ref rd, .ref bk, .ref pl, .ref asd, .ref fd, .int (nI wr), .int hi9])), (rd, .inr (4, [.ref rta, .int (nI rsz), .int rat, .int rtk, .int rpl, .int rva, .int rfa, .ref rlw])), (rta, .inl (cI, 160, .inl tpf))]) (c_X7_within l dG cI cM cW cS n 1 5 ) rZ0_ok (fun _ _ _ _ => trivial) kS_X7_92 hy_X7_within ⟨Nat.le_of_ble_eq_true rfl, Nat.le_of_ble_eq_true rfl⟩ ⟨Nat.le_of_ble_eq_true rfl, Nat.le_of_ble_eq_true rfl⟩ dX7_feed_48 [] [0, 1, 2] rfl rfl rfl rfl (by decide) rfl (Nat.le_of_ble_eq_true rfl) ?_
            intro v21 w22 h23
            rcases h23 with h23 | h23
            ·
              obtain ⟨rfl, rfl, hf24⟩ := h23
              show X 0 0 [(x, .inr (6, [.ref tw, .ref pw, .ref uw, .ref o, .ref hh, .ref rd, .ref bk, .ref pl, .ref asd, .ref fd, .int (nI wr), .int hi9])), (rd, .inr (4, [.ref rta, .int (nI rsz), .int rat, .int rtk, .int rpl, .int rva, .int rfa, .ref rlw])), (rta, .inl (cI, 160, .inl tpf))] [(7, .int 1), (0, .ref x), (1, .int n), (2, .int a), (3, .int b), (4, .int c), (5, .int d), (6, .int e)] 51 [.int 1]
              have hr25 := hf24
              rcases q_in5 hf24 with rfl | rfl | rfl | rfl | rfl
              ·
                have hn9 : o_n 1 = 1 := rfl
                refine x_if_eq C dX7_feed_51 (tgt := 59) rfl (fun q9 => absurd q9 (by decide)) (fun _ => ?_)
                refine x_iload C dX7_feed_54 0 rfl ?_
                refine x_if_ne C dX7_feed_56 (tgt := 62) rfl (fun _ => ?_) (fun q9 => by first | exact absurd q9 (by decide) | exact absurd (by decide) q9)
                refine x_aload_n C dX7_feed_62 1 rfl ?_
                refine x_get C inlX7 rfl 5 (by decide) gw_2_6 dX7_feed_63 0 rfl rfl ?_
                refine x_getN C inlX5 rfl 1 (by decide) nw_X7_113 dX7_feed_66 1 rfl rfl ?_
                refine x_iload_n C dX7_feed_69 2 rfl ?_
                refine x_iadd C dX7_feed_70 ?_
                refine x_sipush C dX7_feed_71 (v := 160) rfl ?_
                refine x_icmp_le C dX7_feed_74 (tgt := 80) rfl (fun c26 => ?_) (fun c26 => ?_)
                ·
                  have c26 : rsz + 1 ≤ 160 := q_le_t (q_iadd (a := rsz) (b := 1) rfl (rfl : (1 : Int32) = nI 1)) (rfl : (160 : Int32) = nI 160) (by omega) (by omega) c26
                  refine x_aload_n C dX7_feed_80 1 rfl ?_
                  refine x_get C inlX7 rfl 5 (by decide) gw_2_6 dX7_feed_81 0 rfl rfl ?_
                  refine x_iload_n C dX7_feed_84 3 rfl ?_
                  refine x_callV C (As := [.int a]) (st := []) (wc := [(rd, .inr (4, [.ref rta, .int (nI rsz), .int rat, .int rtk, .int rpl, .int rva, .int rfa, .ref rlw])), (rta, .inl (cI, 160, .inl tpf))]) (wr := [(x, .inr (6, [.ref tw, .ref pw, .ref uw, .ref o, .ref hh, .ref rd, .ref bk, .ref pl, .ref asd, .ref fd, .int (nI wr), .int hi9]))]) (c_X5_add l dG cI cM cW cS rd rta rlw rsz rat rtk rpl rva rfa a tpf (by first | assumption | omega | decide)) rZ0_ok (fun _ _ _ _ => trivial) kV_X7_76 ⟨rfl, hy_X5_add⟩ ⟨Nat.le_of_ble_eq_true rfl, Nat.le_of_ble_eq_true rfl⟩ ⟨Nat.le_of_ble_eq_true rfl, Nat.le_of_ble_eq_true rfl⟩ dX7_feed_85 1 rfl rfl [1, 2] [0] rfl rfl rfl rfl (by decide) rfl (Nat.le_of_ble_eq_true rfl) ?_
                  intro v27 w28 h29
                  obtain ⟨rfl, rfl, hf30⟩ := h29
                  show X 0 0 [(x, .inr (6, [.ref tw, .ref pw, .ref uw, .ref o, .ref hh, .ref rd, .ref bk, .ref pl, .ref asd, .ref fd, .int (nI wr), .int hi9])), (rd, .inr (4, [.ref rta, .int (nI (rsz + 1)), .int rat, .int rtk, .int rpl, .int rva, .int rfa, .ref rlw])), (rta, .inl (cI, 160, .inl (upd tpf rsz a)))] [(7, .int 1), (0, .ref x), (1, .int 1), (2, .int a), (3, .int b), (4, .int c), (5, .int d), (6, .int e)] 88 []
                  refine x_iload_n C dX7_feed_88 2 rfl ?_
                  refine x_iconst C dX7_feed_89 (v := 1) rfl ?_
                  refine x_icmp_le C dX7_feed_90 (tgt := 101) rfl (fun _ => ?_) (fun q9 => by first | exact absurd q9 (by decide) | exact absurd (by decide) q9)
                  refine x_iload_n C dX7_feed_101 2 rfl ?_
                  refine x_iconst C dX7_feed_102 (v := 2) rfl ?_
                  refine x_icmp_le C dX7_feed_103 (tgt := 115) rfl (fun _ => ?_) (fun q9 => by first | exact absurd q9 (by decide) | exact absurd (by decide) q9)
                  show X _ _ _ _ 115 _
                  refine x_iload_n C dX7_feed_115 2 rfl ?_
                  refine x_iconst C dX7_feed_116 (v := 3) rfl ?_
                  refine x_icmp_le C dX7_feed_117 (tgt := 129) rfl (fun _ => ?_) (fun q9 => by first | exact absurd q9 (by decide) | exact absurd (by decide) q9)
                  refine x_iload_n C dX7_feed_129 2 rfl ?_
                  refine x_iconst C dX7_feed_130 (v := 4) rfl ?_
                  refine x_icmp_le C dX7_feed_131 (tgt := 143) rfl (fun _ => ?_) (fun q9 => by first | exact absurd q9 (by decide) | exact absurd (by decide) q9)
                  refine x_aload_n C dX7_feed_143 1 rfl ?_
                  refine x_get C inlX7 rfl 5 (by decide) gw_2_6 dX7_feed_144 0 rfl rfl ?_
                  refine x_getN C inlX5 rfl 1 (by decide) nw_X7_113 dX7_feed_147 1 rfl rfl ?_
                  refine E dX7_feed_150 (rfl) ?_
                  exact ⟨(nI (rsz + 1)), (rsz + 1), (upd tpf rsz a), rfl, rfl, by (unfold o_feed o_feed_n o_feed_f o_fd); (try simp only [hn9]); (repeat (first | rw [if_pos (by first | (rw [if_pos (by decide)]; assumption) | (rw [if_neg (by decide), if_pos (by decide)]; assumption) | (rw [if_neg (by decide), if_neg (by decide)]; assumption) | assumption | decide | omega | exact o_one_t (by assumption) | (rw [o_one_f (by assumption)]; decide) | exact ⟨by assumption, by assumption⟩ | exact fun h9 => absurd h9.1 (by assumption) | exact fun h9 => absurd h9.2 (by assumption))] | rw [if_neg (by first | (rw [if_pos (by decide)]; assumption) | (rw [if_neg (by decide), if_pos (by decide)]; assumption) | (rw [if_neg (by decide), if_neg (by decide)]; assumption) | assumption | decide | omega | exact o_one_t (by assumption) | (rw [o_one_f (by assumption)]; decide) | exact ⟨by assumption, by assumption⟩ | exact fun h9 => absurd h9.1 (by assumption) | exact fun h9 => absurd h9.2 (by assumption))])); all_goals (first | rfl)⟩
                ·
                  have c26 : rsz + 1 > 160 := q_le_f (q_iadd (a := rsz) (b := 1) rfl (rfl : (1 : Int32) = nI 1)) (rfl : (160 : Int32) = nI 160) (by omega) (by omega) c26
                  refine x_bipush C dX7_feed_77 (v := (-4)) rfl ?_
                  refine E dX7_feed_79 (rfl) ?_
                  exact ⟨(-4), rsz, tpf, rfl, rfl, by (unfold o_feed o_feed_n o_feed_f o_fd); (try simp only [hn9]); (repeat (first | rw [if_pos (by first | (rw [if_pos (by decide)]; assumption) | (rw [if_neg (by decide), if_pos (by decide)]; assumption) | (rw [if_neg (by decide), if_neg (by decide)]; assumption) | assumption | decide | omega | exact o_one_t (by assumption) | (rw [o_one_f (by assumption)]; decide) | exact ⟨by assumption, by assumption⟩ | exact fun h9 => absurd h9.1 (by assumption) | exact fun h9 => absurd h9.2 (by assumption))] | rw [if_neg (by first | (rw [if_pos (by decide)]; assumption) | (rw [if_neg (by decide), if_pos (by decide)]; assumption) | (rw [if_neg (by decide), if_neg (by decide)]; assumption) | assumption | decide | omega | exact o_one_t (by assumption) | (rw [o_one_f (by assumption)]; decide) | exact ⟨by assumption, by assumption⟩ | exact fun h9 => absurd h9.1 (by assumption) | exact fun h9 => absurd h9.2 (by assumption))])); all_goals (first | rfl)⟩
              ·
                have hn9 : o_n 2 = 2 := rfl
                refine x_if_eq C dX7_feed_51 (tgt := 59) rfl (fun q9 => absurd q9 (by decide)) (fun _ => ?_)
                refine x_iload C dX7_feed_54 0 rfl ?_
                refine x_if_ne C dX7_feed_56 (tgt := 62) rfl (fun _ => ?_) (fun q9 => by first | exact absurd q9 (by decide) | exact absurd (by decide) q9)
                refine x_aload_n C dX7_feed_62 1 rfl ?_
                refine x_get C inlX7 rfl 5 (by decide) gw_2_6 dX7_feed_63 0 rfl rfl ?_
                refine x_getN C inlX5 rfl 1 (by decide) nw_X7_113 dX7_feed_66 1 rfl rfl ?_
                refine x_iload_n C dX7_feed_69 2 rfl ?_
                refine x_iadd C dX7_feed_70 ?_
                refine x_sipush C dX7_feed_71 (v := 160) rfl ?_
                refine x_icmp_le C dX7_feed_74 (tgt := 80) rfl (fun c31 => ?_) (fun c31 => ?_)
                ·
                  have c31 : rsz + 2 ≤ 160 := q_le_t (q_iadd (a := rsz) (b := 2) rfl (rfl : (2 : Int32) = nI 2)) (rfl : (160 : Int32) = nI 160) (by omega) (by omega) c31
                  refine x_aload_n C dX7_feed_80 1 rfl ?_
                  refine x_get C inlX7 rfl 5 (by decide) gw_2_6 dX7_feed_81 0 rfl rfl ?_
                  refine x_iload_n C dX7_feed_84 3 rfl ?_
                  refine x_callV C (As := [.int a]) (st := []) (wc := [(rd, .inr (4, [.ref rta, .int (nI rsz), .int rat, .int rtk, .int rpl, .int rva, .int rfa, .ref rlw])), (rta, .inl (cI, 160, .inl tpf))]) (wr := [(x, .inr (6, [.ref tw, .ref pw, .ref uw, .ref o, .ref hh, .ref rd, .ref bk, .ref pl, .ref asd, .ref fd, .int (nI wr), .int hi9]))]) (c_X5_add l dG cI cM cW cS rd rta rlw rsz rat rtk rpl rva rfa a tpf (by first | assumption | omega | decide)) rZ0_ok (fun _ _ _ _ => trivial) kV_X7_76 ⟨rfl, hy_X5_add⟩ ⟨Nat.le_of_ble_eq_true rfl, Nat.le_of_ble_eq_true rfl⟩ ⟨Nat.le_of_ble_eq_true rfl, Nat.le_of_ble_eq_true rfl⟩ dX7_feed_85 1 rfl rfl [1, 2] [0] rfl rfl rfl rfl (by decide) rfl (Nat.le_of_ble_eq_true rfl) ?_
                  intro v32 w33 h34
                  obtain ⟨rfl, rfl, hf35⟩ := h34
                  show X 0 0 [(x, .inr (6, [.ref tw, .ref pw, .ref uw, .ref o, .ref hh, .ref rd, .ref bk, .ref pl, .ref asd, .ref fd, .int (nI wr), .int hi9])), (rd, .inr (4, [.ref rta, .int (nI (rsz + 1)), .int rat, .int rtk, .int rpl, .int rva, .int rfa, .ref rlw])), (rta, .inl (cI, 160, .inl (upd tpf rsz a)))] [(7, .int 1), (0, .ref x), (1, .int 2), (2, .int a), (3, .int b), (4, .int c), (5, .int d), (6, .int e)] 88 []
                  refine x_iload_n C dX7_feed_88 2 rfl ?_
                  refine x_iconst C dX7_feed_89 (v := 1) rfl ?_
                  refine x_icmp_le C dX7_feed_90 (tgt := 101) rfl (fun q9 => absurd q9 (by decide)) (fun _ => ?_)
                  refine x_aload_n C dX7_feed_93 1 rfl ?_
                  refine x_get C inlX7 rfl 5 (by decide) gw_2_6 dX7_feed_94 0 rfl rfl ?_
                  refine x_iload_n C dX7_feed_97 4 rfl ?_
                  show X _ _ _ _ 98 _
                  refine x_callV C (As := [.int b]) (st := []) (wc := [(rd, .inr (4, [.ref rta, .int (nI (rsz + 1)), .int rat, .int rtk, .int rpl, .int rva, .int rfa, .ref rlw])), (rta, .inl (cI, 160, .inl (upd tpf rsz a)))]) (wr := [(x, .inr (6, [.ref tw, .ref pw, .ref uw, .ref o, .ref hh, .ref rd, .ref bk, .ref pl, .ref asd, .ref fd, .int (nI wr), .int hi9]))]) (c_X5_add l dG cI cM cW cS rd rta rlw (rsz + 1) rat rtk rpl rva rfa b (upd tpf rsz a) (by first | assumption | omega | decide)) rZ0_ok (fun _ _ _ _ => trivial) kV_X7_76 ⟨rfl, hy_X5_add⟩ ⟨Nat.le_of_ble_eq_true rfl, Nat.le_of_ble_eq_true rfl⟩ ⟨Nat.le_of_ble_eq_true rfl, Nat.le_of_ble_eq_true rfl⟩ dX7_feed_98 1 rfl rfl [1, 2] [0] rfl rfl rfl rfl (by decide) rfl (Nat.le_of_ble_eq_true rfl) ?_
                  intro v36 w37 h38
                  obtain ⟨rfl, rfl, hf39⟩ := h38
                  show X 0 0 [(x, .inr (6, [.ref tw, .ref pw, .ref uw, .ref o, .ref hh, .ref rd, .ref bk, .ref pl, .ref asd, .ref fd, .int (nI wr), .int hi9])), (rd, .inr (4, [.ref rta, .int (nI ((rsz + 1) + 1)), .int rat, .int rtk, .int rpl, .int rva, .int rfa, .ref rlw])), (rta, .inl (cI, 160, .inl (upd (upd tpf rsz a) (rsz + 1) b)))] [(7, .int 1), (0, .ref x), (1, .int 2), (2, .int a), (3, .int b), (4, .int c), (5, .int d), (6, .int e)] 101 []
                  refine x_iload_n C dX7_feed_101 2 rfl ?_
                  refine x_iconst C dX7_feed_102 (v := 2) rfl ?_
                  refine x_icmp_le C dX7_feed_103 (tgt := 115) rfl (fun _ => ?_) (fun q9 => by first | exact absurd q9 (by decide) | exact absurd (by decide) q9)
                  refine x_iload_n C dX7_feed_115 2 rfl ?_
                  refine x_iconst C dX7_feed_116 (v := 3) rfl ?_
                  refine x_icmp_le C dX7_feed_117 (tgt := 129) rfl (fun _ => ?_) (fun q9 => by first | exact absurd q9 (by decide) | exact absurd (by decide) q9)
                  refine x_iload_n C dX7_feed_129 2 rfl ?_
                  refine x_iconst C dX7_feed_130 (v := 4) rfl ?_
                  refine x_icmp_le C dX7_feed_131 (tgt := 143) rfl (fun _ => ?_) (fun q9 => by first | exact absurd q9 (by decide) | exact absurd (by decide) q9)
                  show X _ _ _ _ 143 _
                  refine x_aload_n C dX7_feed_143 1 rfl ?_
                  refine x_get C inlX7 rfl 5 (by decide) gw_2_6 dX7_feed_144 0 rfl rfl ?_
                  refine x_getN C inlX5 rfl 1 (by decide) nw_X7_113 dX7_feed_147 1 rfl rfl ?_
                  refine E dX7_feed_150 (rfl) ?_
                  exact ⟨(nI ((rsz + 1) + 1)), ((rsz + 1) + 1), (upd (upd tpf rsz a) (rsz + 1) b), rfl, rfl, by (unfold o_feed o_feed_n o_feed_f o_fd); (try simp only [hn9]); (repeat (first | rw [if_pos (by first | (rw [if_pos (by decide)]; assumption) | (rw [if_neg (by decide), if_pos (by decide)]; assumption) | (rw [if_neg (by decide), if_neg (by decide)]; assumption) | assumption | decide | omega | exact o_one_t (by assumption) | (rw [o_one_f (by assumption)]; decide) | exact ⟨by assumption, by assumption⟩ | exact fun h9 => absurd h9.1 (by assumption) | exact fun h9 => absurd h9.2 (by assumption))] | rw [if_neg (by first | (rw [if_pos (by decide)]; assumption) | (rw [if_neg (by decide), if_pos (by decide)]; assumption) | (rw [if_neg (by decide), if_neg (by decide)]; assumption) | assumption | decide | omega | exact o_one_t (by assumption) | (rw [o_one_f (by assumption)]; decide) | exact ⟨by assumption, by assumption⟩ | exact fun h9 => absurd h9.1 (by assumption) | exact fun h9 => absurd h9.2 (by assumption))])); all_goals (first | rfl)⟩
                ·
                  have c31 : rsz + 2 > 160 := q_le_f (q_iadd (a := rsz) (b := 2) rfl (rfl : (2 : Int32) = nI 2)) (rfl : (160 : Int32) = nI 160) (by omega) (by omega) c31
                  refine x_bipush C dX7_feed_77 (v := (-4)) rfl ?_
                  refine E dX7_feed_79 (rfl) ?_
                  exact ⟨(-4), rsz, tpf, rfl, rfl, by (unfold o_feed o_feed_n o_feed_f o_fd); (try simp only [hn9]); (repeat (first | rw [if_pos (by first | (rw [if_pos (by decide)]; assumption) | (rw [if_neg (by decide), if_pos (by decide)]; assumption) | (rw [if_neg (by decide), if_neg (by decide)]; assumption) | assumption | decide | omega | exact o_one_t (by assumption) | (rw [o_one_f (by assumption)]; decide) | exact ⟨by assumption, by assumption⟩ | exact fun h9 => absurd h9.1 (by assumption) | exact fun h9 => absurd h9.2 (by assumption))] | rw [if_neg (by first | (rw [if_pos (by decide)]; assumption) | (rw [if_neg (by decide), if_pos (by decide)]; assumption) | (rw [if_neg (by decide), if_neg (by decide)]; assumption) | assumption | decide | omega | exact o_one_t (by assumption) | (rw [o_one_f (by assumption)]; decide) | exact ⟨by assumption, by assumption⟩ | exact fun h9 => absurd h9.1 (by assumption) | exact fun h9 => absurd h9.2 (by assumption))])); all_goals (first | rfl)⟩
              ·
                have hn9 : o_n 3 = 3 := rfl
                refine x_if_eq C dX7_feed_51 (tgt := 59) rfl (fun q9 => absurd q9 (by decide)) (fun _ => ?_)
                refine x_iload C dX7_feed_54 0 rfl ?_
                refine x_if_ne C dX7_feed_56 (tgt := 62) rfl (fun _ => ?_) (fun q9 => by first | exact absurd q9 (by decide) | exact absurd (by decide) q9)
                refine x_aload_n C dX7_feed_62 1 rfl ?_
                refine x_get C inlX7 rfl 5 (by decide) gw_2_6 dX7_feed_63 0 rfl rfl ?_
                refine x_getN C inlX5 rfl 1 (by decide) nw_X7_113 dX7_feed_66 1 rfl rfl ?_
                refine x_iload_n C dX7_feed_69 2 rfl ?_
                refine x_iadd C dX7_feed_70 ?_
                refine x_sipush C dX7_feed_71 (v := 160) rfl ?_
                refine x_icmp_le C dX7_feed_74 (tgt := 80) rfl (fun c40 => ?_) (fun c40 => ?_)
                ·
                  have c40 : rsz + 3 ≤ 160 := q_le_t (q_iadd (a := rsz) (b := 3) rfl (rfl : (3 : Int32) = nI 3)) (rfl : (160 : Int32) = nI 160) (by omega) (by omega) c40
                  refine x_aload_n C dX7_feed_80 1 rfl ?_
                  refine x_get C inlX7 rfl 5 (by decide) gw_2_6 dX7_feed_81 0 rfl rfl ?_
                  refine x_iload_n C dX7_feed_84 3 rfl ?_
                  refine x_callV C (As := [.int a]) (st := []) (wc := [(rd, .inr (4, [.ref rta, .int (nI rsz), .int rat, .int rtk, .int rpl, .int rva, .int rfa, .ref rlw])), (rta, .inl (cI, 160, .inl tpf))]) (wr := [(x, .inr (6, [.ref tw, .ref pw, .ref uw, .ref o, .ref hh, .ref rd, .ref bk, .ref pl, .ref asd, .ref fd, .int (nI wr), .int hi9]))]) (c_X5_add l dG cI cM cW cS rd rta rlw rsz rat rtk rpl rva rfa a tpf (by first | assumption | omega | decide)) rZ0_ok (fun _ _ _ _ => trivial) kV_X7_76 ⟨rfl, hy_X5_add⟩ ⟨Nat.le_of_ble_eq_true rfl, Nat.le_of_ble_eq_true rfl⟩ ⟨Nat.le_of_ble_eq_true rfl, Nat.le_of_ble_eq_true rfl⟩ dX7_feed_85 1 rfl rfl [1, 2] [0] rfl rfl rfl rfl (by decide) rfl (Nat.le_of_ble_eq_true rfl) ?_
                  intro v41 w42 h43
                  obtain ⟨rfl, rfl, hf44⟩ := h43
                  show X 0 0 [(x, .inr (6, [.ref tw, .ref pw, .ref uw, .ref o, .ref hh, .ref rd, .ref bk, .ref pl, .ref asd, .ref fd, .int (nI wr), .int hi9])), (rd, .inr (4, [.ref rta, .int (nI (rsz + 1)), .int rat, .int rtk, .int rpl, .int rva, .int rfa, .ref rlw])), (rta, .inl (cI, 160, .inl (upd tpf rsz a)))] [(7, .int 1), (0, .ref x), (1, .int 3), (2, .int a), (3, .int b), (4, .int c), (5, .int d), (6, .int e)] 88 []
                  refine x_iload_n C dX7_feed_88 2 rfl ?_
                  refine x_iconst C dX7_feed_89 (v := 1) rfl ?_
                  refine x_icmp_le C dX7_feed_90 (tgt := 101) rfl (fun q9 => absurd q9 (by decide)) (fun _ => ?_)
                  refine x_aload_n C dX7_feed_93 1 rfl ?_
                  refine x_get C inlX7 rfl 5 (by decide) gw_2_6 dX7_feed_94 0 rfl rfl ?_
                  refine x_iload_n C dX7_feed_97 4 rfl ?_
                  show X _ _ _ _ 98 _
                  refine x_callV C (As := [.int b]) (st := []) (wc := [(rd, .inr (4, [.ref rta, .int (nI (rsz + 1)), .int rat, .int rtk, .int rpl, .int rva, .int rfa, .ref rlw])), (rta, .inl (cI, 160, .inl (upd tpf rsz a)))]) (wr := [(x, .inr (6, [.ref tw, .ref pw, .ref uw, .ref o, .ref hh, .ref rd, .ref bk, .ref pl, .ref asd, .ref fd, .int (nI wr), .int hi9]))]) (c_X5_add l dG cI cM cW cS rd rta rlw (rsz + 1) rat rtk rpl rva rfa b (upd tpf rsz a) (by first | assumption | omega | decide)) rZ0_ok (fun _ _ _ _ => trivial) kV_X7_76 ⟨rfl, hy_X5_add⟩ ⟨Nat.le_of_ble_eq_true rfl, Nat.le_of_ble_eq_true rfl⟩ ⟨Nat.le_of_ble_eq_true rfl, Nat.le_of_ble_eq_true rfl⟩ dX7_feed_98 1 rfl rfl [1, 2] [0] rfl rfl rfl rfl (by decide) rfl (Nat.le_of_ble_eq_true rfl) ?_
                  intro v45 w46 h47
                  obtain ⟨rfl, rfl, hf48⟩ := h47
                  show X 0 0 [(x, .inr (6, [.ref tw, .ref pw, .ref uw, .ref o, .ref hh, .ref rd, .ref bk, .ref pl, .ref asd, .ref fd, .int (nI wr), .int hi9])), (rd, .inr (4, [.ref rta, .int (nI ((rsz + 1) + 1)), .int rat, .int rtk, .int rpl, .int rva, .int rfa, .ref rlw])), (rta, .inl (cI, 160, .inl (upd (upd tpf rsz a) (rsz + 1) b)))] [(7, .int 1), (0, .ref x), (1, .int 3), (2, .int a), (3, .int b), (4, .int c), (5, .int d), (6, .int e)] 101 []
                  refine x_iload_n C dX7_feed_101 2 rfl ?_
                  refine x_iconst C dX7_feed_102 (v := 2) rfl ?_
                  refine x_icmp_le C dX7_feed_103 (tgt := 115) rfl (fun q9 => absurd q9 (by decide)) (fun _ => ?_)
                  refine x_aload_n C dX7_feed_106 1 rfl ?_
                  refine x_get C inlX7 rfl 5 (by decide) gw_2_6 dX7_feed_107 0 rfl rfl ?_
                  refine x_iload C dX7_feed_110 5 rfl ?_
                  refine x_callV C (As := [.int c]) (st := []) (wc := [(rd, .inr (4, [.ref rta, .int (nI ((rsz + 1) + 1)), .int rat, .int rtk, .int rpl, .int rva, .int rfa, .ref rlw])), (rta, .inl (cI, 160, .inl (upd (upd tpf rsz a) (rsz + 1) b)))]) (wr := [(x, .inr (6, [.ref tw, .ref pw, .ref uw, .ref o, .ref hh, .ref rd, .ref bk, .ref pl, .ref asd, .ref fd, .int (nI wr), .int hi9]))]) (c_X5_add l dG cI cM cW cS rd rta rlw ((rsz + 1) + 1) rat rtk rpl rva rfa c (upd (upd tpf rsz a) (rsz + 1) b) (by first | assumption | omega | decide)) rZ0_ok (fun _ _ _ _ => trivial) kV_X7_76 ⟨rfl, hy_X5_add⟩ ⟨Nat.le_of_ble_eq_true rfl, Nat.le_of_ble_eq_true rfl⟩ ⟨Nat.le_of_ble_eq_true rfl, Nat.le_of_ble_eq_true rfl⟩ dX7_feed_112 1 rfl rfl [1, 2] [0] rfl rfl rfl rfl (by decide) rfl (Nat.le_of_ble_eq_true rfl) ?_
                  intro v49 w50 h51
                  obtain ⟨rfl, rfl, hf52⟩ := h51
                  show X 0 0 [(x, .inr (6, [.ref tw, .ref pw, .ref uw, .ref o, .ref hh, .ref rd, .ref bk, .ref pl, .ref asd, .ref fd, .int (nI wr), .int hi9])), (rd, .inr (4, [.ref rta, .int (nI (((rsz + 1) + 1) + 1)), .int rat, .int rtk, .int rpl, .int rva, .int rfa, .ref rlw])), (rta, .inl (cI, 160, .inl (upd (upd (upd tpf rsz a) (rsz + 1) b) ((rsz + 1) + 1) c)))] [(7, .int 1), (0, .ref x), (1, .int 3), (2, .int a), (3, .int b), (4, .int c), (5, .int d), (6, .int e)] 115 []
                  refine x_iload_n C dX7_feed_115 2 rfl ?_
                  refine x_iconst C dX7_feed_116 (v := 3) rfl ?_
                  show X _ _ _ _ 117 _
                  refine x_icmp_le C dX7_feed_117 (tgt := 129) rfl (fun _ => ?_) (fun q9 => by first | exact absurd q9 (by decide) | exact absurd (by decide) q9)
                  refine x_iload_n C dX7_feed_129 2 rfl ?_
                  refine x_iconst C dX7_feed_130 (v := 4) rfl ?_
                  refine x_icmp_le C dX7_feed_131 (tgt := 143) rfl (fun _ => ?_) (fun q9 => by first | exact absurd q9 (by decide) | exact absurd (by decide) q9)
                  refine x_aload_n C dX7_feed_143 1 rfl ?_
                  refine x_get C inlX7 rfl 5 (by decide) gw_2_6 dX7_feed_144 0 rfl rfl ?_
                  refine x_getN C inlX5 rfl 1 (by decide) nw_X7_113 dX7_feed_147 1 rfl rfl ?_
                  refine E dX7_feed_150 (rfl) ?_
                  exact ⟨(nI (((rsz + 1) + 1) + 1)), (((rsz + 1) + 1) + 1), (upd (upd (upd tpf rsz a) (rsz + 1) b) ((rsz + 1) + 1) c), rfl, rfl, by (unfold o_feed o_feed_n o_feed_f o_fd); (try simp only [hn9]); (repeat (first | rw [if_pos (by first | (rw [if_pos (by decide)]; assumption) | (rw [if_neg (by decide), if_pos (by decide)]; assumption) | (rw [if_neg (by decide), if_neg (by decide)]; assumption) | assumption | decide | omega | exact o_one_t (by assumption) | (rw [o_one_f (by assumption)]; decide) | exact ⟨by assumption, by assumption⟩ | exact fun h9 => absurd h9.1 (by assumption) | exact fun h9 => absurd h9.2 (by assumption))] | rw [if_neg (by first | (rw [if_pos (by decide)]; assumption) | (rw [if_neg (by decide), if_pos (by decide)]; assumption) | (rw [if_neg (by decide), if_neg (by decide)]; assumption) | assumption | decide | omega | exact o_one_t (by assumption) | (rw [o_one_f (by assumption)]; decide) | exact ⟨by assumption, by assumption⟩ | exact fun h9 => absurd h9.1 (by assumption) | exact fun h9 => absurd h9.2 (by assumption))])); all_goals (first | rfl)⟩
                ·
                  have c40 : rsz + 3 > 160 := q_le_f (q_iadd (a := rsz) (b := 3) rfl (rfl : (3 : Int32) = nI 3)) (rfl : (160 : Int32) = nI 160) (by omega) (by omega) c40
                  refine x_bipush C dX7_feed_77 (v := (-4)) rfl ?_
                  refine E dX7_feed_79 (rfl) ?_
                  exact ⟨(-4), rsz, tpf, rfl, rfl, by (unfold o_feed o_feed_n o_feed_f o_fd); (try simp only [hn9]); (repeat (first | rw [if_pos (by first | (rw [if_pos (by decide)]; assumption) | (rw [if_neg (by decide), if_pos (by decide)]; assumption) | (rw [if_neg (by decide), if_neg (by decide)]; assumption) | assumption | decide | omega | exact o_one_t (by assumption) | (rw [o_one_f (by assumption)]; decide) | exact ⟨by assumption, by assumption⟩ | exact fun h9 => absurd h9.1 (by assumption) | exact fun h9 => absurd h9.2 (by assumption))] | rw [if_neg (by first | (rw [if_pos (by decide)]; assumption) | (rw [if_neg (by decide), if_pos (by decide)]; assumption) | (rw [if_neg (by decide), if_neg (by decide)]; assumption) | assumption | decide | omega | exact o_one_t (by assumption) | (rw [o_one_f (by assumption)]; decide) | exact ⟨by assumption, by assumption⟩ | exact fun h9 => absurd h9.1 (by assumption) | exact fun h9 => absurd h9.2 (by assumption))])); all_goals (first | rfl)⟩
              ·
                have hn9 : o_n 4 = 4 := rfl
                refine x_if_eq C dX7_feed_51 (tgt := 59) rfl (fun q9 => absurd q9 (by decide)) (fun _ => ?_)
                refine x_iload C dX7_feed_54 0 rfl ?_
                refine x_if_ne C dX7_feed_56 (tgt := 62) rfl (fun _ => ?_) (fun q9 => by first | exact absurd q9 (by decide) | exact absurd (by decide) q9)
                refine x_aload_n C dX7_feed_62 1 rfl ?_
                refine x_get C inlX7 rfl 5 (by decide) gw_2_6 dX7_feed_63 0 rfl rfl ?_
                refine x_getN C inlX5 rfl 1 (by decide) nw_X7_113 dX7_feed_66 1 rfl rfl ?_
                refine x_iload_n C dX7_feed_69 2 rfl ?_
                refine x_iadd C dX7_feed_70 ?_
                refine x_sipush C dX7_feed_71 (v := 160) rfl ?_
                refine x_icmp_le C dX7_feed_74 (tgt := 80) rfl (fun c53 => ?_) (fun c53 => ?_)
                ·
                  have c53 : rsz + 4 ≤ 160 := q_le_t (q_iadd (a := rsz) (b := 4) rfl (rfl : (4 : Int32) = nI 4)) (rfl : (160 : Int32) = nI 160) (by omega) (by omega) c53
                  refine x_aload_n C dX7_feed_80 1 rfl ?_
                  refine x_get C inlX7 rfl 5 (by decide) gw_2_6 dX7_feed_81 0 rfl rfl ?_
                  refine x_iload_n C dX7_feed_84 3 rfl ?_
                  refine x_callV C (As := [.int a]) (st := []) (wc := [(rd, .inr (4, [.ref rta, .int (nI rsz), .int rat, .int rtk, .int rpl, .int rva, .int rfa, .ref rlw])), (rta, .inl (cI, 160, .inl tpf))]) (wr := [(x, .inr (6, [.ref tw, .ref pw, .ref uw, .ref o, .ref hh, .ref rd, .ref bk, .ref pl, .ref asd, .ref fd, .int (nI wr), .int hi9]))]) (c_X5_add l dG cI cM cW cS rd rta rlw rsz rat rtk rpl rva rfa a tpf (by first | assumption | omega | decide)) rZ0_ok (fun _ _ _ _ => trivial) kV_X7_76 ⟨rfl, hy_X5_add⟩ ⟨Nat.le_of_ble_eq_true rfl, Nat.le_of_ble_eq_true rfl⟩ ⟨Nat.le_of_ble_eq_true rfl, Nat.le_of_ble_eq_true rfl⟩ dX7_feed_85 1 rfl rfl [1, 2] [0] rfl rfl rfl rfl (by decide) rfl (Nat.le_of_ble_eq_true rfl) ?_
                  intro v54 w55 h56
                  obtain ⟨rfl, rfl, hf57⟩ := h56
                  show X 0 0 [(x, .inr (6, [.ref tw, .ref pw, .ref uw, .ref o, .ref hh, .ref rd, .ref bk, .ref pl, .ref asd, .ref fd, .int (nI wr), .int hi9])), (rd, .inr (4, [.ref rta, .int (nI (rsz + 1)), .int rat, .int rtk, .int rpl, .int rva, .int rfa, .ref rlw])), (rta, .inl (cI, 160, .inl (upd tpf rsz a)))] [(7, .int 1), (0, .ref x), (1, .int 4), (2, .int a), (3, .int b), (4, .int c), (5, .int d), (6, .int e)] 88 []
                  refine x_iload_n C dX7_feed_88 2 rfl ?_
                  refine x_iconst C dX7_feed_89 (v := 1) rfl ?_
                  refine x_icmp_le C dX7_feed_90 (tgt := 101) rfl (fun q9 => absurd q9 (by decide)) (fun _ => ?_)
                  refine x_aload_n C dX7_feed_93 1 rfl ?_
                  refine x_get C inlX7 rfl 5 (by decide) gw_2_6 dX7_feed_94 0 rfl rfl ?_
                  refine x_iload_n C dX7_feed_97 4 rfl ?_
                  show X _ _ _ _ 98 _
                  refine x_callV C (As := [.int b]) (st := []) (wc := [(rd, .inr (4, [.ref rta, .int (nI (rsz + 1)), .int rat, .int rtk, .int rpl, .int rva, .int rfa, .ref rlw])), (rta, .inl (cI, 160, .inl (upd tpf rsz a)))]) (wr := [(x, .inr (6, [.ref tw, .ref pw, .ref uw, .ref o, .ref hh, .ref rd, .ref bk, .ref pl, .ref asd, .ref fd, .int (nI wr), .int hi9]))]) (c_X5_add l dG cI cM cW cS rd rta rlw (rsz + 1) rat rtk rpl rva rfa b (upd tpf rsz a) (by first | assumption | omega | decide)) rZ0_ok (fun _ _ _ _ => trivial) kV_X7_76 ⟨rfl, hy_X5_add⟩ ⟨Nat.le_of_ble_eq_true rfl, Nat.le_of_ble_eq_true rfl⟩ ⟨Nat.le_of_ble_eq_true rfl, Nat.le_of_ble_eq_true rfl⟩ dX7_feed_98 1 rfl rfl [1, 2] [0] rfl rfl rfl rfl (by decide) rfl (Nat.le_of_ble_eq_true rfl) ?_
                  intro v58 w59 h60
                  obtain ⟨rfl, rfl, hf61⟩ := h60
                  show X 0 0 [(x, .inr (6, [.ref tw, .ref pw, .ref uw, .ref o, .ref hh, .ref rd, .ref bk, .ref pl, .ref asd, .ref fd, .int (nI wr), .int hi9])), (rd, .inr (4, [.ref rta, .int (nI ((rsz + 1) + 1)), .int rat, .int rtk, .int rpl, .int rva, .int rfa, .ref rlw])), (rta, .inl (cI, 160, .inl (upd (upd tpf rsz a) (rsz + 1) b)))] [(7, .int 1), (0, .ref x), (1, .int 4), (2, .int a), (3, .int b), (4, .int c), (5, .int d), (6, .int e)] 101 []
                  refine x_iload_n C dX7_feed_101 2 rfl ?_
                  refine x_iconst C dX7_feed_102 (v := 2) rfl ?_
                  refine x_icmp_le C dX7_feed_103 (tgt := 115) rfl (fun q9 => absurd q9 (by decide)) (fun _ => ?_)
                  refine x_aload_n C dX7_feed_106 1 rfl ?_
                  refine x_get C inlX7 rfl 5 (by decide) gw_2_6 dX7_feed_107 0 rfl rfl ?_
                  refine x_iload C dX7_feed_110 5 rfl ?_
                  refine x_callV C (As := [.int c]) (st := []) (wc := [(rd, .inr (4, [.ref rta, .int (nI ((rsz + 1) + 1)), .int rat, .int rtk, .int rpl, .int rva, .int rfa, .ref rlw])), (rta, .inl (cI, 160, .inl (upd (upd tpf rsz a) (rsz + 1) b)))]) (wr := [(x, .inr (6, [.ref tw, .ref pw, .ref uw, .ref o, .ref hh, .ref rd, .ref bk, .ref pl, .ref asd, .ref fd, .int (nI wr), .int hi9]))]) (c_X5_add l dG cI cM cW cS rd rta rlw ((rsz + 1) + 1) rat rtk rpl rva rfa c (upd (upd tpf rsz a) (rsz + 1) b) (by first | assumption | omega | decide)) rZ0_ok (fun _ _ _ _ => trivial) kV_X7_76 ⟨rfl, hy_X5_add⟩ ⟨Nat.le_of_ble_eq_true rfl, Nat.le_of_ble_eq_true rfl⟩ ⟨Nat.le_of_ble_eq_true rfl, Nat.le_of_ble_eq_true rfl⟩ dX7_feed_112 1 rfl rfl [1, 2] [0] rfl rfl rfl rfl (by decide) rfl (Nat.le_of_ble_eq_true rfl) ?_
                  intro v62 w63 h64
                  obtain ⟨rfl, rfl, hf65⟩ := h64
                  show X 0 0 [(x, .inr (6, [.ref tw, .ref pw, .ref uw, .ref o, .ref hh, .ref rd, .ref bk, .ref pl, .ref asd, .ref fd, .int (nI wr), .int hi9])), (rd, .inr (4, [.ref rta, .int (nI (((rsz + 1) + 1) + 1)), .int rat, .int rtk, .int rpl, .int rva, .int rfa, .ref rlw])), (rta, .inl (cI, 160, .inl (upd (upd (upd tpf rsz a) (rsz + 1) b) ((rsz + 1) + 1) c)))] [(7, .int 1), (0, .ref x), (1, .int 4), (2, .int a), (3, .int b), (4, .int c), (5, .int d), (6, .int e)] 115 []
                  refine x_iload_n C dX7_feed_115 2 rfl ?_
                  refine x_iconst C dX7_feed_116 (v := 3) rfl ?_
                  show X _ _ _ _ 117 _
                  refine x_icmp_le C dX7_feed_117 (tgt := 129) rfl (fun q9 => absurd q9 (by decide)) (fun _ => ?_)
                  refine x_aload_n C dX7_feed_120 1 rfl ?_
                  refine x_get C inlX7 rfl 5 (by decide) gw_2_6 dX7_feed_121 0 rfl rfl ?_
                  refine x_iload C dX7_feed_124 6 rfl ?_
                  refine x_callV C (As := [.int d]) (st := []) (wc := [(rd, .inr (4, [.ref rta, .int (nI (((rsz + 1) + 1) + 1)), .int rat, .int rtk, .int rpl, .int rva, .int rfa, .ref rlw])), (rta, .inl (cI, 160, .inl (upd (upd (upd tpf rsz a) (rsz + 1) b) ((rsz + 1) + 1) c)))]) (wr := [(x, .inr (6, [.ref tw, .ref pw, .ref uw, .ref o, .ref hh, .ref rd, .ref bk, .ref pl, .ref asd, .ref fd, .int (nI wr), .int hi9]))]) (c_X5_add l dG cI cM cW cS rd rta rlw (((rsz + 1) + 1) + 1) rat rtk rpl rva rfa d (upd (upd (upd tpf rsz a) (rsz + 1) b) ((rsz + 1) + 1) c) (by first | assumption | omega | decide)) rZ0_ok (fun _ _ _ _ => trivial) kV_X7_76 ⟨rfl, hy_X5_add⟩ ⟨Nat.le_of_ble_eq_true rfl, Nat.le_of_ble_eq_true rfl⟩ ⟨Nat.le_of_ble_eq_true rfl, Nat.le_of_ble_eq_true rfl⟩ dX7_feed_126 1 rfl rfl [1, 2] [0] rfl rfl rfl rfl (by decide) rfl (Nat.le_of_ble_eq_true rfl) ?_
                  intro v66 w67 h68
                  obtain ⟨rfl, rfl, hf69⟩ := h68
                  show X 0 0 [(x, .inr (6, [.ref tw, .ref pw, .ref uw, .ref o, .ref hh, .ref rd, .ref bk, .ref pl, .ref asd, .ref fd, .int (nI wr), .int hi9])), (rd, .inr (4, [.ref rta, .int (nI ((((rsz + 1) + 1) + 1) + 1)), .int rat, .int rtk, .int rpl, .int rva, .int rfa, .ref rlw])), (rta, .inl (cI, 160, .inl (upd (upd (upd (upd tpf rsz a) (rsz + 1) b) ((rsz + 1) + 1) c) (((rsz + 1) + 1) + 1) d)))] [(7, .int 1), (0, .ref x), (1, .int 4), (2, .int a), (3, .int b), (4, .int c), (5, .int d), (6, .int e)] 129 []
                  refine x_iload_n C dX7_feed_129 2 rfl ?_
                  refine x_iconst C dX7_feed_130 (v := 4) rfl ?_
                  refine x_icmp_le C dX7_feed_131 (tgt := 143) rfl (fun _ => ?_) (fun q9 => by first | exact absurd q9 (by decide) | exact absurd (by decide) q9)
                  refine x_aload_n C dX7_feed_143 1 rfl ?_
                  refine x_get C inlX7 rfl 5 (by decide) gw_2_6 dX7_feed_144 0 rfl rfl ?_
                  show X _ _ _ _ 147 _
                  refine x_getN C inlX5 rfl 1 (by decide) nw_X7_113 dX7_feed_147 1 rfl rfl ?_
                  refine E dX7_feed_150 (rfl) ?_
                  exact ⟨(nI ((((rsz + 1) + 1) + 1) + 1)), ((((rsz + 1) + 1) + 1) + 1), (upd (upd (upd (upd tpf rsz a) (rsz + 1) b) ((rsz + 1) + 1) c) (((rsz + 1) + 1) + 1) d), rfl, rfl, by (unfold o_feed o_feed_n o_feed_f o_fd); (try simp only [hn9]); (repeat (first | rw [if_pos (by first | (rw [if_pos (by decide)]; assumption) | (rw [if_neg (by decide), if_pos (by decide)]; assumption) | (rw [if_neg (by decide), if_neg (by decide)]; assumption) | assumption | decide | omega | exact o_one_t (by assumption) | (rw [o_one_f (by assumption)]; decide) | exact ⟨by assumption, by assumption⟩ | exact fun h9 => absurd h9.1 (by assumption) | exact fun h9 => absurd h9.2 (by assumption))] | rw [if_neg (by first | (rw [if_pos (by decide)]; assumption) | (rw [if_neg (by decide), if_pos (by decide)]; assumption) | (rw [if_neg (by decide), if_neg (by decide)]; assumption) | assumption | decide | omega | exact o_one_t (by assumption) | (rw [o_one_f (by assumption)]; decide) | exact ⟨by assumption, by assumption⟩ | exact fun h9 => absurd h9.1 (by assumption) | exact fun h9 => absurd h9.2 (by assumption))])); all_goals (first | rfl)⟩
                ·
                  have c53 : rsz + 4 > 160 := q_le_f (q_iadd (a := rsz) (b := 4) rfl (rfl : (4 : Int32) = nI 4)) (rfl : (160 : Int32) = nI 160) (by omega) (by omega) c53
                  refine x_bipush C dX7_feed_77 (v := (-4)) rfl ?_
                  refine E dX7_feed_79 (rfl) ?_
                  exact ⟨(-4), rsz, tpf, rfl, rfl, by (unfold o_feed o_feed_n o_feed_f o_fd); (try simp only [hn9]); (repeat (first | rw [if_pos (by first | (rw [if_pos (by decide)]; assumption) | (rw [if_neg (by decide), if_pos (by decide)]; assumption) | (rw [if_neg (by decide), if_neg (by decide)]; assumption) | assumption | decide | omega | exact o_one_t (by assumption) | (rw [o_one_f (by assumption)]; decide) | exact ⟨by assumption, by assumption⟩ | exact fun h9 => absurd h9.1 (by assumption) | exact fun h9 => absurd h9.2 (by assumption))] | rw [if_neg (by first | (rw [if_pos (by decide)]; assumption) | (rw [if_neg (by decide), if_pos (by decide)]; assumption) | (rw [if_neg (by decide), if_neg (by decide)]; assumption) | assumption | decide | omega | exact o_one_t (by assumption) | (rw [o_one_f (by assumption)]; decide) | exact ⟨by assumption, by assumption⟩ | exact fun h9 => absurd h9.1 (by assumption) | exact fun h9 => absurd h9.2 (by assumption))])); all_goals (first | rfl)⟩
              ·
                have hn9 : o_n 5 = 5 := rfl
                refine x_if_eq C dX7_feed_51 (tgt := 59) rfl (fun q9 => absurd q9 (by decide)) (fun _ => ?_)
                refine x_iload C dX7_feed_54 0 rfl ?_
                refine x_if_ne C dX7_feed_56 (tgt := 62) rfl (fun _ => ?_) (fun q9 => by first | exact absurd q9 (by decide) | exact absurd (by decide) q9)
                refine x_aload_n C dX7_feed_62 1 rfl ?_
                refine x_get C inlX7 rfl 5 (by decide) gw_2_6 dX7_feed_63 0 rfl rfl ?_
                refine x_getN C inlX5 rfl 1 (by decide) nw_X7_113 dX7_feed_66 1 rfl rfl ?_
                refine x_iload_n C dX7_feed_69 2 rfl ?_
                refine x_iadd C dX7_feed_70 ?_
                refine x_sipush C dX7_feed_71 (v := 160) rfl ?_
                refine x_icmp_le C dX7_feed_74 (tgt := 80) rfl (fun c70 => ?_) (fun c70 => ?_)
                ·
                  have c70 : rsz + 5 ≤ 160 := q_le_t (q_iadd (a := rsz) (b := 5) rfl (rfl : (5 : Int32) = nI 5)) (rfl : (160 : Int32) = nI 160) (by omega) (by omega) c70
                  refine x_aload_n C dX7_feed_80 1 rfl ?_
                  refine x_get C inlX7 rfl 5 (by decide) gw_2_6 dX7_feed_81 0 rfl rfl ?_
                  refine x_iload_n C dX7_feed_84 3 rfl ?_
                  refine x_callV C (As := [.int a]) (st := []) (wc := [(rd, .inr (4, [.ref rta, .int (nI rsz), .int rat, .int rtk, .int rpl, .int rva, .int rfa, .ref rlw])), (rta, .inl (cI, 160, .inl tpf))]) (wr := [(x, .inr (6, [.ref tw, .ref pw, .ref uw, .ref o, .ref hh, .ref rd, .ref bk, .ref pl, .ref asd, .ref fd, .int (nI wr), .int hi9]))]) (c_X5_add l dG cI cM cW cS rd rta rlw rsz rat rtk rpl rva rfa a tpf (by first | assumption | omega | decide)) rZ0_ok (fun _ _ _ _ => trivial) kV_X7_76 ⟨rfl, hy_X5_add⟩ ⟨Nat.le_of_ble_eq_true rfl, Nat.le_of_ble_eq_true rfl⟩ ⟨Nat.le_of_ble_eq_true rfl, Nat.le_of_ble_eq_true rfl⟩ dX7_feed_85 1 rfl rfl [1, 2] [0] rfl rfl rfl rfl (by decide) rfl (Nat.le_of_ble_eq_true rfl) ?_
                  intro v71 w72 h73
                  obtain ⟨rfl, rfl, hf74⟩ := h73
                  show X 0 0 [(x, .inr (6, [.ref tw, .ref pw, .ref uw, .ref o, .ref hh, .ref rd, .ref bk, .ref pl, .ref asd, .ref fd, .int (nI wr), .int hi9])), (rd, .inr (4, [.ref rta, .int (nI (rsz + 1)), .int rat, .int rtk, .int rpl, .int rva, .int rfa, .ref rlw])), (rta, .inl (cI, 160, .inl (upd tpf rsz a)))] [(7, .int 1), (0, .ref x), (1, .int 5), (2, .int a), (3, .int b), (4, .int c), (5, .int d), (6, .int e)] 88 []
                  refine x_iload_n C dX7_feed_88 2 rfl ?_
                  refine x_iconst C dX7_feed_89 (v := 1) rfl ?_
                  refine x_icmp_le C dX7_feed_90 (tgt := 101) rfl (fun q9 => absurd q9 (by decide)) (fun _ => ?_)
                  refine x_aload_n C dX7_feed_93 1 rfl ?_
                  refine x_get C inlX7 rfl 5 (by decide) gw_2_6 dX7_feed_94 0 rfl rfl ?_
                  refine x_iload_n C dX7_feed_97 4 rfl ?_
                  show X _ _ _ _ 98 _
                  refine x_callV C (As := [.int b]) (st := []) (wc := [(rd, .inr (4, [.ref rta, .int (nI (rsz + 1)), .int rat, .int rtk, .int rpl, .int rva, .int rfa, .ref rlw])), (rta, .inl (cI, 160, .inl (upd tpf rsz a)))]) (wr := [(x, .inr (6, [.ref tw, .ref pw, .ref uw, .ref o, .ref hh, .ref rd, .ref bk, .ref pl, .ref asd, .ref fd, .int (nI wr), .int hi9]))]) (c_X5_add l dG cI cM cW cS rd rta rlw (rsz + 1) rat rtk rpl rva rfa b (upd tpf rsz a) (by first | assumption | omega | decide)) rZ0_ok (fun _ _ _ _ => trivial) kV_X7_76 ⟨rfl, hy_X5_add⟩ ⟨Nat.le_of_ble_eq_true rfl, Nat.le_of_ble_eq_true rfl⟩ ⟨Nat.le_of_ble_eq_true rfl, Nat.le_of_ble_eq_true rfl⟩ dX7_feed_98 1 rfl rfl [1, 2] [0] rfl rfl rfl rfl (by decide) rfl (Nat.le_of_ble_eq_true rfl) ?_
                  intro v75 w76 h77
                  obtain ⟨rfl, rfl, hf78⟩ := h77
                  show X 0 0 [(x, .inr (6, [.ref tw, .ref pw, .ref uw, .ref o, .ref hh, .ref rd, .ref bk, .ref pl, .ref asd, .ref fd, .int (nI wr), .int hi9])), (rd, .inr (4, [.ref rta, .int (nI ((rsz + 1) + 1)), .int rat, .int rtk, .int rpl, .int rva, .int rfa, .ref rlw])), (rta, .inl (cI, 160, .inl (upd (upd tpf rsz a) (rsz + 1) b)))] [(7, .int 1), (0, .ref x), (1, .int 5), (2, .int a), (3, .int b), (4, .int c), (5, .int d), (6, .int e)] 101 []
                  refine x_iload_n C dX7_feed_101 2 rfl ?_
                  refine x_iconst C dX7_feed_102 (v := 2) rfl ?_
                  refine x_icmp_le C dX7_feed_103 (tgt := 115) rfl (fun q9 => absurd q9 (by decide)) (fun _ => ?_)
                  refine x_aload_n C dX7_feed_106 1 rfl ?_
                  refine x_get C inlX7 rfl 5 (by decide) gw_2_6 dX7_feed_107 0 rfl rfl ?_
                  refine x_iload C dX7_feed_110 5 rfl ?_
                  refine x_callV C (As := [.int c]) (st := []) (wc := [(rd, .inr (4, [.ref rta, .int (nI ((rsz + 1) + 1)), .int rat, .int rtk, .int rpl, .int rva, .int rfa, .ref rlw])), (rta, .inl (cI, 160, .inl (upd (upd tpf rsz a) (rsz + 1) b)))]) (wr := [(x, .inr (6, [.ref tw, .ref pw, .ref uw, .ref o, .ref hh, .ref rd, .ref bk, .ref pl, .ref asd, .ref fd, .int (nI wr), .int hi9]))]) (c_X5_add l dG cI cM cW cS rd rta rlw ((rsz + 1) + 1) rat rtk rpl rva rfa c (upd (upd tpf rsz a) (rsz + 1) b) (by first | assumption | omega | decide)) rZ0_ok (fun _ _ _ _ => trivial) kV_X7_76 ⟨rfl, hy_X5_add⟩ ⟨Nat.le_of_ble_eq_true rfl, Nat.le_of_ble_eq_true rfl⟩ ⟨Nat.le_of_ble_eq_true rfl, Nat.le_of_ble_eq_true rfl⟩ dX7_feed_112 1 rfl rfl [1, 2] [0] rfl rfl rfl rfl (by decide) rfl (Nat.le_of_ble_eq_true rfl) ?_
                  intro v79 w80 h81
                  obtain ⟨rfl, rfl, hf82⟩ := h81
                  show X 0 0 [(x, .inr (6, [.ref tw, .ref pw, .ref uw, .ref o, .ref hh, .ref rd, .ref bk, .ref pl, .ref asd, .ref fd, .int (nI wr), .int hi9])), (rd, .inr (4, [.ref rta, .int (nI (((rsz + 1) + 1) + 1)), .int rat, .int rtk, .int rpl, .int rva, .int rfa, .ref rlw])), (rta, .inl (cI, 160, .inl (upd (upd (upd tpf rsz a) (rsz + 1) b) ((rsz + 1) + 1) c)))] [(7, .int 1), (0, .ref x), (1, .int 5), (2, .int a), (3, .int b), (4, .int c), (5, .int d), (6, .int e)] 115 []
                  refine x_iload_n C dX7_feed_115 2 rfl ?_
                  refine x_iconst C dX7_feed_116 (v := 3) rfl ?_
                  show X _ _ _ _ 117 _
                  refine x_icmp_le C dX7_feed_117 (tgt := 129) rfl (fun q9 => absurd q9 (by decide)) (fun _ => ?_)
                  refine x_aload_n C dX7_feed_120 1 rfl ?_
                  refine x_get C inlX7 rfl 5 (by decide) gw_2_6 dX7_feed_121 0 rfl rfl ?_
                  refine x_iload C dX7_feed_124 6 rfl ?_
                  refine x_callV C (As := [.int d]) (st := []) (wc := [(rd, .inr (4, [.ref rta, .int (nI (((rsz + 1) + 1) + 1)), .int rat, .int rtk, .int rpl, .int rva, .int rfa, .ref rlw])), (rta, .inl (cI, 160, .inl (upd (upd (upd tpf rsz a) (rsz + 1) b) ((rsz + 1) + 1) c)))]) (wr := [(x, .inr (6, [.ref tw, .ref pw, .ref uw, .ref o, .ref hh, .ref rd, .ref bk, .ref pl, .ref asd, .ref fd, .int (nI wr), .int hi9]))]) (c_X5_add l dG cI cM cW cS rd rta rlw (((rsz + 1) + 1) + 1) rat rtk rpl rva rfa d (upd (upd (upd tpf rsz a) (rsz + 1) b) ((rsz + 1) + 1) c) (by first | assumption | omega | decide)) rZ0_ok (fun _ _ _ _ => trivial) kV_X7_76 ⟨rfl, hy_X5_add⟩ ⟨Nat.le_of_ble_eq_true rfl, Nat.le_of_ble_eq_true rfl⟩ ⟨Nat.le_of_ble_eq_true rfl, Nat.le_of_ble_eq_true rfl⟩ dX7_feed_126 1 rfl rfl [1, 2] [0] rfl rfl rfl rfl (by decide) rfl (Nat.le_of_ble_eq_true rfl) ?_
                  intro v83 w84 h85
                  obtain ⟨rfl, rfl, hf86⟩ := h85
                  show X 0 0 [(x, .inr (6, [.ref tw, .ref pw, .ref uw, .ref o, .ref hh, .ref rd, .ref bk, .ref pl, .ref asd, .ref fd, .int (nI wr), .int hi9])), (rd, .inr (4, [.ref rta, .int (nI ((((rsz + 1) + 1) + 1) + 1)), .int rat, .int rtk, .int rpl, .int rva, .int rfa, .ref rlw])), (rta, .inl (cI, 160, .inl (upd (upd (upd (upd tpf rsz a) (rsz + 1) b) ((rsz + 1) + 1) c) (((rsz + 1) + 1) + 1) d)))] [(7, .int 1), (0, .ref x), (1, .int 5), (2, .int a), (3, .int b), (4, .int c), (5, .int d), (6, .int e)] 129 []
                  refine x_iload_n C dX7_feed_129 2 rfl ?_
                  refine x_iconst C dX7_feed_130 (v := 4) rfl ?_
                  refine x_icmp_le C dX7_feed_131 (tgt := 143) rfl (fun q9 => absurd q9 (by decide)) (fun _ => ?_)
                  refine x_aload_n C dX7_feed_134 1 rfl ?_
                  refine x_get C inlX7 rfl 5 (by decide) gw_2_6 dX7_feed_135 0 rfl rfl ?_
                  show X _ _ _ _ 138 _
                  refine x_iload C dX7_feed_138 7 rfl ?_
                  refine x_callV C (As := [.int e]) (st := []) (wc := [(rd, .inr (4, [.ref rta, .int (nI ((((rsz + 1) + 1) + 1) + 1)), .int rat, .int rtk, .int rpl, .int rva, .int rfa, .ref rlw])), (rta, .inl (cI, 160, .inl (upd (upd (upd (upd tpf rsz a) (rsz + 1) b) ((rsz + 1) + 1) c) (((rsz + 1) + 1) + 1) d)))]) (wr := [(x, .inr (6, [.ref tw, .ref pw, .ref uw, .ref o, .ref hh, .ref rd, .ref bk, .ref pl, .ref asd, .ref fd, .int (nI wr), .int hi9]))]) (c_X5_add l dG cI cM cW cS rd rta rlw ((((rsz + 1) + 1) + 1) + 1) rat rtk rpl rva rfa e (upd (upd (upd (upd tpf rsz a) (rsz + 1) b) ((rsz + 1) + 1) c) (((rsz + 1) + 1) + 1) d) (by first | assumption | omega | decide)) rZ0_ok (fun _ _ _ _ => trivial) kV_X7_76 ⟨rfl, hy_X5_add⟩ ⟨Nat.le_of_ble_eq_true rfl, Nat.le_of_ble_eq_true rfl⟩ ⟨Nat.le_of_ble_eq_true rfl, Nat.le_of_ble_eq_true rfl⟩ dX7_feed_140 1 rfl rfl [1, 2] [0] rfl rfl rfl rfl (by decide) rfl (Nat.le_of_ble_eq_true rfl) ?_
                  intro v87 w88 h89
                  obtain ⟨rfl, rfl, hf90⟩ := h89
                  show X 0 0 [(x, .inr (6, [.ref tw, .ref pw, .ref uw, .ref o, .ref hh, .ref rd, .ref bk, .ref pl, .ref asd, .ref fd, .int (nI wr), .int hi9])), (rd, .inr (4, [.ref rta, .int (nI (((((rsz + 1) + 1) + 1) + 1) + 1)), .int rat, .int rtk, .int rpl, .int rva, .int rfa, .ref rlw])), (rta, .inl (cI, 160, .inl (upd (upd (upd (upd (upd tpf rsz a) (rsz + 1) b) ((rsz + 1) + 1) c) (((rsz + 1) + 1) + 1) d) ((((rsz + 1) + 1) + 1) + 1) e)))] [(7, .int 1), (0, .ref x), (1, .int 5), (2, .int a), (3, .int b), (4, .int c), (5, .int d), (6, .int e)] 143 []
                  refine x_aload_n C dX7_feed_143 1 rfl ?_
                  refine x_get C inlX7 rfl 5 (by decide) gw_2_6 dX7_feed_144 0 rfl rfl ?_
                  refine x_getN C inlX5 rfl 1 (by decide) nw_X7_113 dX7_feed_147 1 rfl rfl ?_
                  refine E dX7_feed_150 (rfl) ?_
                  exact ⟨(nI (((((rsz + 1) + 1) + 1) + 1) + 1)), (((((rsz + 1) + 1) + 1) + 1) + 1), (upd (upd (upd (upd (upd tpf rsz a) (rsz + 1) b) ((rsz + 1) + 1) c) (((rsz + 1) + 1) + 1) d) ((((rsz + 1) + 1) + 1) + 1) e), rfl, rfl, by (unfold o_feed o_feed_n o_feed_f o_fd); (try simp only [hn9]); (repeat (first | rw [if_pos (by first | (rw [if_pos (by decide)]; assumption) | (rw [if_neg (by decide), if_pos (by decide)]; assumption) | (rw [if_neg (by decide), if_neg (by decide)]; assumption) | assumption | decide | omega | exact o_one_t (by assumption) | (rw [o_one_f (by assumption)]; decide) | exact ⟨by assumption, by assumption⟩ | exact fun h9 => absurd h9.1 (by assumption) | exact fun h9 => absurd h9.2 (by assumption))] | rw [if_neg (by first | (rw [if_pos (by decide)]; assumption) | (rw [if_neg (by decide), if_pos (by decide)]; assumption) | (rw [if_neg (by decide), if_neg (by decide)]; assumption) | assumption | decide | omega | exact o_one_t (by assumption) | (rw [o_one_f (by assumption)]; decide) | exact ⟨by assumption, by assumption⟩ | exact fun h9 => absurd h9.1 (by assumption) | exact fun h9 => absurd h9.2 (by assumption))])); all_goals (first | rfl)⟩
                ·
                  have c70 : rsz + 5 > 160 := q_le_f (q_iadd (a := rsz) (b := 5) rfl (rfl : (5 : Int32) = nI 5)) (rfl : (160 : Int32) = nI 160) (by omega) (by omega) c70
                  refine x_bipush C dX7_feed_77 (v := (-4)) rfl ?_
                  refine E dX7_feed_79 (rfl) ?_
                  exact ⟨(-4), rsz, tpf, rfl, rfl, by (unfold o_feed o_feed_n o_feed_f o_fd); (try simp only [hn9]); (repeat (first | rw [if_pos (by first | (rw [if_pos (by decide)]; assumption) | (rw [if_neg (by decide), if_pos (by decide)]; assumption) | (rw [if_neg (by decide), if_neg (by decide)]; assumption) | assumption | decide | omega | exact o_one_t (by assumption) | (rw [o_one_f (by assumption)]; decide) | exact ⟨by assumption, by assumption⟩ | exact fun h9 => absurd h9.1 (by assumption) | exact fun h9 => absurd h9.2 (by assumption))] | rw [if_neg (by first | (rw [if_pos (by decide)]; assumption) | (rw [if_neg (by decide), if_pos (by decide)]; assumption) | (rw [if_neg (by decide), if_neg (by decide)]; assumption) | assumption | decide | omega | exact o_one_t (by assumption) | (rw [o_one_f (by assumption)]; decide) | exact ⟨by assumption, by assumption⟩ | exact fun h9 => absurd h9.1 (by assumption) | exact fun h9 => absurd h9.2 (by assumption))])); all_goals (first | rfl)⟩
            ·
              obtain ⟨rfl, rfl, hf91⟩ := h23
              show X 0 0 [(x, .inr (6, [.ref tw, .ref pw, .ref uw, .ref o, .ref hh, .ref rd, .ref bk, .ref pl, .ref asd, .ref fd, .int (nI wr), .int hi9])), (rd, .inr (4, [.ref rta, .int (nI rsz), .int rat, .int rtk, .int rpl, .int rva, .int rfa, .ref rlw])), (rta, .inl (cI, 160, .inl tpf))] [(7, .int 1), (0, .ref x), (1, .int n), (2, .int a), (3, .int b), (4, .int c), (5, .int d), (6, .int e)] 51 [.int 0]
              refine x_if_eq C dX7_feed_51 (tgt := 59) rfl (fun _ => ?_) (fun q9 => by first | exact absurd q9 (by decide) | exact absurd (by decide) q9)
              refine x_bipush C dX7_feed_59 (v := (-2)) rfl ?_
              refine E dX7_feed_61 (rfl) ?_
              exact ⟨(-2), rsz, tpf, rfl, rfl, by (unfold o_feed o_feed_n o_feed_f o_fd); (repeat (first | rw [if_pos (by first | (rw [if_pos (by decide)]; assumption) | (rw [if_neg (by decide), if_pos (by decide)]; assumption) | (rw [if_neg (by decide), if_neg (by decide)]; assumption) | assumption | decide | omega | exact o_one_t (by assumption) | (rw [o_one_f (by assumption)]; decide) | exact ⟨by assumption, by assumption⟩ | exact fun h9 => absurd h9.1 (by assumption) | exact fun h9 => absurd h9.2 (by assumption))] | rw [if_neg (by first | (rw [if_pos (by decide)]; assumption) | (rw [if_neg (by decide), if_pos (by decide)]; assumption) | (rw [if_neg (by decide), if_neg (by decide)]; assumption) | assumption | decide | omega | exact o_one_t (by assumption) | (rw [o_one_f (by assumption)]; decide) | exact ⟨by assumption, by assumption⟩ | exact fun h9 => absurd h9.1 (by assumption) | exact fun h9 => absurd h9.2 (by assumption))])); all_goals (first | rfl)⟩
          ·
            obtain ⟨rfl, rfl, hf92⟩ := h19
            show X 0 0 [(x, .inr (6, [.ref tw, .ref pw, .ref uw, .ref o, .ref hh, .ref rd, .ref bk, .ref pl, .ref asd, .ref fd, .int (nI wr), .int hi9])), (rd, .inr (4, [.ref rta, .int (nI rsz), .int rat, .int rtk, .int rpl, .int rva, .int rfa, .ref rlw])), (rta, .inl (cI, 160, .inl tpf))] [(0, .ref x), (1, .int n), (2, .int a), (3, .int b), (4, .int c), (5, .int d), (6, .int e)] 35 [.int 0]
            refine x_if_eq C dX7_feed_35 (tgt := 42) rfl (fun _ => ?_) (fun q9 => by first | exact absurd q9 (by decide) | exact absurd (by decide) q9)
            refine x_iconst C dX7_feed_42 (v := 0) rfl ?_
            refine x_istore C dX7_feed_43 (by decide) (lv' := [(7, .int 0), (0, .ref x), (1, .int n), (2, .int a), (3, .int b), (4, .int c), (5, .int d), (6, .int e)]) rfl ?_
            refine x_iload_n C dX7_feed_45 2 rfl ?_
            refine x_iconst C dX7_feed_46 (v := 1) rfl ?_
            refine x_iconst C dX7_feed_47 (v := 5) rfl ?_
            refine x_callS C (As := [.int n, .int 1, .int 5]) (st := []) (wc := []) (wr := [(x, .inr (6, [.ref tw, .ref pw, .ref uw, .ref o, .ref hh, .ref rd, .ref bk, .ref pl, .ref asd, .ref fd, .int (nI wr), .int hi9])), (rd, .inr (4, [.ref rta, .int (nI rsz), .int rat, .int rtk, .int rpl, .int rva, .int rfa, .ref rlw])), (rta, .inl (cI, 160, .inl tpf))]) (c_X7_within l dG cI cM cW cS n 1 5 ) rZ0_ok (fun _ _ _ _ => trivial) kS_X7_92 hy_X7_within ⟨Nat.le_of_ble_eq_true rfl, Nat.le_of_ble_eq_true rfl⟩ ⟨Nat.le_of_ble_eq_true rfl, Nat.le_of_ble_eq_true rfl⟩ dX7_feed_48 [] [0, 1, 2] rfl rfl rfl rfl (by decide) rfl (Nat.le_of_ble_eq_true rfl) ?_
            intro v93 w94 h95
            rcases h95 with h95 | h95
            ·
              obtain ⟨rfl, rfl, hf96⟩ := h95
              show X 0 0 [(x, .inr (6, [.ref tw, .ref pw, .ref uw, .ref o, .ref hh, .ref rd, .ref bk, .ref pl, .ref asd, .ref fd, .int (nI wr), .int hi9])), (rd, .inr (4, [.ref rta, .int (nI rsz), .int rat, .int rtk, .int rpl, .int rva, .int rfa, .ref rlw])), (rta, .inl (cI, 160, .inl tpf))] [(7, .int 0), (0, .ref x), (1, .int n), (2, .int a), (3, .int b), (4, .int c), (5, .int d), (6, .int e)] 51 [.int 1]
              refine x_if_eq C dX7_feed_51 (tgt := 59) rfl (fun q9 => absurd q9 (by decide)) (fun _ => ?_)
              refine x_iload C dX7_feed_54 0 rfl ?_
              refine x_if_ne C dX7_feed_56 (tgt := 62) rfl (fun q9 => absurd q9 (by decide)) (fun _ => ?_)
              refine x_bipush C dX7_feed_59 (v := (-2)) rfl ?_
              refine E dX7_feed_61 (rfl) ?_
              exact ⟨(-2), rsz, tpf, rfl, rfl, by (unfold o_feed o_feed_n o_feed_f o_fd); (repeat (first | rw [if_pos (by first | (rw [if_pos (by decide)]; assumption) | (rw [if_neg (by decide), if_pos (by decide)]; assumption) | (rw [if_neg (by decide), if_neg (by decide)]; assumption) | assumption | decide | omega | exact o_one_t (by assumption) | (rw [o_one_f (by assumption)]; decide) | exact ⟨by assumption, by assumption⟩ | exact fun h9 => absurd h9.1 (by assumption) | exact fun h9 => absurd h9.2 (by assumption))] | rw [if_neg (by first | (rw [if_pos (by decide)]; assumption) | (rw [if_neg (by decide), if_pos (by decide)]; assumption) | (rw [if_neg (by decide), if_neg (by decide)]; assumption) | assumption | decide | omega | exact o_one_t (by assumption) | (rw [o_one_f (by assumption)]; decide) | exact ⟨by assumption, by assumption⟩ | exact fun h9 => absurd h9.1 (by assumption) | exact fun h9 => absurd h9.2 (by assumption))])); all_goals (first | rfl)⟩
            ·
              obtain ⟨rfl, rfl, hf97⟩ := h95
              show X 0 0 [(x, .inr (6, [.ref tw, .ref pw, .ref uw, .ref o, .ref hh, .ref rd, .ref bk, .ref pl, .ref asd, .ref fd, .int (nI wr), .int hi9])), (rd, .inr (4, [.ref rta, .int (nI rsz), .int rat, .int rtk, .int rpl, .int rva, .int rfa, .ref rlw])), (rta, .inl (cI, 160, .inl tpf))] [(7, .int 0), (0, .ref x), (1, .int n), (2, .int a), (3, .int b), (4, .int c), (5, .int d), (6, .int e)] 51 [.int 0]
              refine x_if_eq C dX7_feed_51 (tgt := 59) rfl (fun _ => ?_) (fun q9 => by first | exact absurd q9 (by decide) | exact absurd (by decide) q9)
              refine x_bipush C dX7_feed_59 (v := (-2)) rfl ?_
              refine E dX7_feed_61 (rfl) ?_
              exact ⟨(-2), rsz, tpf, rfl, rfl, by (unfold o_feed o_feed_n o_feed_f o_fd); (repeat (first | rw [if_pos (by first | (rw [if_pos (by decide)]; assumption) | (rw [if_neg (by decide), if_pos (by decide)]; assumption) | (rw [if_neg (by decide), if_neg (by decide)]; assumption) | assumption | decide | omega | exact o_one_t (by assumption) | (rw [o_one_f (by assumption)]; decide) | exact ⟨by assumption, by assumption⟩ | exact fun h9 => absurd h9.1 (by assumption) | exact fun h9 => absurd h9.2 (by assumption))] | rw [if_neg (by first | (rw [if_pos (by decide)]; assumption) | (rw [if_neg (by decide), if_pos (by decide)]; assumption) | (rw [if_neg (by decide), if_neg (by decide)]; assumption) | assumption | decide | omega | exact o_one_t (by assumption) | (rw [o_one_f (by assumption)]; decide) | exact ⟨by assumption, by assumption⟩ | exact fun h9 => absurd h9.1 (by assumption) | exact fun h9 => absurd h9.2 (by assumption))])); all_goals (first | rfl)⟩
        ·
          obtain ⟨rfl, rfl, hf98⟩ := h15
          show X 0 0 [(x, .inr (6, [.ref tw, .ref pw, .ref uw, .ref o, .ref hh, .ref rd, .ref bk, .ref pl, .ref asd, .ref fd, .int (nI wr), .int hi9])), (rd, .inr (4, [.ref rta, .int (nI rsz), .int rat, .int rtk, .int rpl, .int rva, .int rfa, .ref rlw])), (rta, .inl (cI, 160, .inl tpf))] [(0, .ref x), (1, .int n), (2, .int a), (3, .int b), (4, .int c), (5, .int d), (6, .int e)] 27 [.int 0]
          refine x_if_eq C dX7_feed_27 (tgt := 42) rfl (fun _ => ?_) (fun q9 => by first | exact absurd q9 (by decide) | exact absurd (by decide) q9)
          refine x_iconst C dX7_feed_42 (v := 0) rfl ?_
          refine x_istore C dX7_feed_43 (by decide) (lv' := [(7, .int 0), (0, .ref x), (1, .int n), (2, .int a), (3, .int b), (4, .int c), (5, .int d), (6, .int e)]) rfl ?_
          refine x_iload_n C dX7_feed_45 2 rfl ?_
          refine x_iconst C dX7_feed_46 (v := 1) rfl ?_
          refine x_iconst C dX7_feed_47 (v := 5) rfl ?_
          refine x_callS C (As := [.int n, .int 1, .int 5]) (st := []) (wc := []) (wr := [(x, .inr (6, [.ref tw, .ref pw, .ref uw, .ref o, .ref hh, .ref rd, .ref bk, .ref pl, .ref asd, .ref fd, .int (nI wr), .int hi9])), (rd, .inr (4, [.ref rta, .int (nI rsz), .int rat, .int rtk, .int rpl, .int rva, .int rfa, .ref rlw])), (rta, .inl (cI, 160, .inl tpf))]) (c_X7_within l dG cI cM cW cS n 1 5 ) rZ0_ok (fun _ _ _ _ => trivial) kS_X7_92 hy_X7_within ⟨Nat.le_of_ble_eq_true rfl, Nat.le_of_ble_eq_true rfl⟩ ⟨Nat.le_of_ble_eq_true rfl, Nat.le_of_ble_eq_true rfl⟩ dX7_feed_48 [] [0, 1, 2] rfl rfl rfl rfl (by decide) rfl (Nat.le_of_ble_eq_true rfl) ?_
          intro v99 w100 h101
          rcases h101 with h101 | h101
          ·
            obtain ⟨rfl, rfl, hf102⟩ := h101
            show X 0 0 [(x, .inr (6, [.ref tw, .ref pw, .ref uw, .ref o, .ref hh, .ref rd, .ref bk, .ref pl, .ref asd, .ref fd, .int (nI wr), .int hi9])), (rd, .inr (4, [.ref rta, .int (nI rsz), .int rat, .int rtk, .int rpl, .int rva, .int rfa, .ref rlw])), (rta, .inl (cI, 160, .inl tpf))] [(7, .int 0), (0, .ref x), (1, .int n), (2, .int a), (3, .int b), (4, .int c), (5, .int d), (6, .int e)] 51 [.int 1]
            refine x_if_eq C dX7_feed_51 (tgt := 59) rfl (fun q9 => absurd q9 (by decide)) (fun _ => ?_)
            refine x_iload C dX7_feed_54 0 rfl ?_
            refine x_if_ne C dX7_feed_56 (tgt := 62) rfl (fun q9 => absurd q9 (by decide)) (fun _ => ?_)
            refine x_bipush C dX7_feed_59 (v := (-2)) rfl ?_
            refine E dX7_feed_61 (rfl) ?_
            exact ⟨(-2), rsz, tpf, rfl, rfl, by (unfold o_feed o_feed_n o_feed_f o_fd); (repeat (first | rw [if_pos (by first | (rw [if_pos (by decide)]; assumption) | (rw [if_neg (by decide), if_pos (by decide)]; assumption) | (rw [if_neg (by decide), if_neg (by decide)]; assumption) | assumption | decide | omega | exact o_one_t (by assumption) | (rw [o_one_f (by assumption)]; decide) | exact ⟨by assumption, by assumption⟩ | exact fun h9 => absurd h9.1 (by assumption) | exact fun h9 => absurd h9.2 (by assumption))] | rw [if_neg (by first | (rw [if_pos (by decide)]; assumption) | (rw [if_neg (by decide), if_pos (by decide)]; assumption) | (rw [if_neg (by decide), if_neg (by decide)]; assumption) | assumption | decide | omega | exact o_one_t (by assumption) | (rw [o_one_f (by assumption)]; decide) | exact ⟨by assumption, by assumption⟩ | exact fun h9 => absurd h9.1 (by assumption) | exact fun h9 => absurd h9.2 (by assumption))])); all_goals (first | rfl)⟩
          ·
            obtain ⟨rfl, rfl, hf103⟩ := h101
            show X 0 0 [(x, .inr (6, [.ref tw, .ref pw, .ref uw, .ref o, .ref hh, .ref rd, .ref bk, .ref pl, .ref asd, .ref fd, .int (nI wr), .int hi9])), (rd, .inr (4, [.ref rta, .int (nI rsz), .int rat, .int rtk, .int rpl, .int rva, .int rfa, .ref rlw])), (rta, .inl (cI, 160, .inl tpf))] [(7, .int 0), (0, .ref x), (1, .int n), (2, .int a), (3, .int b), (4, .int c), (5, .int d), (6, .int e)] 51 [.int 0]
            refine x_if_eq C dX7_feed_51 (tgt := 59) rfl (fun _ => ?_) (fun q9 => by first | exact absurd q9 (by decide) | exact absurd (by decide) q9)
            refine x_bipush C dX7_feed_59 (v := (-2)) rfl ?_
            refine E dX7_feed_61 (rfl) ?_
            exact ⟨(-2), rsz, tpf, rfl, rfl, by (unfold o_feed o_feed_n o_feed_f o_fd); (repeat (first | rw [if_pos (by first | (rw [if_pos (by decide)]; assumption) | (rw [if_neg (by decide), if_pos (by decide)]; assumption) | (rw [if_neg (by decide), if_neg (by decide)]; assumption) | assumption | decide | omega | exact o_one_t (by assumption) | (rw [o_one_f (by assumption)]; decide) | exact ⟨by assumption, by assumption⟩ | exact fun h9 => absurd h9.1 (by assumption) | exact fun h9 => absurd h9.2 (by assumption))] | rw [if_neg (by first | (rw [if_pos (by decide)]; assumption) | (rw [if_neg (by decide), if_pos (by decide)]; assumption) | (rw [if_neg (by decide), if_neg (by decide)]; assumption) | assumption | decide | omega | exact o_one_t (by assumption) | (rw [o_one_f (by assumption)]; decide) | exact ⟨by assumption, by assumption⟩ | exact fun h9 => absurd h9.1 (by assumption) | exact fun h9 => absurd h9.2 (by assumption))])); all_goals (first | rfl)⟩
      ·
        obtain ⟨rfl, rfl, hf104⟩ := h11
        show X 0 0 [(x, .inr (6, [.ref tw, .ref pw, .ref uw, .ref o, .ref hh, .ref rd, .ref bk, .ref pl, .ref asd, .ref fd, .int (nI wr), .int hi9])), (rd, .inr (4, [.ref rta, .int (nI rsz), .int rat, .int rtk, .int rpl, .int rva, .int rfa, .ref rlw])), (rta, .inl (cI, 160, .inl tpf))] [(0, .ref x), (1, .int n), (2, .int a), (3, .int b), (4, .int c), (5, .int d), (6, .int e)] 19 [.int 0]
        refine x_if_eq C dX7_feed_19 (tgt := 42) rfl (fun _ => ?_) (fun q9 => by first | exact absurd q9 (by decide) | exact absurd (by decide) q9)
        refine x_iconst C dX7_feed_42 (v := 0) rfl ?_
        refine x_istore C dX7_feed_43 (by decide) (lv' := [(7, .int 0), (0, .ref x), (1, .int n), (2, .int a), (3, .int b), (4, .int c), (5, .int d), (6, .int e)]) rfl ?_
        refine x_iload_n C dX7_feed_45 2 rfl ?_
        refine x_iconst C dX7_feed_46 (v := 1) rfl ?_
        refine x_iconst C dX7_feed_47 (v := 5) rfl ?_
        refine x_callS C (As := [.int n, .int 1, .int 5]) (st := []) (wc := []) (wr := [(x, .inr (6, [.ref tw, .ref pw, .ref uw, .ref o, .ref hh, .ref rd, .ref bk, .ref pl, .ref asd, .ref fd, .int (nI wr), .int hi9])), (rd, .inr (4, [.ref rta, .int (nI rsz), .int rat, .int rtk, .int rpl, .int rva, .int rfa, .ref rlw])), (rta, .inl (cI, 160, .inl tpf))]) (c_X7_within l dG cI cM cW cS n 1 5 ) rZ0_ok (fun _ _ _ _ => trivial) kS_X7_92 hy_X7_within ⟨Nat.le_of_ble_eq_true rfl, Nat.le_of_ble_eq_true rfl⟩ ⟨Nat.le_of_ble_eq_true rfl, Nat.le_of_ble_eq_true rfl⟩ dX7_feed_48 [] [0, 1, 2] rfl rfl rfl rfl (by decide) rfl (Nat.le_of_ble_eq_true rfl) ?_
        intro v105 w106 h107
        rcases h107 with h107 | h107
        ·
          obtain ⟨rfl, rfl, hf108⟩ := h107
          show X 0 0 [(x, .inr (6, [.ref tw, .ref pw, .ref uw, .ref o, .ref hh, .ref rd, .ref bk, .ref pl, .ref asd, .ref fd, .int (nI wr), .int hi9])), (rd, .inr (4, [.ref rta, .int (nI rsz), .int rat, .int rtk, .int rpl, .int rva, .int rfa, .ref rlw])), (rta, .inl (cI, 160, .inl tpf))] [(7, .int 0), (0, .ref x), (1, .int n), (2, .int a), (3, .int b), (4, .int c), (5, .int d), (6, .int e)] 51 [.int 1]
          refine x_if_eq C dX7_feed_51 (tgt := 59) rfl (fun q9 => absurd q9 (by decide)) (fun _ => ?_)
          refine x_iload C dX7_feed_54 0 rfl ?_
          refine x_if_ne C dX7_feed_56 (tgt := 62) rfl (fun q9 => absurd q9 (by decide)) (fun _ => ?_)
          refine x_bipush C dX7_feed_59 (v := (-2)) rfl ?_
          refine E dX7_feed_61 (rfl) ?_
          exact ⟨(-2), rsz, tpf, rfl, rfl, by (unfold o_feed o_feed_n o_feed_f o_fd); (repeat (first | rw [if_pos (by first | (rw [if_pos (by decide)]; assumption) | (rw [if_neg (by decide), if_pos (by decide)]; assumption) | (rw [if_neg (by decide), if_neg (by decide)]; assumption) | assumption | decide | omega | exact o_one_t (by assumption) | (rw [o_one_f (by assumption)]; decide) | exact ⟨by assumption, by assumption⟩ | exact fun h9 => absurd h9.1 (by assumption) | exact fun h9 => absurd h9.2 (by assumption))] | rw [if_neg (by first | (rw [if_pos (by decide)]; assumption) | (rw [if_neg (by decide), if_pos (by decide)]; assumption) | (rw [if_neg (by decide), if_neg (by decide)]; assumption) | assumption | decide | omega | exact o_one_t (by assumption) | (rw [o_one_f (by assumption)]; decide) | exact ⟨by assumption, by assumption⟩ | exact fun h9 => absurd h9.1 (by assumption) | exact fun h9 => absurd h9.2 (by assumption))])); all_goals (first | rfl)⟩
        ·
          obtain ⟨rfl, rfl, hf109⟩ := h107
          show X 0 0 [(x, .inr (6, [.ref tw, .ref pw, .ref uw, .ref o, .ref hh, .ref rd, .ref bk, .ref pl, .ref asd, .ref fd, .int (nI wr), .int hi9])), (rd, .inr (4, [.ref rta, .int (nI rsz), .int rat, .int rtk, .int rpl, .int rva, .int rfa, .ref rlw])), (rta, .inl (cI, 160, .inl tpf))] [(7, .int 0), (0, .ref x), (1, .int n), (2, .int a), (3, .int b), (4, .int c), (5, .int d), (6, .int e)] 51 [.int 0]
          refine x_if_eq C dX7_feed_51 (tgt := 59) rfl (fun _ => ?_) (fun q9 => by first | exact absurd q9 (by decide) | exact absurd (by decide) q9)
          refine x_bipush C dX7_feed_59 (v := (-2)) rfl ?_
          refine E dX7_feed_61 (rfl) ?_
          exact ⟨(-2), rsz, tpf, rfl, rfl, by (unfold o_feed o_feed_n o_feed_f o_fd); (repeat (first | rw [if_pos (by first | (rw [if_pos (by decide)]; assumption) | (rw [if_neg (by decide), if_pos (by decide)]; assumption) | (rw [if_neg (by decide), if_neg (by decide)]; assumption) | assumption | decide | omega | exact o_one_t (by assumption) | (rw [o_one_f (by assumption)]; decide) | exact ⟨by assumption, by assumption⟩ | exact fun h9 => absurd h9.1 (by assumption) | exact fun h9 => absurd h9.2 (by assumption))] | rw [if_neg (by first | (rw [if_pos (by decide)]; assumption) | (rw [if_neg (by decide), if_pos (by decide)]; assumption) | (rw [if_neg (by decide), if_neg (by decide)]; assumption) | assumption | decide | omega | exact o_one_t (by assumption) | (rw [o_one_f (by assumption)]; decide) | exact ⟨by assumption, by assumption⟩ | exact fun h9 => absurd h9.1 (by assumption) | exact fun h9 => absurd h9.2 (by assumption))])); all_goals (first | rfl)⟩
    ·
      obtain ⟨rfl, rfl, hf110⟩ := h7
      show X 0 0 [(x, .inr (6, [.ref tw, .ref pw, .ref uw, .ref o, .ref hh, .ref rd, .ref bk, .ref pl, .ref asd, .ref fd, .int (nI wr), .int hi9])), (rd, .inr (4, [.ref rta, .int (nI rsz), .int rat, .int rtk, .int rpl, .int rva, .int rfa, .ref rlw])), (rta, .inl (cI, 160, .inl tpf))] [(0, .ref x), (1, .int n), (2, .int a), (3, .int b), (4, .int c), (5, .int d), (6, .int e)] 11 [.int 0]
      refine x_if_eq C dX7_feed_11 (tgt := 42) rfl (fun _ => ?_) (fun q9 => by first | exact absurd q9 (by decide) | exact absurd (by decide) q9)
      refine x_iconst C dX7_feed_42 (v := 0) rfl ?_
      refine x_istore C dX7_feed_43 (by decide) (lv' := [(7, .int 0), (0, .ref x), (1, .int n), (2, .int a), (3, .int b), (4, .int c), (5, .int d), (6, .int e)]) rfl ?_
      refine x_iload_n C dX7_feed_45 2 rfl ?_
      refine x_iconst C dX7_feed_46 (v := 1) rfl ?_
      refine x_iconst C dX7_feed_47 (v := 5) rfl ?_
      refine x_callS C (As := [.int n, .int 1, .int 5]) (st := []) (wc := []) (wr := [(x, .inr (6, [.ref tw, .ref pw, .ref uw, .ref o, .ref hh, .ref rd, .ref bk, .ref pl, .ref asd, .ref fd, .int (nI wr), .int hi9])), (rd, .inr (4, [.ref rta, .int (nI rsz), .int rat, .int rtk, .int rpl, .int rva, .int rfa, .ref rlw])), (rta, .inl (cI, 160, .inl tpf))]) (c_X7_within l dG cI cM cW cS n 1 5 ) rZ0_ok (fun _ _ _ _ => trivial) kS_X7_92 hy_X7_within ⟨Nat.le_of_ble_eq_true rfl, Nat.le_of_ble_eq_true rfl⟩ ⟨Nat.le_of_ble_eq_true rfl, Nat.le_of_ble_eq_true rfl⟩ dX7_feed_48 [] [0, 1, 2] rfl rfl rfl rfl (by decide) rfl (Nat.le_of_ble_eq_true rfl) ?_
      intro v111 w112 h113
      rcases h113 with h113 | h113
      ·
        obtain ⟨rfl, rfl, hf114⟩ := h113
        show X 0 0 [(x, .inr (6, [.ref tw, .ref pw, .ref uw, .ref o, .ref hh, .ref rd, .ref bk, .ref pl, .ref asd, .ref fd, .int (nI wr), .int hi9])), (rd, .inr (4, [.ref rta, .int (nI rsz), .int rat, .int rtk, .int rpl, .int rva, .int rfa, .ref rlw])), (rta, .inl (cI, 160, .inl tpf))] [(7, .int 0), (0, .ref x), (1, .int n), (2, .int a), (3, .int b), (4, .int c), (5, .int d), (6, .int e)] 51 [.int 1]
        refine x_if_eq C dX7_feed_51 (tgt := 59) rfl (fun q9 => absurd q9 (by decide)) (fun _ => ?_)
        refine x_iload C dX7_feed_54 0 rfl ?_
        refine x_if_ne C dX7_feed_56 (tgt := 62) rfl (fun q9 => absurd q9 (by decide)) (fun _ => ?_)
        refine x_bipush C dX7_feed_59 (v := (-2)) rfl ?_
        refine E dX7_feed_61 (rfl) ?_
        exact ⟨(-2), rsz, tpf, rfl, rfl, by (unfold o_feed o_feed_n o_feed_f o_fd); (repeat (first | rw [if_pos (by first | (rw [if_pos (by decide)]; assumption) | (rw [if_neg (by decide), if_pos (by decide)]; assumption) | (rw [if_neg (by decide), if_neg (by decide)]; assumption) | assumption | decide | omega | exact o_one_t (by assumption) | (rw [o_one_f (by assumption)]; decide) | exact ⟨by assumption, by assumption⟩ | exact fun h9 => absurd h9.1 (by assumption) | exact fun h9 => absurd h9.2 (by assumption))] | rw [if_neg (by first | (rw [if_pos (by decide)]; assumption) | (rw [if_neg (by decide), if_pos (by decide)]; assumption) | (rw [if_neg (by decide), if_neg (by decide)]; assumption) | assumption | decide | omega | exact o_one_t (by assumption) | (rw [o_one_f (by assumption)]; decide) | exact ⟨by assumption, by assumption⟩ | exact fun h9 => absurd h9.1 (by assumption) | exact fun h9 => absurd h9.2 (by assumption))])); all_goals (first | rfl)⟩
      ·
        obtain ⟨rfl, rfl, hf115⟩ := h113
        show X 0 0 [(x, .inr (6, [.ref tw, .ref pw, .ref uw, .ref o, .ref hh, .ref rd, .ref bk, .ref pl, .ref asd, .ref fd, .int (nI wr), .int hi9])), (rd, .inr (4, [.ref rta, .int (nI rsz), .int rat, .int rtk, .int rpl, .int rva, .int rfa, .ref rlw])), (rta, .inl (cI, 160, .inl tpf))] [(7, .int 0), (0, .ref x), (1, .int n), (2, .int a), (3, .int b), (4, .int c), (5, .int d), (6, .int e)] 51 [.int 0]
        refine x_if_eq C dX7_feed_51 (tgt := 59) rfl (fun _ => ?_) (fun q9 => by first | exact absurd q9 (by decide) | exact absurd (by decide) q9)
        refine x_bipush C dX7_feed_59 (v := (-2)) rfl ?_
        refine E dX7_feed_61 (rfl) ?_
        exact ⟨(-2), rsz, tpf, rfl, rfl, by (unfold o_feed o_feed_n o_feed_f o_fd); (repeat (first | rw [if_pos (by first | (rw [if_pos (by decide)]; assumption) | (rw [if_neg (by decide), if_pos (by decide)]; assumption) | (rw [if_neg (by decide), if_neg (by decide)]; assumption) | assumption | decide | omega | exact o_one_t (by assumption) | (rw [o_one_f (by assumption)]; decide) | exact ⟨by assumption, by assumption⟩ | exact fun h9 => absurd h9.1 (by assumption) | exact fun h9 => absurd h9.2 (by assumption))] | rw [if_neg (by first | (rw [if_pos (by decide)]; assumption) | (rw [if_neg (by decide), if_pos (by decide)]; assumption) | (rw [if_neg (by decide), if_neg (by decide)]; assumption) | assumption | decide | omega | exact o_one_t (by assumption) | (rw [o_one_f (by assumption)]; decide) | exact ⟨by assumption, by assumption⟩ | exact fun h9 => absurd h9.1 (by assumption) | exact fun h9 => absurd h9.2 (by assumption))])); all_goals (first | rfl)⟩
  ·
    obtain ⟨rfl, rfl, hf116⟩ := h3
    show X 0 0 [(x, .inr (6, [.ref tw, .ref pw, .ref uw, .ref o, .ref hh, .ref rd, .ref bk, .ref pl, .ref asd, .ref fd, .int (nI wr), .int hi9])), (rd, .inr (4, [.ref rta, .int (nI rsz), .int rat, .int rtk, .int rpl, .int rva, .int rfa, .ref rlw])), (rta, .inl (cI, 160, .inl tpf))] [(0, .ref x), (1, .int n), (2, .int a), (3, .int b), (4, .int c), (5, .int d), (6, .int e)] 4 [.int 0]
    refine x_if_eq C dX7_feed_4 (tgt := 42) rfl (fun _ => ?_) (fun q9 => by first | exact absurd q9 (by decide) | exact absurd (by decide) q9)
    refine x_iconst C dX7_feed_42 (v := 0) rfl ?_
    refine x_istore C dX7_feed_43 (by decide) (lv' := [(7, .int 0), (0, .ref x), (1, .int n), (2, .int a), (3, .int b), (4, .int c), (5, .int d), (6, .int e)]) rfl ?_
    refine x_iload_n C dX7_feed_45 2 rfl ?_
    refine x_iconst C dX7_feed_46 (v := 1) rfl ?_
    refine x_iconst C dX7_feed_47 (v := 5) rfl ?_
    refine x_callS C (As := [.int n, .int 1, .int 5]) (st := []) (wc := []) (wr := [(x, .inr (6, [.ref tw, .ref pw, .ref uw, .ref o, .ref hh, .ref rd, .ref bk, .ref pl, .ref asd, .ref fd, .int (nI wr), .int hi9])), (rd, .inr (4, [.ref rta, .int (nI rsz), .int rat, .int rtk, .int rpl, .int rva, .int rfa, .ref rlw])), (rta, .inl (cI, 160, .inl tpf))]) (c_X7_within l dG cI cM cW cS n 1 5 ) rZ0_ok (fun _ _ _ _ => trivial) kS_X7_92 hy_X7_within ⟨Nat.le_of_ble_eq_true rfl, Nat.le_of_ble_eq_true rfl⟩ ⟨Nat.le_of_ble_eq_true rfl, Nat.le_of_ble_eq_true rfl⟩ dX7_feed_48 [] [0, 1, 2] rfl rfl rfl rfl (by decide) rfl (Nat.le_of_ble_eq_true rfl) ?_
    intro v117 w118 h119
    rcases h119 with h119 | h119
    ·
      obtain ⟨rfl, rfl, hf120⟩ := h119
      show X 0 0 [(x, .inr (6, [.ref tw, .ref pw, .ref uw, .ref o, .ref hh, .ref rd, .ref bk, .ref pl, .ref asd, .ref fd, .int (nI wr), .int hi9])), (rd, .inr (4, [.ref rta, .int (nI rsz), .int rat, .int rtk, .int rpl, .int rva, .int rfa, .ref rlw])), (rta, .inl (cI, 160, .inl tpf))] [(7, .int 0), (0, .ref x), (1, .int n), (2, .int a), (3, .int b), (4, .int c), (5, .int d), (6, .int e)] 51 [.int 1]
      refine x_if_eq C dX7_feed_51 (tgt := 59) rfl (fun q9 => absurd q9 (by decide)) (fun _ => ?_)
      refine x_iload C dX7_feed_54 0 rfl ?_
      refine x_if_ne C dX7_feed_56 (tgt := 62) rfl (fun q9 => absurd q9 (by decide)) (fun _ => ?_)
      refine x_bipush C dX7_feed_59 (v := (-2)) rfl ?_
      refine E dX7_feed_61 (rfl) ?_
      exact ⟨(-2), rsz, tpf, rfl, rfl, by (unfold o_feed o_feed_n o_feed_f o_fd); (repeat (first | rw [if_pos (by first | (rw [if_pos (by decide)]; assumption) | (rw [if_neg (by decide), if_pos (by decide)]; assumption) | (rw [if_neg (by decide), if_neg (by decide)]; assumption) | assumption | decide | omega | exact o_one_t (by assumption) | (rw [o_one_f (by assumption)]; decide) | exact ⟨by assumption, by assumption⟩ | exact fun h9 => absurd h9.1 (by assumption) | exact fun h9 => absurd h9.2 (by assumption))] | rw [if_neg (by first | (rw [if_pos (by decide)]; assumption) | (rw [if_neg (by decide), if_pos (by decide)]; assumption) | (rw [if_neg (by decide), if_neg (by decide)]; assumption) | assumption | decide | omega | exact o_one_t (by assumption) | (rw [o_one_f (by assumption)]; decide) | exact ⟨by assumption, by assumption⟩ | exact fun h9 => absurd h9.1 (by assumption) | exact fun h9 => absurd h9.2 (by assumption))])); all_goals (first | rfl)⟩
    ·
      obtain ⟨rfl, rfl, hf121⟩ := h119
      show X 0 0 [(x, .inr (6, [.ref tw, .ref pw, .ref uw, .ref o, .ref hh, .ref rd, .ref bk, .ref pl, .ref asd, .ref fd, .int (nI wr), .int hi9])), (rd, .inr (4, [.ref rta, .int (nI rsz), .int rat, .int rtk, .int rpl, .int rva, .int rfa, .ref rlw])), (rta, .inl (cI, 160, .inl tpf))] [(7, .int 0), (0, .ref x), (1, .int n), (2, .int a), (3, .int b), (4, .int c), (5, .int d), (6, .int e)] 51 [.int 0]
      refine x_if_eq C dX7_feed_51 (tgt := 59) rfl (fun _ => ?_) (fun q9 => by first | exact absurd q9 (by decide) | exact absurd (by decide) q9)
      refine x_bipush C dX7_feed_59 (v := (-2)) rfl ?_
      refine E dX7_feed_61 (rfl) ?_
      exact ⟨(-2), rsz, tpf, rfl, rfl, by (unfold o_feed o_feed_n o_feed_f o_fd); (repeat (first | rw [if_pos (by first | (rw [if_pos (by decide)]; assumption) | (rw [if_neg (by decide), if_pos (by decide)]; assumption) | (rw [if_neg (by decide), if_neg (by decide)]; assumption) | assumption | decide | omega | exact o_one_t (by assumption) | (rw [o_one_f (by assumption)]; decide) | exact ⟨by assumption, by assumption⟩ | exact fun h9 => absurd h9.1 (by assumption) | exact fun h9 => absurd h9.2 (by assumption))] | rw [if_neg (by first | (rw [if_pos (by decide)]; assumption) | (rw [if_neg (by decide), if_pos (by decide)]; assumption) | (rw [if_neg (by decide), if_neg (by decide)]; assumption) | assumption | decide | omega | exact o_one_t (by assumption) | (rw [o_one_f (by assumption)]; decide) | exact ⟨by assumption, by assumption⟩ | exact fun h9 => absurd h9.1 (by assumption) | exact fun h9 => absurd h9.2 (by assumption))])); all_goals (first | rfl)⟩
set_option maxHeartbeats 4000000 in
set_option maxRecDepth 100000 in
theorem c_X8_feed (l : Launch) (dG : va_G) (cI cM cW cS : ClassId) (m a_sky a_kind a_more a_strewn a_treeCell a_treeSort a_treeLeaves a_tape a_code a_begins a_stack a_dry a_wet a_covered a_hangs a_off a_dryGo a_wetGo a_keptSky a_oldSky a_oldCells a_sheetSort a_sheetSize a_items a_spare : Nat) (tn tz wr lw itn ilw : Nat) (i_raking i_made i_at i_from i_sort i_value i_open i_fell i_fellToday i_rotten i_raked i_cost i_imaged i_oldRaking : Int32) (l_heaps l_oldHeaps : Int64) (tpf : Nat → Int32) (n a b c d e : Int32) (htz : tz ≤ 160) : rM l yX8_feed cX8_feed 8 (some .int) ({ frames := 1, cells := 0, slots := 0, locals := 22 } : Room) dG (tY cI cM cW cS) rZ0 [.ref m, .int n, .int a, .int b, .int c, .int d, .int e] [(m, .inr (7, [.ref a_sky, .ref a_kind, .ref a_more, .ref a_strewn, .int (nI tn), .ref a_treeCell, .ref a_treeSort, .ref a_treeLeaves, .int i_raking, .long l_heaps, .int (nI tz), .ref a_tape, .int (nI wr), .int (nI lw), .ref a_code, .ref a_begins, .int i_made, .int i_at, .int i_from, .int i_sort, .int i_value, .int i_open, .ref a_stack, .ref a_dry, .ref a_wet, .ref a_covered, .ref a_hangs, .ref a_off, .int i_fell, .int i_fellToday, .int i_rotten, .int i_raked, .int i_cost, .ref a_dryGo, .ref a_wetGo, .ref a_keptSky, .int i_imaged, .int (nI itn), .int i_oldRaking, .long l_oldHeaps, .int (nI ilw), .ref a_oldSky, .ref a_oldCells, .ref a_sheetSort, .ref a_sheetSize, .ref a_items, .ref a_spare])), (a_tape, .inl (cI, 160, .inl tpf))] (fun ov oz => ∃ (r : Int32) (z' : Nat) (f' : Nat → Int32), ov = some (.int r) ∧ oz = [(m, .inr (7, [.ref a_sky, .ref a_kind, .ref a_more, .ref a_strewn, .int (nI tn), .ref a_treeCell, .ref a_treeSort, .ref a_treeLeaves, .int i_raking, .long l_heaps, .int (nI z'), .ref a_tape, .int (nI wr), .int (nI lw), .ref a_code, .ref a_begins, .int i_made, .int i_at, .int i_from, .int i_sort, .int i_value, .int i_open, .ref a_stack, .ref a_dry, .ref a_wet, .ref a_covered, .ref a_hangs, .ref a_off, .int i_fell, .int i_fellToday, .int i_rotten, .int i_raked, .int i_cost, .ref a_dryGo, .ref a_wetGo, .ref a_keptSky, .int i_imaged, .int (nI itn), .int i_oldRaking, .long l_oldHeaps, .int (nI ilw), .ref a_oldSky, .ref a_oldCells, .ref a_sheetSort, .ref a_sheetSize, .ref a_items, .ref a_spare])), (a_tape, .inl (cI, 160, .inl f'))] ∧ (r, z', f') = (o_feed tz n a b c d e, o_feed_n tz n a b c d e, o_feed_f tpf tz n a b c d e)) := by
  refine rM_ofI rfl (Nat.le_of_ble_eq_true rfl) rfl (fun X C E => ?_)
  show X 0 0 [(m, .inr (7, [.ref a_sky, .ref a_kind, .ref a_more, .ref a_strewn, .int (nI tn), .ref a_treeCell, .ref a_treeSort, .ref a_treeLeaves, .int i_raking, .long l_heaps, .int (nI tz), .ref a_tape, .int (nI wr), .int (nI lw), .ref a_code, .ref a_begins, .int i_made, .int i_at, .int i_from, .int i_sort, .int i_value, .int i_open, .ref a_stack, .ref a_dry, .ref a_wet, .ref a_covered, .ref a_hangs, .ref a_off, .int i_fell, .int i_fellToday, .int i_rotten, .int i_raked, .int i_cost, .ref a_dryGo, .ref a_wetGo, .ref a_keptSky, .int i_imaged, .int (nI itn), .int i_oldRaking, .long l_oldHeaps, .int (nI ilw), .ref a_oldSky, .ref a_oldCells, .ref a_sheetSort, .ref a_sheetSize, .ref a_items, .ref a_spare])), (a_tape, .inl (cI, 160, .inl tpf))] [(0, .ref m), (1, .int n), (2, .int a), (3, .int b), (4, .int c), (5, .int d), (6, .int e)] 0 []
  refine x_iload_n C dX8_feed_0 1 rfl ?_
  refine x_iconst C dX8_feed_1 (v := 1) rfl ?_
  refine x_iconst C dX8_feed_2 (v := 5) rfl ?_
  refine x_callS C (As := [.int n, .int 1, .int 5]) (st := []) (wc := []) (wr := [(m, .inr (7, [.ref a_sky, .ref a_kind, .ref a_more, .ref a_strewn, .int (nI tn), .ref a_treeCell, .ref a_treeSort, .ref a_treeLeaves, .int i_raking, .long l_heaps, .int (nI tz), .ref a_tape, .int (nI wr), .int (nI lw), .ref a_code, .ref a_begins, .int i_made, .int i_at, .int i_from, .int i_sort, .int i_value, .int i_open, .ref a_stack, .ref a_dry, .ref a_wet, .ref a_covered, .ref a_hangs, .ref a_off, .int i_fell, .int i_fellToday, .int i_rotten, .int i_raked, .int i_cost, .ref a_dryGo, .ref a_wetGo, .ref a_keptSky, .int i_imaged, .int (nI itn), .int i_oldRaking, .long l_oldHeaps, .int (nI ilw), .ref a_oldSky, .ref a_oldCells, .ref a_sheetSort, .ref a_sheetSize, .ref a_items, .ref a_spare])), (a_tape, .inl (cI, 160, .inl tpf))]) (c_X8_within l dG cI cM cW cS n 1 5 ) rZ0_ok (fun _ _ _ _ => trivial) kS_X8_108 hy_X8_within ⟨Nat.le_of_ble_eq_true rfl, Nat.le_of_ble_eq_true rfl⟩ ⟨Nat.le_of_ble_eq_true rfl, Nat.le_of_ble_eq_true rfl⟩ dX8_feed_3 [] [0, 1] rfl rfl rfl rfl (by decide) rfl (Nat.le_of_ble_eq_true rfl) ?_
  intro v1 w2 h3
  rcases h3 with h3 | h3
  ·
    obtain ⟨rfl, rfl, hf4⟩ := h3
    show X 0 0 [(m, .inr (7, [.ref a_sky, .ref a_kind, .ref a_more, .ref a_strewn, .int (nI tn), .ref a_treeCell, .ref a_treeSort, .ref a_treeLeaves, .int i_raking, .long l_heaps, .int (nI tz), .ref a_tape, .int (nI wr), .int (nI lw), .ref a_code, .ref a_begins, .int i_made, .int i_at, .int i_from, .int i_sort, .int i_value, .int i_open, .ref a_stack, .ref a_dry, .ref a_wet, .ref a_covered, .ref a_hangs, .ref a_off, .int i_fell, .int i_fellToday, .int i_rotten, .int i_raked, .int i_cost, .ref a_dryGo, .ref a_wetGo, .ref a_keptSky, .int i_imaged, .int (nI itn), .int i_oldRaking, .long l_oldHeaps, .int (nI ilw), .ref a_oldSky, .ref a_oldCells, .ref a_sheetSort, .ref a_sheetSize, .ref a_items, .ref a_spare])), (a_tape, .inl (cI, 160, .inl tpf))] [(0, .ref m), (1, .int n), (2, .int a), (3, .int b), (4, .int c), (5, .int d), (6, .int e)] 6 [.int 1]
    have hr5 := hf4
    rcases q_in5 hf4 with rfl | rfl | rfl | rfl | rfl
    ·
      have hn9 : o_n 1 = 1 := rfl
      refine x_if_ne C dX8_feed_6 (tgt := 12) rfl (fun _ => ?_) (fun q9 => by first | exact absurd q9 (by decide) | exact absurd (by decide) q9)
      refine x_iconst C dX8_feed_12 (v := 0) rfl ?_
      refine x_istore C dX8_feed_13 (by decide) (lv' := [(7, .int 0), (0, .ref m), (1, .int 1), (2, .int a), (3, .int b), (4, .int c), (5, .int d), (6, .int e)]) rfl ?_
      refine x_iload C dX8_feed_15 0 rfl ?_
      refine x_iconst C dX8_feed_17 (v := 5) rfl ?_
      refine x_icmp_ge C dX8_feed_18 (tgt := 83) rfl (fun q9 => absurd q9 (by decide)) (fun _ => ?_)
      refine x_iload C dX8_feed_21 0 rfl ?_
      refine x_if_ne C dX8_feed_23 (tgt := 30) rfl (fun q9 => absurd q9 (by decide)) (fun _ => ?_)
      refine x_iload_n C dX8_feed_26 3 rfl ?_
      refine x_goto C dX8_feed_27 (tgt := 64) rfl ?_
      show X _ _ _ _ 64 _
      refine x_iconst C dX8_feed_64 (v := 0) rfl ?_
      refine x_sipush C dX8_feed_65 (v := 255) rfl ?_
      refine x_callS C (As := [.int a, .int 0, .int 255]) (st := []) (wc := []) (wr := [(m, .inr (7, [.ref a_sky, .ref a_kind, .ref a_more, .ref a_strewn, .int (nI tn), .ref a_treeCell, .ref a_treeSort, .ref a_treeLeaves, .int i_raking, .long l_heaps, .int (nI tz), .ref a_tape, .int (nI wr), .int (nI lw), .ref a_code, .ref a_begins, .int i_made, .int i_at, .int i_from, .int i_sort, .int i_value, .int i_open, .ref a_stack, .ref a_dry, .ref a_wet, .ref a_covered, .ref a_hangs, .ref a_off, .int i_fell, .int i_fellToday, .int i_rotten, .int i_raked, .int i_cost, .ref a_dryGo, .ref a_wetGo, .ref a_keptSky, .int i_imaged, .int (nI itn), .int i_oldRaking, .long l_oldHeaps, .int (nI ilw), .ref a_oldSky, .ref a_oldCells, .ref a_sheetSort, .ref a_sheetSize, .ref a_items, .ref a_spare])), (a_tape, .inl (cI, 160, .inl tpf))]) (c_X8_within l dG cI cM cW cS a 0 255 ) rZ0_ok (fun _ _ _ _ => trivial) kS_X8_108 hy_X8_within ⟨Nat.le_of_ble_eq_true rfl, Nat.le_of_ble_eq_true rfl⟩ ⟨Nat.le_of_ble_eq_true rfl, Nat.le_of_ble_eq_true rfl⟩ dX8_feed_68 [] [0, 1] rfl rfl rfl rfl (by decide) rfl (Nat.le_of_ble_eq_true rfl) ?_
      intro v6 w7 h8
      rcases h8 with h8 | h8
      ·
        obtain ⟨rfl, rfl, hf9⟩ := h8
        show X 0 0 [(m, .inr (7, [.ref a_sky, .ref a_kind, .ref a_more, .ref a_strewn, .int (nI tn), .ref a_treeCell, .ref a_treeSort, .ref a_treeLeaves, .int i_raking, .long l_heaps, .int (nI tz), .ref a_tape, .int (nI wr), .int (nI lw), .ref a_code, .ref a_begins, .int i_made, .int i_at, .int i_from, .int i_sort, .int i_value, .int i_open, .ref a_stack, .ref a_dry, .ref a_wet, .ref a_covered, .ref a_hangs, .ref a_off, .int i_fell, .int i_fellToday, .int i_rotten, .int i_raked, .int i_cost, .ref a_dryGo, .ref a_wetGo, .ref a_keptSky, .int i_imaged, .int (nI itn), .int i_oldRaking, .long l_oldHeaps, .int (nI ilw), .ref a_oldSky, .ref a_oldCells, .ref a_sheetSort, .ref a_sheetSize, .ref a_items, .ref a_spare])), (a_tape, .inl (cI, 160, .inl tpf))] [(7, .int 0), (0, .ref m), (1, .int 1), (2, .int a), (3, .int b), (4, .int c), (5, .int d), (6, .int e)] 71 [.int 1]
        refine x_if_ne C dX8_feed_71 (tgt := 77) rfl (fun _ => ?_) (fun q9 => by first | exact absurd q9 (by decide) | exact absurd (by decide) q9)
        refine x_iinc C dX8_feed_77 0 rfl (v := 1) (rfl) (by decide) (lv' := [(7, .int 1), (0, .ref m), (1, .int 1), (2, .int a), (3, .int b), (4, .int c), (5, .int d), (6, .int e)]) rfl ?_
        refine x_goto C dX8_feed_80 (tgt := 15) rfl ?_
        refine x_iload C dX8_feed_15 0 rfl ?_
        refine x_iconst C dX8_feed_17 (v := 5) rfl ?_
        refine x_icmp_ge C dX8_feed_18 (tgt := 83) rfl (fun q9 => absurd q9 (by decide)) (fun _ => ?_)
        refine x_iload C dX8_feed_21 0 rfl ?_
        refine x_if_ne C dX8_feed_23 (tgt := 30) rfl (fun _ => ?_) (fun q9 => by first | exact absurd q9 (by decide) | exact absurd (by decide) q9)
        refine x_iload C dX8_feed_30 0 rfl ?_
        refine x_iconst C dX8_feed_32 (v := 1) rfl ?_
        show X _ _ _ _ 33 _
        refine x_icmp_ne C dX8_feed_33 (tgt := 40) rfl (fun q9 => absurd q9 (by decide)) (fun _ => ?_)
        refine x_iload_n C dX8_feed_36 4 rfl ?_
        refine x_goto C dX8_feed_37 (tgt := 64) rfl ?_
        refine x_iconst C dX8_feed_64 (v := 0) rfl ?_
        refine x_sipush C dX8_feed_65 (v := 255) rfl ?_
        refine x_callS C (As := [.int b, .int 0, .int 255]) (st := []) (wc := []) (wr := [(m, .inr (7, [.ref a_sky, .ref a_kind, .ref a_more, .ref a_strewn, .int (nI tn), .ref a_treeCell, .ref a_treeSort, .ref a_treeLeaves, .int i_raking, .long l_heaps, .int (nI tz), .ref a_tape, .int (nI wr), .int (nI lw), .ref a_code, .ref a_begins, .int i_made, .int i_at, .int i_from, .int i_sort, .int i_value, .int i_open, .ref a_stack, .ref a_dry, .ref a_wet, .ref a_covered, .ref a_hangs, .ref a_off, .int i_fell, .int i_fellToday, .int i_rotten, .int i_raked, .int i_cost, .ref a_dryGo, .ref a_wetGo, .ref a_keptSky, .int i_imaged, .int (nI itn), .int i_oldRaking, .long l_oldHeaps, .int (nI ilw), .ref a_oldSky, .ref a_oldCells, .ref a_sheetSort, .ref a_sheetSize, .ref a_items, .ref a_spare])), (a_tape, .inl (cI, 160, .inl tpf))]) (c_X8_within l dG cI cM cW cS b 0 255 ) rZ0_ok (fun _ _ _ _ => trivial) kS_X8_108 hy_X8_within ⟨Nat.le_of_ble_eq_true rfl, Nat.le_of_ble_eq_true rfl⟩ ⟨Nat.le_of_ble_eq_true rfl, Nat.le_of_ble_eq_true rfl⟩ dX8_feed_68 [] [0, 1] rfl rfl rfl rfl (by decide) rfl (Nat.le_of_ble_eq_true rfl) ?_
        intro v10 w11 h12
        rcases h12 with h12 | h12
        ·
          obtain ⟨rfl, rfl, hf13⟩ := h12
          show X 0 0 [(m, .inr (7, [.ref a_sky, .ref a_kind, .ref a_more, .ref a_strewn, .int (nI tn), .ref a_treeCell, .ref a_treeSort, .ref a_treeLeaves, .int i_raking, .long l_heaps, .int (nI tz), .ref a_tape, .int (nI wr), .int (nI lw), .ref a_code, .ref a_begins, .int i_made, .int i_at, .int i_from, .int i_sort, .int i_value, .int i_open, .ref a_stack, .ref a_dry, .ref a_wet, .ref a_covered, .ref a_hangs, .ref a_off, .int i_fell, .int i_fellToday, .int i_rotten, .int i_raked, .int i_cost, .ref a_dryGo, .ref a_wetGo, .ref a_keptSky, .int i_imaged, .int (nI itn), .int i_oldRaking, .long l_oldHeaps, .int (nI ilw), .ref a_oldSky, .ref a_oldCells, .ref a_sheetSort, .ref a_sheetSize, .ref a_items, .ref a_spare])), (a_tape, .inl (cI, 160, .inl tpf))] [(7, .int 1), (0, .ref m), (1, .int 1), (2, .int a), (3, .int b), (4, .int c), (5, .int d), (6, .int e)] 71 [.int 1]
          refine x_if_ne C dX8_feed_71 (tgt := 77) rfl (fun _ => ?_) (fun q9 => by first | exact absurd q9 (by decide) | exact absurd (by decide) q9)
          refine x_iinc C dX8_feed_77 0 rfl (v := 2) (rfl) (by decide) (lv' := [(7, .int 2), (0, .ref m), (1, .int 1), (2, .int a), (3, .int b), (4, .int c), (5, .int d), (6, .int e)]) rfl ?_
          refine x_goto C dX8_feed_80 (tgt := 15) rfl ?_
          refine x_iload C dX8_feed_15 0 rfl ?_
          refine x_iconst C dX8_feed_17 (v := 5) rfl ?_
          refine x_icmp_ge C dX8_feed_18 (tgt := 83) rfl (fun q9 => absurd q9 (by decide)) (fun _ => ?_)
          refine x_iload C dX8_feed_21 0 rfl ?_
          refine x_if_ne C dX8_feed_23 (tgt := 30) rfl (fun _ => ?_) (fun q9 => by first | exact absurd q9 (by decide) | exact absurd (by decide) q9)
          refine x_iload C dX8_feed_30 0 rfl ?_
          refine x_iconst C dX8_feed_32 (v := 1) rfl ?_
          show X _ _ _ _ 33 _
          refine x_icmp_ne C dX8_feed_33 (tgt := 40) rfl (fun _ => ?_) (fun q9 => by first | exact absurd q9 (by decide) | exact absurd (by decide) q9)
          refine x_iload C dX8_feed_40 0 rfl ?_
          refine x_iconst C dX8_feed_42 (v := 2) rfl ?_
          refine x_icmp_ne C dX8_feed_43 (tgt := 51) rfl (fun q9 => absurd q9 (by decide)) (fun _ => ?_)
          refine x_iload C dX8_feed_46 5 rfl ?_
          refine x_goto C dX8_feed_48 (tgt := 64) rfl ?_
          refine x_iconst C dX8_feed_64 (v := 0) rfl ?_
          refine x_sipush C dX8_feed_65 (v := 255) rfl ?_
          refine x_callS C (As := [.int c, .int 0, .int 255]) (st := []) (wc := []) (wr := [(m, .inr (7, [.ref a_sky, .ref a_kind, .ref a_more, .ref a_strewn, .int (nI tn), .ref a_treeCell, .ref a_treeSort, .ref a_treeLeaves, .int i_raking, .long l_heaps, .int (nI tz), .ref a_tape, .int (nI wr), .int (nI lw), .ref a_code, .ref a_begins, .int i_made, .int i_at, .int i_from, .int i_sort, .int i_value, .int i_open, .ref a_stack, .ref a_dry, .ref a_wet, .ref a_covered, .ref a_hangs, .ref a_off, .int i_fell, .int i_fellToday, .int i_rotten, .int i_raked, .int i_cost, .ref a_dryGo, .ref a_wetGo, .ref a_keptSky, .int i_imaged, .int (nI itn), .int i_oldRaking, .long l_oldHeaps, .int (nI ilw), .ref a_oldSky, .ref a_oldCells, .ref a_sheetSort, .ref a_sheetSize, .ref a_items, .ref a_spare])), (a_tape, .inl (cI, 160, .inl tpf))]) (c_X8_within l dG cI cM cW cS c 0 255 ) rZ0_ok (fun _ _ _ _ => trivial) kS_X8_108 hy_X8_within ⟨Nat.le_of_ble_eq_true rfl, Nat.le_of_ble_eq_true rfl⟩ ⟨Nat.le_of_ble_eq_true rfl, Nat.le_of_ble_eq_true rfl⟩ dX8_feed_68 [] [0, 1] rfl rfl rfl rfl (by decide) rfl (Nat.le_of_ble_eq_true rfl) ?_
          intro v14 w15 h16
          rcases h16 with h16 | h16
          ·
            obtain ⟨rfl, rfl, hf17⟩ := h16
            show X 0 0 [(m, .inr (7, [.ref a_sky, .ref a_kind, .ref a_more, .ref a_strewn, .int (nI tn), .ref a_treeCell, .ref a_treeSort, .ref a_treeLeaves, .int i_raking, .long l_heaps, .int (nI tz), .ref a_tape, .int (nI wr), .int (nI lw), .ref a_code, .ref a_begins, .int i_made, .int i_at, .int i_from, .int i_sort, .int i_value, .int i_open, .ref a_stack, .ref a_dry, .ref a_wet, .ref a_covered, .ref a_hangs, .ref a_off, .int i_fell, .int i_fellToday, .int i_rotten, .int i_raked, .int i_cost, .ref a_dryGo, .ref a_wetGo, .ref a_keptSky, .int i_imaged, .int (nI itn), .int i_oldRaking, .long l_oldHeaps, .int (nI ilw), .ref a_oldSky, .ref a_oldCells, .ref a_sheetSort, .ref a_sheetSize, .ref a_items, .ref a_spare])), (a_tape, .inl (cI, 160, .inl tpf))] [(7, .int 2), (0, .ref m), (1, .int 1), (2, .int a), (3, .int b), (4, .int c), (5, .int d), (6, .int e)] 71 [.int 1]
            refine x_if_ne C dX8_feed_71 (tgt := 77) rfl (fun _ => ?_) (fun q9 => by first | exact absurd q9 (by decide) | exact absurd (by decide) q9)
            refine x_iinc C dX8_feed_77 0 rfl (v := 3) (rfl) (by decide) (lv' := [(7, .int 3), (0, .ref m), (1, .int 1), (2, .int a), (3, .int b), (4, .int c), (5, .int d), (6, .int e)]) rfl ?_
            refine x_goto C dX8_feed_80 (tgt := 15) rfl ?_
            refine x_iload C dX8_feed_15 0 rfl ?_
            refine x_iconst C dX8_feed_17 (v := 5) rfl ?_
            refine x_icmp_ge C dX8_feed_18 (tgt := 83) rfl (fun q9 => absurd q9 (by decide)) (fun _ => ?_)
            refine x_iload C dX8_feed_21 0 rfl ?_
            refine x_if_ne C dX8_feed_23 (tgt := 30) rfl (fun _ => ?_) (fun q9 => by first | exact absurd q9 (by decide) | exact absurd (by decide) q9)
            refine x_iload C dX8_feed_30 0 rfl ?_
            refine x_iconst C dX8_feed_32 (v := 1) rfl ?_
            show X _ _ _ _ 33 _
            refine x_icmp_ne C dX8_feed_33 (tgt := 40) rfl (fun _ => ?_) (fun q9 => by first | exact absurd q9 (by decide) | exact absurd (by decide) q9)
            refine x_iload C dX8_feed_40 0 rfl ?_
            refine x_iconst C dX8_feed_42 (v := 2) rfl ?_
            refine x_icmp_ne C dX8_feed_43 (tgt := 51) rfl (fun _ => ?_) (fun q9 => by first | exact absurd q9 (by decide) | exact absurd (by decide) q9)
            refine x_iload C dX8_feed_51 0 rfl ?_
            refine x_iconst C dX8_feed_53 (v := 3) rfl ?_
            refine x_icmp_ne C dX8_feed_54 (tgt := 62) rfl (fun q9 => absurd q9 (by decide)) (fun _ => ?_)
            refine x_iload C dX8_feed_57 6 rfl ?_
            refine x_goto C dX8_feed_59 (tgt := 64) rfl ?_
            refine x_iconst C dX8_feed_64 (v := 0) rfl ?_
            show X _ _ _ _ 65 _
            refine x_sipush C dX8_feed_65 (v := 255) rfl ?_
            refine x_callS C (As := [.int d, .int 0, .int 255]) (st := []) (wc := []) (wr := [(m, .inr (7, [.ref a_sky, .ref a_kind, .ref a_more, .ref a_strewn, .int (nI tn), .ref a_treeCell, .ref a_treeSort, .ref a_treeLeaves, .int i_raking, .long l_heaps, .int (nI tz), .ref a_tape, .int (nI wr), .int (nI lw), .ref a_code, .ref a_begins, .int i_made, .int i_at, .int i_from, .int i_sort, .int i_value, .int i_open, .ref a_stack, .ref a_dry, .ref a_wet, .ref a_covered, .ref a_hangs, .ref a_off, .int i_fell, .int i_fellToday, .int i_rotten, .int i_raked, .int i_cost, .ref a_dryGo, .ref a_wetGo, .ref a_keptSky, .int i_imaged, .int (nI itn), .int i_oldRaking, .long l_oldHeaps, .int (nI ilw), .ref a_oldSky, .ref a_oldCells, .ref a_sheetSort, .ref a_sheetSize, .ref a_items, .ref a_spare])), (a_tape, .inl (cI, 160, .inl tpf))]) (c_X8_within l dG cI cM cW cS d 0 255 ) rZ0_ok (fun _ _ _ _ => trivial) kS_X8_108 hy_X8_within ⟨Nat.le_of_ble_eq_true rfl, Nat.le_of_ble_eq_true rfl⟩ ⟨Nat.le_of_ble_eq_true rfl, Nat.le_of_ble_eq_true rfl⟩ dX8_feed_68 [] [0, 1] rfl rfl rfl rfl (by decide) rfl (Nat.le_of_ble_eq_true rfl) ?_
            intro v18 w19 h20
            rcases h20 with h20 | h20
            ·
              obtain ⟨rfl, rfl, hf21⟩ := h20
              show X 0 0 [(m, .inr (7, [.ref a_sky, .ref a_kind, .ref a_more, .ref a_strewn, .int (nI tn), .ref a_treeCell, .ref a_treeSort, .ref a_treeLeaves, .int i_raking, .long l_heaps, .int (nI tz), .ref a_tape, .int (nI wr), .int (nI lw), .ref a_code, .ref a_begins, .int i_made, .int i_at, .int i_from, .int i_sort, .int i_value, .int i_open, .ref a_stack, .ref a_dry, .ref a_wet, .ref a_covered, .ref a_hangs, .ref a_off, .int i_fell, .int i_fellToday, .int i_rotten, .int i_raked, .int i_cost, .ref a_dryGo, .ref a_wetGo, .ref a_keptSky, .int i_imaged, .int (nI itn), .int i_oldRaking, .long l_oldHeaps, .int (nI ilw), .ref a_oldSky, .ref a_oldCells, .ref a_sheetSort, .ref a_sheetSize, .ref a_items, .ref a_spare])), (a_tape, .inl (cI, 160, .inl tpf))] [(7, .int 3), (0, .ref m), (1, .int 1), (2, .int a), (3, .int b), (4, .int c), (5, .int d), (6, .int e)] 71 [.int 1]
              refine x_if_ne C dX8_feed_71 (tgt := 77) rfl (fun _ => ?_) (fun q9 => by first | exact absurd q9 (by decide) | exact absurd (by decide) q9)
              refine x_iinc C dX8_feed_77 0 rfl (v := 4) (rfl) (by decide) (lv' := [(7, .int 4), (0, .ref m), (1, .int 1), (2, .int a), (3, .int b), (4, .int c), (5, .int d), (6, .int e)]) rfl ?_
              refine x_goto C dX8_feed_80 (tgt := 15) rfl ?_
              refine x_iload C dX8_feed_15 0 rfl ?_
              refine x_iconst C dX8_feed_17 (v := 5) rfl ?_
              refine x_icmp_ge C dX8_feed_18 (tgt := 83) rfl (fun q9 => absurd q9 (by decide)) (fun _ => ?_)
              refine x_iload C dX8_feed_21 0 rfl ?_
              refine x_if_ne C dX8_feed_23 (tgt := 30) rfl (fun _ => ?_) (fun q9 => by first | exact absurd q9 (by decide) | exact absurd (by decide) q9)
              refine x_iload C dX8_feed_30 0 rfl ?_
              refine x_iconst C dX8_feed_32 (v := 1) rfl ?_
              show X _ _ _ _ 33 _
              refine x_icmp_ne C dX8_feed_33 (tgt := 40) rfl (fun _ => ?_) (fun q9 => by first | exact absurd q9 (by decide) | exact absurd (by decide) q9)
              refine x_iload C dX8_feed_40 0 rfl ?_
              refine x_iconst C dX8_feed_42 (v := 2) rfl ?_
              refine x_icmp_ne C dX8_feed_43 (tgt := 51) rfl (fun _ => ?_) (fun q9 => by first | exact absurd q9 (by decide) | exact absurd (by decide) q9)
              refine x_iload C dX8_feed_51 0 rfl ?_
              refine x_iconst C dX8_feed_53 (v := 3) rfl ?_
              refine x_icmp_ne C dX8_feed_54 (tgt := 62) rfl (fun _ => ?_) (fun q9 => by first | exact absurd q9 (by decide) | exact absurd (by decide) q9)
              refine x_iload C dX8_feed_62 7 rfl ?_
              refine x_iconst C dX8_feed_64 (v := 0) rfl ?_
              refine x_sipush C dX8_feed_65 (v := 255) rfl ?_
              show X _ _ _ _ 68 _
              refine x_callS C (As := [.int e, .int 0, .int 255]) (st := []) (wc := []) (wr := [(m, .inr (7, [.ref a_sky, .ref a_kind, .ref a_more, .ref a_strewn, .int (nI tn), .ref a_treeCell, .ref a_treeSort, .ref a_treeLeaves, .int i_raking, .long l_heaps, .int (nI tz), .ref a_tape, .int (nI wr), .int (nI lw), .ref a_code, .ref a_begins, .int i_made, .int i_at, .int i_from, .int i_sort, .int i_value, .int i_open, .ref a_stack, .ref a_dry, .ref a_wet, .ref a_covered, .ref a_hangs, .ref a_off, .int i_fell, .int i_fellToday, .int i_rotten, .int i_raked, .int i_cost, .ref a_dryGo, .ref a_wetGo, .ref a_keptSky, .int i_imaged, .int (nI itn), .int i_oldRaking, .long l_oldHeaps, .int (nI ilw), .ref a_oldSky, .ref a_oldCells, .ref a_sheetSort, .ref a_sheetSize, .ref a_items, .ref a_spare])), (a_tape, .inl (cI, 160, .inl tpf))]) (c_X8_within l dG cI cM cW cS e 0 255 ) rZ0_ok (fun _ _ _ _ => trivial) kS_X8_108 hy_X8_within ⟨Nat.le_of_ble_eq_true rfl, Nat.le_of_ble_eq_true rfl⟩ ⟨Nat.le_of_ble_eq_true rfl, Nat.le_of_ble_eq_true rfl⟩ dX8_feed_68 [] [0, 1] rfl rfl rfl rfl (by decide) rfl (Nat.le_of_ble_eq_true rfl) ?_
              intro v22 w23 h24
              rcases h24 with h24 | h24
              ·
                obtain ⟨rfl, rfl, hf25⟩ := h24
                show X 0 0 [(m, .inr (7, [.ref a_sky, .ref a_kind, .ref a_more, .ref a_strewn, .int (nI tn), .ref a_treeCell, .ref a_treeSort, .ref a_treeLeaves, .int i_raking, .long l_heaps, .int (nI tz), .ref a_tape, .int (nI wr), .int (nI lw), .ref a_code, .ref a_begins, .int i_made, .int i_at, .int i_from, .int i_sort, .int i_value, .int i_open, .ref a_stack, .ref a_dry, .ref a_wet, .ref a_covered, .ref a_hangs, .ref a_off, .int i_fell, .int i_fellToday, .int i_rotten, .int i_raked, .int i_cost, .ref a_dryGo, .ref a_wetGo, .ref a_keptSky, .int i_imaged, .int (nI itn), .int i_oldRaking, .long l_oldHeaps, .int (nI ilw), .ref a_oldSky, .ref a_oldCells, .ref a_sheetSort, .ref a_sheetSize, .ref a_items, .ref a_spare])), (a_tape, .inl (cI, 160, .inl tpf))] [(7, .int 4), (0, .ref m), (1, .int 1), (2, .int a), (3, .int b), (4, .int c), (5, .int d), (6, .int e)] 71 [.int 1]
                refine x_if_ne C dX8_feed_71 (tgt := 77) rfl (fun _ => ?_) (fun q9 => by first | exact absurd q9 (by decide) | exact absurd (by decide) q9)
                refine x_iinc C dX8_feed_77 0 rfl (v := 5) (rfl) (by decide) (lv' := [(7, .int 5), (0, .ref m), (1, .int 1), (2, .int a), (3, .int b), (4, .int c), (5, .int d), (6, .int e)]) rfl ?_
                refine x_goto C dX8_feed_80 (tgt := 15) rfl ?_
                refine x_iload C dX8_feed_15 0 rfl ?_
                refine x_iconst C dX8_feed_17 (v := 5) rfl ?_
                refine x_icmp_ge C dX8_feed_18 (tgt := 83) rfl (fun _ => ?_) (fun q9 => by first | exact absurd q9 (by decide) | exact absurd (by decide) q9)
                refine x_aload_n C dX8_feed_83 1 rfl ?_
                refine x_get C inlX8 rfl 10 (by decide) gw_11_20 dX8_feed_84 0 rfl rfl ?_
                refine x_iload_n C dX8_feed_87 2 rfl ?_
                refine x_iadd C dX8_feed_88 ?_
                show X _ _ _ _ 89 _
                refine x_sipush C dX8_feed_89 (v := 160) rfl ?_
                refine x_icmp_le C dX8_feed_92 (tgt := 98) rfl (fun c26 => ?_) (fun c26 => ?_)
                ·
                  have c26 : tz + 1 ≤ 160 := q_le_t (q_iadd (a := tz) (b := 1) rfl (rfl : (1 : Int32) = nI 1)) (rfl : (160 : Int32) = nI 160) (by omega) (by omega) c26
                  refine x_iconst C dX8_feed_98 (v := 0) rfl ?_
                  refine x_istore C dX8_feed_99 (by decide) (lv' := [(7, .int 0), (0, .ref m), (1, .int 1), (2, .int a), (3, .int b), (4, .int c), (5, .int d), (6, .int e)]) rfl ?_
                  refine x_iload C dX8_feed_101 0 rfl ?_
                  refine x_iload_n C dX8_feed_103 2 rfl ?_
                  refine x_icmp_ge C dX8_feed_104 (tgt := 172) rfl (fun q9 => absurd q9 (by decide)) (fun _ => ?_)
                  refine x_aload_n C dX8_feed_107 1 rfl ?_
                  refine x_get C inlX8 rfl 11 (by decide) gw_11_1 dX8_feed_108 0 rfl rfl ?_
                  refine x_aload_n C dX8_feed_111 1 rfl ?_
                  refine x_dup C dX8_feed_112 rfl ?_
                  refine x_get C inlX8 rfl 10 (by decide) gw_11_20 dX8_feed_113 0 rfl rfl ?_
                  show X _ _ _ _ 116 _
                  refine x_dup_x1 C dX8_feed_116 rfl rfl ?_
                  refine x_iconst C dX8_feed_117 (v := 1) rfl ?_
                  refine x_iadd C dX8_feed_118 ?_
                  refine x_topi C (nI (tz + 1)) (q_iadd (a := tz) (b := 1) rfl (rfl : (1 : Int32) = nI 1)) ?_
                  refine x_put C inlX8 rfl tyX8 tyX8_ok nmX8 10 (by decide) gw_11_20 rfl dX8_feed_119 0 rfl (rfl) rfl (Nat.le_of_ble_eq_true rfl) ?_
                  show X _ _ [(m, .inr (7, [.ref a_sky, .ref a_kind, .ref a_more, .ref a_strewn, .int (nI tn), .ref a_treeCell, .ref a_treeSort, .ref a_treeLeaves, .int i_raking, .long l_heaps, .int (nI (tz + 1)), .ref a_tape, .int (nI wr), .int (nI lw), .ref a_code, .ref a_begins, .int i_made, .int i_at, .int i_from, .int i_sort, .int i_value, .int i_open, .ref a_stack, .ref a_dry, .ref a_wet, .ref a_covered, .ref a_hangs, .ref a_off, .int i_fell, .int i_fellToday, .int i_rotten, .int i_raked, .int i_cost, .ref a_dryGo, .ref a_wetGo, .ref a_keptSky, .int i_imaged, .int (nI itn), .int i_oldRaking, .long l_oldHeaps, .int (nI ilw), .ref a_oldSky, .ref a_oldCells, .ref a_sheetSort, .ref a_sheetSize, .ref a_items, .ref a_spare])), (a_tape, .inl (cI, 160, .inl tpf))] _ _ _
                  refine x_iload C dX8_feed_122 0 rfl ?_
                  refine x_if_ne C dX8_feed_124 (tgt := 131) rfl (fun q9 => absurd q9 (by decide)) (fun _ => ?_)
                  refine x_iload_n C dX8_feed_127 3 rfl ?_
                  refine x_goto C dX8_feed_128 (tgt := 165) rfl ?_
                  refine x_iastore C 0 rfl dX8_feed_165 tz (q_cl rfl (by omega)) (q_ix rfl (by omega) (by omega)) 1 rfl ?_
                  show X _ _ [(m, .inr (7, [.ref a_sky, .ref a_kind, .ref a_more, .ref a_strewn, .int (nI tn), .ref a_treeCell, .ref a_treeSort, .ref a_treeLeaves, .int i_raking, .long l_heaps, .int (nI (tz + 1)), .ref a_tape, .int (nI wr), .int (nI lw), .ref a_code, .ref a_begins, .int i_made, .int i_at, .int i_from, .int i_sort, .int i_value, .int i_open, .ref a_stack, .ref a_dry, .ref a_wet, .ref a_covered, .ref a_hangs, .ref a_off, .int i_fell, .int i_fellToday, .int i_rotten, .int i_raked, .int i_cost, .ref a_dryGo, .ref a_wetGo, .ref a_keptSky, .int i_imaged, .int (nI itn), .int i_oldRaking, .long l_oldHeaps, .int (nI ilw), .ref a_oldSky, .ref a_oldCells, .ref a_sheetSort, .ref a_sheetSize, .ref a_items, .ref a_spare])), (a_tape, .inl (cI, 160, .inl (upd tpf tz a)))] _ _ _
                  refine x_iinc C dX8_feed_166 0 rfl (v := 1) (rfl) (by decide) (lv' := [(7, .int 1), (0, .ref m), (1, .int 1), (2, .int a), (3, .int b), (4, .int c), (5, .int d), (6, .int e)]) rfl ?_
                  show X _ _ _ _ 169 _
                  refine x_goto C dX8_feed_169 (tgt := 101) rfl ?_
                  refine x_iload C dX8_feed_101 0 rfl ?_
                  refine x_iload_n C dX8_feed_103 2 rfl ?_
                  refine x_icmp_ge C dX8_feed_104 (tgt := 172) rfl (fun _ => ?_) (fun q9 => by first | exact absurd q9 (by decide) | exact absurd (by decide) q9)
                  refine x_aload_n C dX8_feed_172 1 rfl ?_
                  refine x_get C inlX8 rfl 10 (by decide) gw_11_20 dX8_feed_173 0 rfl rfl ?_
                  refine E dX8_feed_176 (rfl) ?_
                  exact ⟨(nI (tz + 1)), (tz + 1), (upd tpf tz a), rfl, rfl, by (unfold o_feed o_feed_n o_feed_f o_fd); (try simp only [hn9]); (repeat (first | rw [if_pos (by first | (rw [if_pos (by decide)]; assumption) | (rw [if_neg (by decide), if_pos (by decide)]; assumption) | (rw [if_neg (by decide), if_neg (by decide)]; assumption) | assumption | decide | omega | exact o_one_t (by assumption) | (rw [o_one_f (by assumption)]; decide) | exact ⟨by assumption, by assumption⟩ | exact fun h9 => absurd h9.1 (by assumption) | exact fun h9 => absurd h9.2 (by assumption))] | rw [if_neg (by first | (rw [if_pos (by decide)]; assumption) | (rw [if_neg (by decide), if_pos (by decide)]; assumption) | (rw [if_neg (by decide), if_neg (by decide)]; assumption) | assumption | decide | omega | exact o_one_t (by assumption) | (rw [o_one_f (by assumption)]; decide) | exact ⟨by assumption, by assumption⟩ | exact fun h9 => absurd h9.1 (by assumption) | exact fun h9 => absurd h9.2 (by assumption))])); all_goals (first | rfl)⟩
                ·
                  have c26 : tz + 1 > 160 := q_le_f (q_iadd (a := tz) (b := 1) rfl (rfl : (1 : Int32) = nI 1)) (rfl : (160 : Int32) = nI 160) (by omega) (by omega) c26
                  refine x_bipush C dX8_feed_95 (v := (-4)) rfl ?_
                  refine E dX8_feed_97 (rfl) ?_
                  exact ⟨(-4), tz, tpf, rfl, rfl, by (unfold o_feed o_feed_n o_feed_f o_fd); (try simp only [hn9]); (repeat (first | rw [if_pos (by first | (rw [if_pos (by decide)]; assumption) | (rw [if_neg (by decide), if_pos (by decide)]; assumption) | (rw [if_neg (by decide), if_neg (by decide)]; assumption) | assumption | decide | omega | exact o_one_t (by assumption) | (rw [o_one_f (by assumption)]; decide) | exact ⟨by assumption, by assumption⟩ | exact fun h9 => absurd h9.1 (by assumption) | exact fun h9 => absurd h9.2 (by assumption))] | rw [if_neg (by first | (rw [if_pos (by decide)]; assumption) | (rw [if_neg (by decide), if_pos (by decide)]; assumption) | (rw [if_neg (by decide), if_neg (by decide)]; assumption) | assumption | decide | omega | exact o_one_t (by assumption) | (rw [o_one_f (by assumption)]; decide) | exact ⟨by assumption, by assumption⟩ | exact fun h9 => absurd h9.1 (by assumption) | exact fun h9 => absurd h9.2 (by assumption))])); all_goals (first | rfl)⟩
              ·
                obtain ⟨rfl, rfl, hf27⟩ := h24
                show X 0 0 [(m, .inr (7, [.ref a_sky, .ref a_kind, .ref a_more, .ref a_strewn, .int (nI tn), .ref a_treeCell, .ref a_treeSort, .ref a_treeLeaves, .int i_raking, .long l_heaps, .int (nI tz), .ref a_tape, .int (nI wr), .int (nI lw), .ref a_code, .ref a_begins, .int i_made, .int i_at, .int i_from, .int i_sort, .int i_value, .int i_open, .ref a_stack, .ref a_dry, .ref a_wet, .ref a_covered, .ref a_hangs, .ref a_off, .int i_fell, .int i_fellToday, .int i_rotten, .int i_raked, .int i_cost, .ref a_dryGo, .ref a_wetGo, .ref a_keptSky, .int i_imaged, .int (nI itn), .int i_oldRaking, .long l_oldHeaps, .int (nI ilw), .ref a_oldSky, .ref a_oldCells, .ref a_sheetSort, .ref a_sheetSize, .ref a_items, .ref a_spare])), (a_tape, .inl (cI, 160, .inl tpf))] [(7, .int 4), (0, .ref m), (1, .int 1), (2, .int a), (3, .int b), (4, .int c), (5, .int d), (6, .int e)] 71 [.int 0]
                refine x_if_ne C dX8_feed_71 (tgt := 77) rfl (fun q9 => absurd q9 (by decide)) (fun _ => ?_)
                refine x_bipush C dX8_feed_74 (v := (-2)) rfl ?_
                refine E dX8_feed_76 (rfl) ?_
                exact ⟨(-2), tz, tpf, rfl, rfl, by (unfold o_feed o_feed_n o_feed_f o_fd); (try simp only [hn9]); (repeat (first | rw [if_pos (by first | (rw [if_pos (by decide)]; assumption) | (rw [if_neg (by decide), if_pos (by decide)]; assumption) | (rw [if_neg (by decide), if_neg (by decide)]; assumption) | assumption | decide | omega | exact o_one_t (by assumption) | (rw [o_one_f (by assumption)]; decide) | exact ⟨by assumption, by assumption⟩ | exact fun h9 => absurd h9.1 (by assumption) | exact fun h9 => absurd h9.2 (by assumption))] | rw [if_neg (by first | (rw [if_pos (by decide)]; assumption) | (rw [if_neg (by decide), if_pos (by decide)]; assumption) | (rw [if_neg (by decide), if_neg (by decide)]; assumption) | assumption | decide | omega | exact o_one_t (by assumption) | (rw [o_one_f (by assumption)]; decide) | exact ⟨by assumption, by assumption⟩ | exact fun h9 => absurd h9.1 (by assumption) | exact fun h9 => absurd h9.2 (by assumption))])); all_goals (first | rfl)⟩
            ·
              obtain ⟨rfl, rfl, hf28⟩ := h20
              show X 0 0 [(m, .inr (7, [.ref a_sky, .ref a_kind, .ref a_more, .ref a_strewn, .int (nI tn), .ref a_treeCell, .ref a_treeSort, .ref a_treeLeaves, .int i_raking, .long l_heaps, .int (nI tz), .ref a_tape, .int (nI wr), .int (nI lw), .ref a_code, .ref a_begins, .int i_made, .int i_at, .int i_from, .int i_sort, .int i_value, .int i_open, .ref a_stack, .ref a_dry, .ref a_wet, .ref a_covered, .ref a_hangs, .ref a_off, .int i_fell, .int i_fellToday, .int i_rotten, .int i_raked, .int i_cost, .ref a_dryGo, .ref a_wetGo, .ref a_keptSky, .int i_imaged, .int (nI itn), .int i_oldRaking, .long l_oldHeaps, .int (nI ilw), .ref a_oldSky, .ref a_oldCells, .ref a_sheetSort, .ref a_sheetSize, .ref a_items, .ref a_spare])), (a_tape, .inl (cI, 160, .inl tpf))] [(7, .int 3), (0, .ref m), (1, .int 1), (2, .int a), (3, .int b), (4, .int c), (5, .int d), (6, .int e)] 71 [.int 0]
              refine x_if_ne C dX8_feed_71 (tgt := 77) rfl (fun q9 => absurd q9 (by decide)) (fun _ => ?_)
              refine x_bipush C dX8_feed_74 (v := (-2)) rfl ?_
              refine E dX8_feed_76 (rfl) ?_
              exact ⟨(-2), tz, tpf, rfl, rfl, by (unfold o_feed o_feed_n o_feed_f o_fd); (try simp only [hn9]); (repeat (first | rw [if_pos (by first | (rw [if_pos (by decide)]; assumption) | (rw [if_neg (by decide), if_pos (by decide)]; assumption) | (rw [if_neg (by decide), if_neg (by decide)]; assumption) | assumption | decide | omega | exact o_one_t (by assumption) | (rw [o_one_f (by assumption)]; decide) | exact ⟨by assumption, by assumption⟩ | exact fun h9 => absurd h9.1 (by assumption) | exact fun h9 => absurd h9.2 (by assumption))] | rw [if_neg (by first | (rw [if_pos (by decide)]; assumption) | (rw [if_neg (by decide), if_pos (by decide)]; assumption) | (rw [if_neg (by decide), if_neg (by decide)]; assumption) | assumption | decide | omega | exact o_one_t (by assumption) | (rw [o_one_f (by assumption)]; decide) | exact ⟨by assumption, by assumption⟩ | exact fun h9 => absurd h9.1 (by assumption) | exact fun h9 => absurd h9.2 (by assumption))])); all_goals (first | rfl)⟩
          ·
            obtain ⟨rfl, rfl, hf29⟩ := h16
            show X 0 0 [(m, .inr (7, [.ref a_sky, .ref a_kind, .ref a_more, .ref a_strewn, .int (nI tn), .ref a_treeCell, .ref a_treeSort, .ref a_treeLeaves, .int i_raking, .long l_heaps, .int (nI tz), .ref a_tape, .int (nI wr), .int (nI lw), .ref a_code, .ref a_begins, .int i_made, .int i_at, .int i_from, .int i_sort, .int i_value, .int i_open, .ref a_stack, .ref a_dry, .ref a_wet, .ref a_covered, .ref a_hangs, .ref a_off, .int i_fell, .int i_fellToday, .int i_rotten, .int i_raked, .int i_cost, .ref a_dryGo, .ref a_wetGo, .ref a_keptSky, .int i_imaged, .int (nI itn), .int i_oldRaking, .long l_oldHeaps, .int (nI ilw), .ref a_oldSky, .ref a_oldCells, .ref a_sheetSort, .ref a_sheetSize, .ref a_items, .ref a_spare])), (a_tape, .inl (cI, 160, .inl tpf))] [(7, .int 2), (0, .ref m), (1, .int 1), (2, .int a), (3, .int b), (4, .int c), (5, .int d), (6, .int e)] 71 [.int 0]
            refine x_if_ne C dX8_feed_71 (tgt := 77) rfl (fun q9 => absurd q9 (by decide)) (fun _ => ?_)
            refine x_bipush C dX8_feed_74 (v := (-2)) rfl ?_
            refine E dX8_feed_76 (rfl) ?_
            exact ⟨(-2), tz, tpf, rfl, rfl, by (unfold o_feed o_feed_n o_feed_f o_fd); (try simp only [hn9]); (repeat (first | rw [if_pos (by first | (rw [if_pos (by decide)]; assumption) | (rw [if_neg (by decide), if_pos (by decide)]; assumption) | (rw [if_neg (by decide), if_neg (by decide)]; assumption) | assumption | decide | omega | exact o_one_t (by assumption) | (rw [o_one_f (by assumption)]; decide) | exact ⟨by assumption, by assumption⟩ | exact fun h9 => absurd h9.1 (by assumption) | exact fun h9 => absurd h9.2 (by assumption))] | rw [if_neg (by first | (rw [if_pos (by decide)]; assumption) | (rw [if_neg (by decide), if_pos (by decide)]; assumption) | (rw [if_neg (by decide), if_neg (by decide)]; assumption) | assumption | decide | omega | exact o_one_t (by assumption) | (rw [o_one_f (by assumption)]; decide) | exact ⟨by assumption, by assumption⟩ | exact fun h9 => absurd h9.1 (by assumption) | exact fun h9 => absurd h9.2 (by assumption))])); all_goals (first | rfl)⟩
        ·
          obtain ⟨rfl, rfl, hf30⟩ := h12
          show X 0 0 [(m, .inr (7, [.ref a_sky, .ref a_kind, .ref a_more, .ref a_strewn, .int (nI tn), .ref a_treeCell, .ref a_treeSort, .ref a_treeLeaves, .int i_raking, .long l_heaps, .int (nI tz), .ref a_tape, .int (nI wr), .int (nI lw), .ref a_code, .ref a_begins, .int i_made, .int i_at, .int i_from, .int i_sort, .int i_value, .int i_open, .ref a_stack, .ref a_dry, .ref a_wet, .ref a_covered, .ref a_hangs, .ref a_off, .int i_fell, .int i_fellToday, .int i_rotten, .int i_raked, .int i_cost, .ref a_dryGo, .ref a_wetGo, .ref a_keptSky, .int i_imaged, .int (nI itn), .int i_oldRaking, .long l_oldHeaps, .int (nI ilw), .ref a_oldSky, .ref a_oldCells, .ref a_sheetSort, .ref a_sheetSize, .ref a_items, .ref a_spare])), (a_tape, .inl (cI, 160, .inl tpf))] [(7, .int 1), (0, .ref m), (1, .int 1), (2, .int a), (3, .int b), (4, .int c), (5, .int d), (6, .int e)] 71 [.int 0]
          refine x_if_ne C dX8_feed_71 (tgt := 77) rfl (fun q9 => absurd q9 (by decide)) (fun _ => ?_)
          refine x_bipush C dX8_feed_74 (v := (-2)) rfl ?_
          refine E dX8_feed_76 (rfl) ?_
          exact ⟨(-2), tz, tpf, rfl, rfl, by (unfold o_feed o_feed_n o_feed_f o_fd); (try simp only [hn9]); (repeat (first | rw [if_pos (by first | (rw [if_pos (by decide)]; assumption) | (rw [if_neg (by decide), if_pos (by decide)]; assumption) | (rw [if_neg (by decide), if_neg (by decide)]; assumption) | assumption | decide | omega | exact o_one_t (by assumption) | (rw [o_one_f (by assumption)]; decide) | exact ⟨by assumption, by assumption⟩ | exact fun h9 => absurd h9.1 (by assumption) | exact fun h9 => absurd h9.2 (by assumption))] | rw [if_neg (by first | (rw [if_pos (by decide)]; assumption) | (rw [if_neg (by decide), if_pos (by decide)]; assumption) | (rw [if_neg (by decide), if_neg (by decide)]; assumption) | assumption | decide | omega | exact o_one_t (by assumption) | (rw [o_one_f (by assumption)]; decide) | exact ⟨by assumption, by assumption⟩ | exact fun h9 => absurd h9.1 (by assumption) | exact fun h9 => absurd h9.2 (by assumption))])); all_goals (first | rfl)⟩
      ·
        obtain ⟨rfl, rfl, hf31⟩ := h8
        show X 0 0 [(m, .inr (7, [.ref a_sky, .ref a_kind, .ref a_more, .ref a_strewn, .int (nI tn), .ref a_treeCell, .ref a_treeSort, .ref a_treeLeaves, .int i_raking, .long l_heaps, .int (nI tz), .ref a_tape, .int (nI wr), .int (nI lw), .ref a_code, .ref a_begins, .int i_made, .int i_at, .int i_from, .int i_sort, .int i_value, .int i_open, .ref a_stack, .ref a_dry, .ref a_wet, .ref a_covered, .ref a_hangs, .ref a_off, .int i_fell, .int i_fellToday, .int i_rotten, .int i_raked, .int i_cost, .ref a_dryGo, .ref a_wetGo, .ref a_keptSky, .int i_imaged, .int (nI itn), .int i_oldRaking, .long l_oldHeaps, .int (nI ilw), .ref a_oldSky, .ref a_oldCells, .ref a_sheetSort, .ref a_sheetSize, .ref a_items, .ref a_spare])), (a_tape, .inl (cI, 160, .inl tpf))] [(7, .int 0), (0, .ref m), (1, .int 1), (2, .int a), (3, .int b), (4, .int c), (5, .int d), (6, .int e)] 71 [.int 0]
        refine x_if_ne C dX8_feed_71 (tgt := 77) rfl (fun q9 => absurd q9 (by decide)) (fun _ => ?_)
        refine x_bipush C dX8_feed_74 (v := (-2)) rfl ?_
        refine E dX8_feed_76 (rfl) ?_
        exact ⟨(-2), tz, tpf, rfl, rfl, by (unfold o_feed o_feed_n o_feed_f o_fd); (try simp only [hn9]); (repeat (first | rw [if_pos (by first | (rw [if_pos (by decide)]; assumption) | (rw [if_neg (by decide), if_pos (by decide)]; assumption) | (rw [if_neg (by decide), if_neg (by decide)]; assumption) | assumption | decide | omega | exact o_one_t (by assumption) | (rw [o_one_f (by assumption)]; decide) | exact ⟨by assumption, by assumption⟩ | exact fun h9 => absurd h9.1 (by assumption) | exact fun h9 => absurd h9.2 (by assumption))] | rw [if_neg (by first | (rw [if_pos (by decide)]; assumption) | (rw [if_neg (by decide), if_pos (by decide)]; assumption) | (rw [if_neg (by decide), if_neg (by decide)]; assumption) | assumption | decide | omega | exact o_one_t (by assumption) | (rw [o_one_f (by assumption)]; decide) | exact ⟨by assumption, by assumption⟩ | exact fun h9 => absurd h9.1 (by assumption) | exact fun h9 => absurd h9.2 (by assumption))])); all_goals (first | rfl)⟩
    ·
      have hn9 : o_n 2 = 2 := rfl
      refine x_if_ne C dX8_feed_6 (tgt := 12) rfl (fun _ => ?_) (fun q9 => by first | exact absurd q9 (by decide) | exact absurd (by decide) q9)
      refine x_iconst C dX8_feed_12 (v := 0) rfl ?_
      refine x_istore C dX8_feed_13 (by decide) (lv' := [(7, .int 0), (0, .ref m), (1, .int 2), (2, .int a), (3, .int b), (4, .int c), (5, .int d), (6, .int e)]) rfl ?_
      refine x_iload C dX8_feed_15 0 rfl ?_
      refine x_iconst C dX8_feed_17 (v := 5) rfl ?_
      refine x_icmp_ge C dX8_feed_18 (tgt := 83) rfl (fun q9 => absurd q9 (by decide)) (fun _ => ?_)
      refine x_iload C dX8_feed_21 0 rfl ?_
      refine x_if_ne C dX8_feed_23 (tgt := 30) rfl (fun q9 => absurd q9 (by decide)) (fun _ => ?_)
      refine x_iload_n C dX8_feed_26 3 rfl ?_
      refine x_goto C dX8_feed_27 (tgt := 64) rfl ?_
      show X _ _ _ _ 64 _
      refine x_iconst C dX8_feed_64 (v := 0) rfl ?_
      refine x_sipush C dX8_feed_65 (v := 255) rfl ?_
      refine x_callS C (As := [.int a, .int 0, .int 255]) (st := []) (wc := []) (wr := [(m, .inr (7, [.ref a_sky, .ref a_kind, .ref a_more, .ref a_strewn, .int (nI tn), .ref a_treeCell, .ref a_treeSort, .ref a_treeLeaves, .int i_raking, .long l_heaps, .int (nI tz), .ref a_tape, .int (nI wr), .int (nI lw), .ref a_code, .ref a_begins, .int i_made, .int i_at, .int i_from, .int i_sort, .int i_value, .int i_open, .ref a_stack, .ref a_dry, .ref a_wet, .ref a_covered, .ref a_hangs, .ref a_off, .int i_fell, .int i_fellToday, .int i_rotten, .int i_raked, .int i_cost, .ref a_dryGo, .ref a_wetGo, .ref a_keptSky, .int i_imaged, .int (nI itn), .int i_oldRaking, .long l_oldHeaps, .int (nI ilw), .ref a_oldSky, .ref a_oldCells, .ref a_sheetSort, .ref a_sheetSize, .ref a_items, .ref a_spare])), (a_tape, .inl (cI, 160, .inl tpf))]) (c_X8_within l dG cI cM cW cS a 0 255 ) rZ0_ok (fun _ _ _ _ => trivial) kS_X8_108 hy_X8_within ⟨Nat.le_of_ble_eq_true rfl, Nat.le_of_ble_eq_true rfl⟩ ⟨Nat.le_of_ble_eq_true rfl, Nat.le_of_ble_eq_true rfl⟩ dX8_feed_68 [] [0, 1] rfl rfl rfl rfl (by decide) rfl (Nat.le_of_ble_eq_true rfl) ?_
      intro v32 w33 h34
      rcases h34 with h34 | h34
      ·
        obtain ⟨rfl, rfl, hf35⟩ := h34
        show X 0 0 [(m, .inr (7, [.ref a_sky, .ref a_kind, .ref a_more, .ref a_strewn, .int (nI tn), .ref a_treeCell, .ref a_treeSort, .ref a_treeLeaves, .int i_raking, .long l_heaps, .int (nI tz), .ref a_tape, .int (nI wr), .int (nI lw), .ref a_code, .ref a_begins, .int i_made, .int i_at, .int i_from, .int i_sort, .int i_value, .int i_open, .ref a_stack, .ref a_dry, .ref a_wet, .ref a_covered, .ref a_hangs, .ref a_off, .int i_fell, .int i_fellToday, .int i_rotten, .int i_raked, .int i_cost, .ref a_dryGo, .ref a_wetGo, .ref a_keptSky, .int i_imaged, .int (nI itn), .int i_oldRaking, .long l_oldHeaps, .int (nI ilw), .ref a_oldSky, .ref a_oldCells, .ref a_sheetSort, .ref a_sheetSize, .ref a_items, .ref a_spare])), (a_tape, .inl (cI, 160, .inl tpf))] [(7, .int 0), (0, .ref m), (1, .int 2), (2, .int a), (3, .int b), (4, .int c), (5, .int d), (6, .int e)] 71 [.int 1]
        refine x_if_ne C dX8_feed_71 (tgt := 77) rfl (fun _ => ?_) (fun q9 => by first | exact absurd q9 (by decide) | exact absurd (by decide) q9)
        refine x_iinc C dX8_feed_77 0 rfl (v := 1) (rfl) (by decide) (lv' := [(7, .int 1), (0, .ref m), (1, .int 2), (2, .int a), (3, .int b), (4, .int c), (5, .int d), (6, .int e)]) rfl ?_
        refine x_goto C dX8_feed_80 (tgt := 15) rfl ?_
        refine x_iload C dX8_feed_15 0 rfl ?_
        refine x_iconst C dX8_feed_17 (v := 5) rfl ?_
        refine x_icmp_ge C dX8_feed_18 (tgt := 83) rfl (fun q9 => absurd q9 (by decide)) (fun _ => ?_)
        refine x_iload C dX8_feed_21 0 rfl ?_
        refine x_if_ne C dX8_feed_23 (tgt := 30) rfl (fun _ => ?_) (fun q9 => by first | exact absurd q9 (by decide) | exact absurd (by decide) q9)
        refine x_iload C dX8_feed_30 0 rfl ?_
        refine x_iconst C dX8_feed_32 (v := 1) rfl ?_
        show X _ _ _ _ 33 _
        refine x_icmp_ne C dX8_feed_33 (tgt := 40) rfl (fun q9 => absurd q9 (by decide)) (fun _ => ?_)
        refine x_iload_n C dX8_feed_36 4 rfl ?_
        refine x_goto C dX8_feed_37 (tgt := 64) rfl ?_
        refine x_iconst C dX8_feed_64 (v := 0) rfl ?_
        refine x_sipush C dX8_feed_65 (v := 255) rfl ?_
        refine x_callS C (As := [.int b, .int 0, .int 255]) (st := []) (wc := []) (wr := [(m, .inr (7, [.ref a_sky, .ref a_kind, .ref a_more, .ref a_strewn, .int (nI tn), .ref a_treeCell, .ref a_treeSort, .ref a_treeLeaves, .int i_raking, .long l_heaps, .int (nI tz), .ref a_tape, .int (nI wr), .int (nI lw), .ref a_code, .ref a_begins, .int i_made, .int i_at, .int i_from, .int i_sort, .int i_value, .int i_open, .ref a_stack, .ref a_dry, .ref a_wet, .ref a_covered, .ref a_hangs, .ref a_off, .int i_fell, .int i_fellToday, .int i_rotten, .int i_raked, .int i_cost, .ref a_dryGo, .ref a_wetGo, .ref a_keptSky, .int i_imaged, .int (nI itn), .int i_oldRaking, .long l_oldHeaps, .int (nI ilw), .ref a_oldSky, .ref a_oldCells, .ref a_sheetSort, .ref a_sheetSize, .ref a_items, .ref a_spare])), (a_tape, .inl (cI, 160, .inl tpf))]) (c_X8_within l dG cI cM cW cS b 0 255 ) rZ0_ok (fun _ _ _ _ => trivial) kS_X8_108 hy_X8_within ⟨Nat.le_of_ble_eq_true rfl, Nat.le_of_ble_eq_true rfl⟩ ⟨Nat.le_of_ble_eq_true rfl, Nat.le_of_ble_eq_true rfl⟩ dX8_feed_68 [] [0, 1] rfl rfl rfl rfl (by decide) rfl (Nat.le_of_ble_eq_true rfl) ?_
        intro v36 w37 h38
        rcases h38 with h38 | h38
        ·
          obtain ⟨rfl, rfl, hf39⟩ := h38
          show X 0 0 [(m, .inr (7, [.ref a_sky, .ref a_kind, .ref a_more, .ref a_strewn, .int (nI tn), .ref a_treeCell, .ref a_treeSort, .ref a_treeLeaves, .int i_raking, .long l_heaps, .int (nI tz), .ref a_tape, .int (nI wr), .int (nI lw), .ref a_code, .ref a_begins, .int i_made, .int i_at, .int i_from, .int i_sort, .int i_value, .int i_open, .ref a_stack, .ref a_dry, .ref a_wet, .ref a_covered, .ref a_hangs, .ref a_off, .int i_fell, .int i_fellToday, .int i_rotten, .int i_raked, .int i_cost, .ref a_dryGo, .ref a_wetGo, .ref a_keptSky, .int i_imaged, .int (nI itn), .int i_oldRaking, .long l_oldHeaps, .int (nI ilw), .ref a_oldSky, .ref a_oldCells, .ref a_sheetSort, .ref a_sheetSize, .ref a_items, .ref a_spare])), (a_tape, .inl (cI, 160, .inl tpf))] [(7, .int 1), (0, .ref m), (1, .int 2), (2, .int a), (3, .int b), (4, .int c), (5, .int d), (6, .int e)] 71 [.int 1]
          refine x_if_ne C dX8_feed_71 (tgt := 77) rfl (fun _ => ?_) (fun q9 => by first | exact absurd q9 (by decide) | exact absurd (by decide) q9)
          refine x_iinc C dX8_feed_77 0 rfl (v := 2) (rfl) (by decide) (lv' := [(7, .int 2), (0, .ref m), (1, .int 2), (2, .int a), (3, .int b), (4, .int c), (5, .int d), (6, .int e)]) rfl ?_
          refine x_goto C dX8_feed_80 (tgt := 15) rfl ?_
          refine x_iload C dX8_feed_15 0 rfl ?_
          refine x_iconst C dX8_feed_17 (v := 5) rfl ?_
          refine x_icmp_ge C dX8_feed_18 (tgt := 83) rfl (fun q9 => absurd q9 (by decide)) (fun _ => ?_)
          refine x_iload C dX8_feed_21 0 rfl ?_
          refine x_if_ne C dX8_feed_23 (tgt := 30) rfl (fun _ => ?_) (fun q9 => by first | exact absurd q9 (by decide) | exact absurd (by decide) q9)
          refine x_iload C dX8_feed_30 0 rfl ?_
          refine x_iconst C dX8_feed_32 (v := 1) rfl ?_
          show X _ _ _ _ 33 _
          refine x_icmp_ne C dX8_feed_33 (tgt := 40) rfl (fun _ => ?_) (fun q9 => by first | exact absurd q9 (by decide) | exact absurd (by decide) q9)
          refine x_iload C dX8_feed_40 0 rfl ?_
          refine x_iconst C dX8_feed_42 (v := 2) rfl ?_
          refine x_icmp_ne C dX8_feed_43 (tgt := 51) rfl (fun q9 => absurd q9 (by decide)) (fun _ => ?_)
          refine x_iload C dX8_feed_46 5 rfl ?_
          refine x_goto C dX8_feed_48 (tgt := 64) rfl ?_
          refine x_iconst C dX8_feed_64 (v := 0) rfl ?_
          refine x_sipush C dX8_feed_65 (v := 255) rfl ?_
          refine x_callS C (As := [.int c, .int 0, .int 255]) (st := []) (wc := []) (wr := [(m, .inr (7, [.ref a_sky, .ref a_kind, .ref a_more, .ref a_strewn, .int (nI tn), .ref a_treeCell, .ref a_treeSort, .ref a_treeLeaves, .int i_raking, .long l_heaps, .int (nI tz), .ref a_tape, .int (nI wr), .int (nI lw), .ref a_code, .ref a_begins, .int i_made, .int i_at, .int i_from, .int i_sort, .int i_value, .int i_open, .ref a_stack, .ref a_dry, .ref a_wet, .ref a_covered, .ref a_hangs, .ref a_off, .int i_fell, .int i_fellToday, .int i_rotten, .int i_raked, .int i_cost, .ref a_dryGo, .ref a_wetGo, .ref a_keptSky, .int i_imaged, .int (nI itn), .int i_oldRaking, .long l_oldHeaps, .int (nI ilw), .ref a_oldSky, .ref a_oldCells, .ref a_sheetSort, .ref a_sheetSize, .ref a_items, .ref a_spare])), (a_tape, .inl (cI, 160, .inl tpf))]) (c_X8_within l dG cI cM cW cS c 0 255 ) rZ0_ok (fun _ _ _ _ => trivial) kS_X8_108 hy_X8_within ⟨Nat.le_of_ble_eq_true rfl, Nat.le_of_ble_eq_true rfl⟩ ⟨Nat.le_of_ble_eq_true rfl, Nat.le_of_ble_eq_true rfl⟩ dX8_feed_68 [] [0, 1] rfl rfl rfl rfl (by decide) rfl (Nat.le_of_ble_eq_true rfl) ?_
          intro v40 w41 h42
          rcases h42 with h42 | h42
          ·
            obtain ⟨rfl, rfl, hf43⟩ := h42
            show X 0 0 [(m, .inr (7, [.ref a_sky, .ref a_kind, .ref a_more, .ref a_strewn, .int (nI tn), .ref a_treeCell, .ref a_treeSort, .ref a_treeLeaves, .int i_raking, .long l_heaps, .int (nI tz), .ref a_tape, .int (nI wr), .int (nI lw), .ref a_code, .ref a_begins, .int i_made, .int i_at, .int i_from, .int i_sort, .int i_value, .int i_open, .ref a_stack, .ref a_dry, .ref a_wet, .ref a_covered, .ref a_hangs, .ref a_off, .int i_fell, .int i_fellToday, .int i_rotten, .int i_raked, .int i_cost, .ref a_dryGo, .ref a_wetGo, .ref a_keptSky, .int i_imaged, .int (nI itn), .int i_oldRaking, .long l_oldHeaps, .int (nI ilw), .ref a_oldSky, .ref a_oldCells, .ref a_sheetSort, .ref a_sheetSize, .ref a_items, .ref a_spare])), (a_tape, .inl (cI, 160, .inl tpf))] [(7, .int 2), (0, .ref m), (1, .int 2), (2, .int a), (3, .int b), (4, .int c), (5, .int d), (6, .int e)] 71 [.int 1]
            refine x_if_ne C dX8_feed_71 (tgt := 77) rfl (fun _ => ?_) (fun q9 => by first | exact absurd q9 (by decide) | exact absurd (by decide) q9)
            refine x_iinc C dX8_feed_77 0 rfl (v := 3) (rfl) (by decide) (lv' := [(7, .int 3), (0, .ref m), (1, .int 2), (2, .int a), (3, .int b), (4, .int c), (5, .int d), (6, .int e)]) rfl ?_
            refine x_goto C dX8_feed_80 (tgt := 15) rfl ?_
            refine x_iload C dX8_feed_15 0 rfl ?_
            refine x_iconst C dX8_feed_17 (v := 5) rfl ?_
            refine x_icmp_ge C dX8_feed_18 (tgt := 83) rfl (fun q9 => absurd q9 (by decide)) (fun _ => ?_)
            refine x_iload C dX8_feed_21 0 rfl ?_
            refine x_if_ne C dX8_feed_23 (tgt := 30) rfl (fun _ => ?_) (fun q9 => by first | exact absurd q9 (by decide) | exact absurd (by decide) q9)
            refine x_iload C dX8_feed_30 0 rfl ?_
            refine x_iconst C dX8_feed_32 (v := 1) rfl ?_
            show X _ _ _ _ 33 _
            refine x_icmp_ne C dX8_feed_33 (tgt := 40) rfl (fun _ => ?_) (fun q9 => by first | exact absurd q9 (by decide) | exact absurd (by decide) q9)
            refine x_iload C dX8_feed_40 0 rfl ?_
            refine x_iconst C dX8_feed_42 (v := 2) rfl ?_
            refine x_icmp_ne C dX8_feed_43 (tgt := 51) rfl (fun _ => ?_) (fun q9 => by first | exact absurd q9 (by decide) | exact absurd (by decide) q9)
            refine x_iload C dX8_feed_51 0 rfl ?_
            refine x_iconst C dX8_feed_53 (v := 3) rfl ?_
            refine x_icmp_ne C dX8_feed_54 (tgt := 62) rfl (fun q9 => absurd q9 (by decide)) (fun _ => ?_)
            refine x_iload C dX8_feed_57 6 rfl ?_
            refine x_goto C dX8_feed_59 (tgt := 64) rfl ?_
            refine x_iconst C dX8_feed_64 (v := 0) rfl ?_
            show X _ _ _ _ 65 _
            refine x_sipush C dX8_feed_65 (v := 255) rfl ?_
            refine x_callS C (As := [.int d, .int 0, .int 255]) (st := []) (wc := []) (wr := [(m, .inr (7, [.ref a_sky, .ref a_kind, .ref a_more, .ref a_strewn, .int (nI tn), .ref a_treeCell, .ref a_treeSort, .ref a_treeLeaves, .int i_raking, .long l_heaps, .int (nI tz), .ref a_tape, .int (nI wr), .int (nI lw), .ref a_code, .ref a_begins, .int i_made, .int i_at, .int i_from, .int i_sort, .int i_value, .int i_open, .ref a_stack, .ref a_dry, .ref a_wet, .ref a_covered, .ref a_hangs, .ref a_off, .int i_fell, .int i_fellToday, .int i_rotten, .int i_raked, .int i_cost, .ref a_dryGo, .ref a_wetGo, .ref a_keptSky, .int i_imaged, .int (nI itn), .int i_oldRaking, .long l_oldHeaps, .int (nI ilw), .ref a_oldSky, .ref a_oldCells, .ref a_sheetSort, .ref a_sheetSize, .ref a_items, .ref a_spare])), (a_tape, .inl (cI, 160, .inl tpf))]) (c_X8_within l dG cI cM cW cS d 0 255 ) rZ0_ok (fun _ _ _ _ => trivial) kS_X8_108 hy_X8_within ⟨Nat.le_of_ble_eq_true rfl, Nat.le_of_ble_eq_true rfl⟩ ⟨Nat.le_of_ble_eq_true rfl, Nat.le_of_ble_eq_true rfl⟩ dX8_feed_68 [] [0, 1] rfl rfl rfl rfl (by decide) rfl (Nat.le_of_ble_eq_true rfl) ?_
            intro v44 w45 h46
            rcases h46 with h46 | h46
            ·
              obtain ⟨rfl, rfl, hf47⟩ := h46
              show X 0 0 [(m, .inr (7, [.ref a_sky, .ref a_kind, .ref a_more, .ref a_strewn, .int (nI tn), .ref a_treeCell, .ref a_treeSort, .ref a_treeLeaves, .int i_raking, .long l_heaps, .int (nI tz), .ref a_tape, .int (nI wr), .int (nI lw), .ref a_code, .ref a_begins, .int i_made, .int i_at, .int i_from, .int i_sort, .int i_value, .int i_open, .ref a_stack, .ref a_dry, .ref a_wet, .ref a_covered, .ref a_hangs, .ref a_off, .int i_fell, .int i_fellToday, .int i_rotten, .int i_raked, .int i_cost, .ref a_dryGo, .ref a_wetGo, .ref a_keptSky, .int i_imaged, .int (nI itn), .int i_oldRaking, .long l_oldHeaps, .int (nI ilw), .ref a_oldSky, .ref a_oldCells, .ref a_sheetSort, .ref a_sheetSize, .ref a_items, .ref a_spare])), (a_tape, .inl (cI, 160, .inl tpf))] [(7, .int 3), (0, .ref m), (1, .int 2), (2, .int a), (3, .int b), (4, .int c), (5, .int d), (6, .int e)] 71 [.int 1]
              refine x_if_ne C dX8_feed_71 (tgt := 77) rfl (fun _ => ?_) (fun q9 => by first | exact absurd q9 (by decide) | exact absurd (by decide) q9)
              refine x_iinc C dX8_feed_77 0 rfl (v := 4) (rfl) (by decide) (lv' := [(7, .int 4), (0, .ref m), (1, .int 2), (2, .int a), (3, .int b), (4, .int c), (5, .int d), (6, .int e)]) rfl ?_
              refine x_goto C dX8_feed_80 (tgt := 15) rfl ?_
              refine x_iload C dX8_feed_15 0 rfl ?_
              refine x_iconst C dX8_feed_17 (v := 5) rfl ?_
              refine x_icmp_ge C dX8_feed_18 (tgt := 83) rfl (fun q9 => absurd q9 (by decide)) (fun _ => ?_)
              refine x_iload C dX8_feed_21 0 rfl ?_
              refine x_if_ne C dX8_feed_23 (tgt := 30) rfl (fun _ => ?_) (fun q9 => by first | exact absurd q9 (by decide) | exact absurd (by decide) q9)
              refine x_iload C dX8_feed_30 0 rfl ?_
              refine x_iconst C dX8_feed_32 (v := 1) rfl ?_
              show X _ _ _ _ 33 _
              refine x_icmp_ne C dX8_feed_33 (tgt := 40) rfl (fun _ => ?_) (fun q9 => by first | exact absurd q9 (by decide) | exact absurd (by decide) q9)
              refine x_iload C dX8_feed_40 0 rfl ?_
              refine x_iconst C dX8_feed_42 (v := 2) rfl ?_
              refine x_icmp_ne C dX8_feed_43 (tgt := 51) rfl (fun _ => ?_) (fun q9 => by first | exact absurd q9 (by decide) | exact absurd (by decide) q9)
              refine x_iload C dX8_feed_51 0 rfl ?_
              refine x_iconst C dX8_feed_53 (v := 3) rfl ?_
              refine x_icmp_ne C dX8_feed_54 (tgt := 62) rfl (fun _ => ?_) (fun q9 => by first | exact absurd q9 (by decide) | exact absurd (by decide) q9)
              refine x_iload C dX8_feed_62 7 rfl ?_
              refine x_iconst C dX8_feed_64 (v := 0) rfl ?_
              refine x_sipush C dX8_feed_65 (v := 255) rfl ?_
              show X _ _ _ _ 68 _
              refine x_callS C (As := [.int e, .int 0, .int 255]) (st := []) (wc := []) (wr := [(m, .inr (7, [.ref a_sky, .ref a_kind, .ref a_more, .ref a_strewn, .int (nI tn), .ref a_treeCell, .ref a_treeSort, .ref a_treeLeaves, .int i_raking, .long l_heaps, .int (nI tz), .ref a_tape, .int (nI wr), .int (nI lw), .ref a_code, .ref a_begins, .int i_made, .int i_at, .int i_from, .int i_sort, .int i_value, .int i_open, .ref a_stack, .ref a_dry, .ref a_wet, .ref a_covered, .ref a_hangs, .ref a_off, .int i_fell, .int i_fellToday, .int i_rotten, .int i_raked, .int i_cost, .ref a_dryGo, .ref a_wetGo, .ref a_keptSky, .int i_imaged, .int (nI itn), .int i_oldRaking, .long l_oldHeaps, .int (nI ilw), .ref a_oldSky, .ref a_oldCells, .ref a_sheetSort, .ref a_sheetSize, .ref a_items, .ref a_spare])), (a_tape, .inl (cI, 160, .inl tpf))]) (c_X8_within l dG cI cM cW cS e 0 255 ) rZ0_ok (fun _ _ _ _ => trivial) kS_X8_108 hy_X8_within ⟨Nat.le_of_ble_eq_true rfl, Nat.le_of_ble_eq_true rfl⟩ ⟨Nat.le_of_ble_eq_true rfl, Nat.le_of_ble_eq_true rfl⟩ dX8_feed_68 [] [0, 1] rfl rfl rfl rfl (by decide) rfl (Nat.le_of_ble_eq_true rfl) ?_
              intro v48 w49 h50
              rcases h50 with h50 | h50
              ·
                obtain ⟨rfl, rfl, hf51⟩ := h50
                show X 0 0 [(m, .inr (7, [.ref a_sky, .ref a_kind, .ref a_more, .ref a_strewn, .int (nI tn), .ref a_treeCell, .ref a_treeSort, .ref a_treeLeaves, .int i_raking, .long l_heaps, .int (nI tz), .ref a_tape, .int (nI wr), .int (nI lw), .ref a_code, .ref a_begins, .int i_made, .int i_at, .int i_from, .int i_sort, .int i_value, .int i_open, .ref a_stack, .ref a_dry, .ref a_wet, .ref a_covered, .ref a_hangs, .ref a_off, .int i_fell, .int i_fellToday, .int i_rotten, .int i_raked, .int i_cost, .ref a_dryGo, .ref a_wetGo, .ref a_keptSky, .int i_imaged, .int (nI itn), .int i_oldRaking, .long l_oldHeaps, .int (nI ilw), .ref a_oldSky, .ref a_oldCells, .ref a_sheetSort, .ref a_sheetSize, .ref a_items, .ref a_spare])), (a_tape, .inl (cI, 160, .inl tpf))] [(7, .int 4), (0, .ref m), (1, .int 2), (2, .int a), (3, .int b), (4, .int c), (5, .int d), (6, .int e)] 71 [.int 1]
                refine x_if_ne C dX8_feed_71 (tgt := 77) rfl (fun _ => ?_) (fun q9 => by first | exact absurd q9 (by decide) | exact absurd (by decide) q9)
                refine x_iinc C dX8_feed_77 0 rfl (v := 5) (rfl) (by decide) (lv' := [(7, .int 5), (0, .ref m), (1, .int 2), (2, .int a), (3, .int b), (4, .int c), (5, .int d), (6, .int e)]) rfl ?_
                refine x_goto C dX8_feed_80 (tgt := 15) rfl ?_
                refine x_iload C dX8_feed_15 0 rfl ?_
                refine x_iconst C dX8_feed_17 (v := 5) rfl ?_
                refine x_icmp_ge C dX8_feed_18 (tgt := 83) rfl (fun _ => ?_) (fun q9 => by first | exact absurd q9 (by decide) | exact absurd (by decide) q9)
                refine x_aload_n C dX8_feed_83 1 rfl ?_
                refine x_get C inlX8 rfl 10 (by decide) gw_11_20 dX8_feed_84 0 rfl rfl ?_
                refine x_iload_n C dX8_feed_87 2 rfl ?_
                refine x_iadd C dX8_feed_88 ?_
                show X _ _ _ _ 89 _
                refine x_sipush C dX8_feed_89 (v := 160) rfl ?_
                refine x_icmp_le C dX8_feed_92 (tgt := 98) rfl (fun c52 => ?_) (fun c52 => ?_)
                ·
                  have c52 : tz + 2 ≤ 160 := q_le_t (q_iadd (a := tz) (b := 2) rfl (rfl : (2 : Int32) = nI 2)) (rfl : (160 : Int32) = nI 160) (by omega) (by omega) c52
                  refine x_iconst C dX8_feed_98 (v := 0) rfl ?_
                  refine x_istore C dX8_feed_99 (by decide) (lv' := [(7, .int 0), (0, .ref m), (1, .int 2), (2, .int a), (3, .int b), (4, .int c), (5, .int d), (6, .int e)]) rfl ?_
                  refine x_iload C dX8_feed_101 0 rfl ?_
                  refine x_iload_n C dX8_feed_103 2 rfl ?_
                  refine x_icmp_ge C dX8_feed_104 (tgt := 172) rfl (fun q9 => absurd q9 (by decide)) (fun _ => ?_)
                  refine x_aload_n C dX8_feed_107 1 rfl ?_
                  refine x_get C inlX8 rfl 11 (by decide) gw_11_1 dX8_feed_108 0 rfl rfl ?_
                  refine x_aload_n C dX8_feed_111 1 rfl ?_
                  refine x_dup C dX8_feed_112 rfl ?_
                  refine x_get C inlX8 rfl 10 (by decide) gw_11_20 dX8_feed_113 0 rfl rfl ?_
                  show X _ _ _ _ 116 _
                  refine x_dup_x1 C dX8_feed_116 rfl rfl ?_
                  refine x_iconst C dX8_feed_117 (v := 1) rfl ?_
                  refine x_iadd C dX8_feed_118 ?_
                  refine x_topi C (nI (tz + 1)) (q_iadd (a := tz) (b := 1) rfl (rfl : (1 : Int32) = nI 1)) ?_
                  refine x_put C inlX8 rfl tyX8 tyX8_ok nmX8 10 (by decide) gw_11_20 rfl dX8_feed_119 0 rfl (rfl) rfl (Nat.le_of_ble_eq_true rfl) ?_
                  show X _ _ [(m, .inr (7, [.ref a_sky, .ref a_kind, .ref a_more, .ref a_strewn, .int (nI tn), .ref a_treeCell, .ref a_treeSort, .ref a_treeLeaves, .int i_raking, .long l_heaps, .int (nI (tz + 1)), .ref a_tape, .int (nI wr), .int (nI lw), .ref a_code, .ref a_begins, .int i_made, .int i_at, .int i_from, .int i_sort, .int i_value, .int i_open, .ref a_stack, .ref a_dry, .ref a_wet, .ref a_covered, .ref a_hangs, .ref a_off, .int i_fell, .int i_fellToday, .int i_rotten, .int i_raked, .int i_cost, .ref a_dryGo, .ref a_wetGo, .ref a_keptSky, .int i_imaged, .int (nI itn), .int i_oldRaking, .long l_oldHeaps, .int (nI ilw), .ref a_oldSky, .ref a_oldCells, .ref a_sheetSort, .ref a_sheetSize, .ref a_items, .ref a_spare])), (a_tape, .inl (cI, 160, .inl tpf))] _ _ _
                  refine x_iload C dX8_feed_122 0 rfl ?_
                  refine x_if_ne C dX8_feed_124 (tgt := 131) rfl (fun q9 => absurd q9 (by decide)) (fun _ => ?_)
                  refine x_iload_n C dX8_feed_127 3 rfl ?_
                  refine x_goto C dX8_feed_128 (tgt := 165) rfl ?_
                  refine x_iastore C 0 rfl dX8_feed_165 tz (q_cl rfl (by omega)) (q_ix rfl (by omega) (by omega)) 1 rfl ?_
                  show X _ _ [(m, .inr (7, [.ref a_sky, .ref a_kind, .ref a_more, .ref a_strewn, .int (nI tn), .ref a_treeCell, .ref a_treeSort, .ref a_treeLeaves, .int i_raking, .long l_heaps, .int (nI (tz + 1)), .ref a_tape, .int (nI wr), .int (nI lw), .ref a_code, .ref a_begins, .int i_made, .int i_at, .int i_from, .int i_sort, .int i_value, .int i_open, .ref a_stack, .ref a_dry, .ref a_wet, .ref a_covered, .ref a_hangs, .ref a_off, .int i_fell, .int i_fellToday, .int i_rotten, .int i_raked, .int i_cost, .ref a_dryGo, .ref a_wetGo, .ref a_keptSky, .int i_imaged, .int (nI itn), .int i_oldRaking, .long l_oldHeaps, .int (nI ilw), .ref a_oldSky, .ref a_oldCells, .ref a_sheetSort, .ref a_sheetSize, .ref a_items, .ref a_spare])), (a_tape, .inl (cI, 160, .inl (upd tpf tz a)))] _ _ _
                  refine x_iinc C dX8_feed_166 0 rfl (v := 1) (rfl) (by decide) (lv' := [(7, .int 1), (0, .ref m), (1, .int 2), (2, .int a), (3, .int b), (4, .int c), (5, .int d), (6, .int e)]) rfl ?_
                  show X _ _ _ _ 169 _
                  refine x_goto C dX8_feed_169 (tgt := 101) rfl ?_
                  refine x_iload C dX8_feed_101 0 rfl ?_
                  refine x_iload_n C dX8_feed_103 2 rfl ?_
                  refine x_icmp_ge C dX8_feed_104 (tgt := 172) rfl (fun q9 => absurd q9 (by decide)) (fun _ => ?_)
                  refine x_aload_n C dX8_feed_107 1 rfl ?_
                  refine x_get C inlX8 rfl 11 (by decide) gw_11_1 dX8_feed_108 0 rfl rfl ?_
                  refine x_aload_n C dX8_feed_111 1 rfl ?_
                  refine x_dup C dX8_feed_112 rfl ?_
                  refine x_get C inlX8 rfl 10 (by decide) gw_11_20 dX8_feed_113 0 rfl rfl ?_
                  refine x_dup_x1 C dX8_feed_116 rfl rfl ?_
                  show X _ _ _ _ 117 _
                  refine x_iconst C dX8_feed_117 (v := 1) rfl ?_
                  refine x_iadd C dX8_feed_118 ?_
                  refine x_topi C (nI ((tz + 1) + 1)) (q_iadd (a := tz + 1) (b := 1) rfl (rfl : (1 : Int32) = nI 1)) ?_
                  refine x_put C inlX8 rfl tyX8 tyX8_ok nmX8 10 (by decide) gw_11_20 rfl dX8_feed_119 0 rfl (rfl) rfl (Nat.le_of_ble_eq_true rfl) ?_
                  show X _ _ [(m, .inr (7, [.ref a_sky, .ref a_kind, .ref a_more, .ref a_strewn, .int (nI tn), .ref a_treeCell, .ref a_treeSort, .ref a_treeLeaves, .int i_raking, .long l_heaps, .int (nI ((tz + 1) + 1)), .ref a_tape, .int (nI wr), .int (nI lw), .ref a_code, .ref a_begins, .int i_made, .int i_at, .int i_from, .int i_sort, .int i_value, .int i_open, .ref a_stack, .ref a_dry, .ref a_wet, .ref a_covered, .ref a_hangs, .ref a_off, .int i_fell, .int i_fellToday, .int i_rotten, .int i_raked, .int i_cost, .ref a_dryGo, .ref a_wetGo, .ref a_keptSky, .int i_imaged, .int (nI itn), .int i_oldRaking, .long l_oldHeaps, .int (nI ilw), .ref a_oldSky, .ref a_oldCells, .ref a_sheetSort, .ref a_sheetSize, .ref a_items, .ref a_spare])), (a_tape, .inl (cI, 160, .inl (upd tpf tz a)))] _ _ _
                  refine x_iload C dX8_feed_122 0 rfl ?_
                  refine x_if_ne C dX8_feed_124 (tgt := 131) rfl (fun _ => ?_) (fun q9 => by first | exact absurd q9 (by decide) | exact absurd (by decide) q9)
                  refine x_iload C dX8_feed_131 0 rfl ?_
                  refine x_iconst C dX8_feed_133 (v := 1) rfl ?_
                  refine x_icmp_ne C dX8_feed_134 (tgt := 141) rfl (fun q9 => absurd q9 (by decide)) (fun _ => ?_)
                  refine x_iload_n C dX8_feed_137 4 rfl ?_
                  refine x_goto C dX8_feed_138 (tgt := 165) rfl ?_
                  show X _ _ _ _ 165 _
                  refine x_iastore C 0 rfl dX8_feed_165 (tz + 1) (q_cl rfl (by omega)) (q_ix rfl (by omega) (by omega)) 1 rfl ?_
                  show X _ _ [(m, .inr (7, [.ref a_sky, .ref a_kind, .ref a_more, .ref a_strewn, .int (nI tn), .ref a_treeCell, .ref a_treeSort, .ref a_treeLeaves, .int i_raking, .long l_heaps, .int (nI ((tz + 1) + 1)), .ref a_tape, .int (nI wr), .int (nI lw), .ref a_code, .ref a_begins, .int i_made, .int i_at, .int i_from, .int i_sort, .int i_value, .int i_open, .ref a_stack, .ref a_dry, .ref a_wet, .ref a_covered, .ref a_hangs, .ref a_off, .int i_fell, .int i_fellToday, .int i_rotten, .int i_raked, .int i_cost, .ref a_dryGo, .ref a_wetGo, .ref a_keptSky, .int i_imaged, .int (nI itn), .int i_oldRaking, .long l_oldHeaps, .int (nI ilw), .ref a_oldSky, .ref a_oldCells, .ref a_sheetSort, .ref a_sheetSize, .ref a_items, .ref a_spare])), (a_tape, .inl (cI, 160, .inl (upd (upd tpf tz a) (tz + 1) b)))] _ _ _
                  refine x_iinc C dX8_feed_166 0 rfl (v := 2) (rfl) (by decide) (lv' := [(7, .int 2), (0, .ref m), (1, .int 2), (2, .int a), (3, .int b), (4, .int c), (5, .int d), (6, .int e)]) rfl ?_
                  refine x_goto C dX8_feed_169 (tgt := 101) rfl ?_
                  refine x_iload C dX8_feed_101 0 rfl ?_
                  refine x_iload_n C dX8_feed_103 2 rfl ?_
                  refine x_icmp_ge C dX8_feed_104 (tgt := 172) rfl (fun _ => ?_) (fun q9 => by first | exact absurd q9 (by decide) | exact absurd (by decide) q9)
                  refine x_aload_n C dX8_feed_172 1 rfl ?_
                  refine x_get C inlX8 rfl 10 (by decide) gw_11_20 dX8_feed_173 0 rfl rfl ?_
                  refine E dX8_feed_176 (rfl) ?_
                  exact ⟨(nI ((tz + 1) + 1)), ((tz + 1) + 1), (upd (upd tpf tz a) (tz + 1) b), rfl, rfl, by (unfold o_feed o_feed_n o_feed_f o_fd); (try simp only [hn9]); (repeat (first | rw [if_pos (by first | (rw [if_pos (by decide)]; assumption) | (rw [if_neg (by decide), if_pos (by decide)]; assumption) | (rw [if_neg (by decide), if_neg (by decide)]; assumption) | assumption | decide | omega | exact o_one_t (by assumption) | (rw [o_one_f (by assumption)]; decide) | exact ⟨by assumption, by assumption⟩ | exact fun h9 => absurd h9.1 (by assumption) | exact fun h9 => absurd h9.2 (by assumption))] | rw [if_neg (by first | (rw [if_pos (by decide)]; assumption) | (rw [if_neg (by decide), if_pos (by decide)]; assumption) | (rw [if_neg (by decide), if_neg (by decide)]; assumption) | assumption | decide | omega | exact o_one_t (by assumption) | (rw [o_one_f (by assumption)]; decide) | exact ⟨by assumption, by assumption⟩ | exact fun h9 => absurd h9.1 (by assumption) | exact fun h9 => absurd h9.2 (by assumption))])); all_goals (first | rfl)⟩
                ·
                  have c52 : tz + 2 > 160 := q_le_f (q_iadd (a := tz) (b := 2) rfl (rfl : (2 : Int32) = nI 2)) (rfl : (160 : Int32) = nI 160) (by omega) (by omega) c52
                  refine x_bipush C dX8_feed_95 (v := (-4)) rfl ?_
                  refine E dX8_feed_97 (rfl) ?_
                  exact ⟨(-4), tz, tpf, rfl, rfl, by (unfold o_feed o_feed_n o_feed_f o_fd); (try simp only [hn9]); (repeat (first | rw [if_pos (by first | (rw [if_pos (by decide)]; assumption) | (rw [if_neg (by decide), if_pos (by decide)]; assumption) | (rw [if_neg (by decide), if_neg (by decide)]; assumption) | assumption | decide | omega | exact o_one_t (by assumption) | (rw [o_one_f (by assumption)]; decide) | exact ⟨by assumption, by assumption⟩ | exact fun h9 => absurd h9.1 (by assumption) | exact fun h9 => absurd h9.2 (by assumption))] | rw [if_neg (by first | (rw [if_pos (by decide)]; assumption) | (rw [if_neg (by decide), if_pos (by decide)]; assumption) | (rw [if_neg (by decide), if_neg (by decide)]; assumption) | assumption | decide | omega | exact o_one_t (by assumption) | (rw [o_one_f (by assumption)]; decide) | exact ⟨by assumption, by assumption⟩ | exact fun h9 => absurd h9.1 (by assumption) | exact fun h9 => absurd h9.2 (by assumption))])); all_goals (first | rfl)⟩
              ·
                obtain ⟨rfl, rfl, hf53⟩ := h50
                show X 0 0 [(m, .inr (7, [.ref a_sky, .ref a_kind, .ref a_more, .ref a_strewn, .int (nI tn), .ref a_treeCell, .ref a_treeSort, .ref a_treeLeaves, .int i_raking, .long l_heaps, .int (nI tz), .ref a_tape, .int (nI wr), .int (nI lw), .ref a_code, .ref a_begins, .int i_made, .int i_at, .int i_from, .int i_sort, .int i_value, .int i_open, .ref a_stack, .ref a_dry, .ref a_wet, .ref a_covered, .ref a_hangs, .ref a_off, .int i_fell, .int i_fellToday, .int i_rotten, .int i_raked, .int i_cost, .ref a_dryGo, .ref a_wetGo, .ref a_keptSky, .int i_imaged, .int (nI itn), .int i_oldRaking, .long l_oldHeaps, .int (nI ilw), .ref a_oldSky, .ref a_oldCells, .ref a_sheetSort, .ref a_sheetSize, .ref a_items, .ref a_spare])), (a_tape, .inl (cI, 160, .inl tpf))] [(7, .int 4), (0, .ref m), (1, .int 2), (2, .int a), (3, .int b), (4, .int c), (5, .int d), (6, .int e)] 71 [.int 0]
                refine x_if_ne C dX8_feed_71 (tgt := 77) rfl (fun q9 => absurd q9 (by decide)) (fun _ => ?_)
                refine x_bipush C dX8_feed_74 (v := (-2)) rfl ?_
                refine E dX8_feed_76 (rfl) ?_
                exact ⟨(-2), tz, tpf, rfl, rfl, by (unfold o_feed o_feed_n o_feed_f o_fd); (try simp only [hn9]); (repeat (first | rw [if_pos (by first | (rw [if_pos (by decide)]; assumption) | (rw [if_neg (by decide), if_pos (by decide)]; assumption) | (rw [if_neg (by decide), if_neg (by decide)]; assumption) | assumption | decide | omega | exact o_one_t (by assumption) | (rw [o_one_f (by assumption)]; decide) | exact ⟨by assumption, by assumption⟩ | exact fun h9 => absurd h9.1 (by assumption) | exact fun h9 => absurd h9.2 (by assumption))] | rw [if_neg (by first | (rw [if_pos (by decide)]; assumption) | (rw [if_neg (by decide), if_pos (by decide)]; assumption) | (rw [if_neg (by decide), if_neg (by decide)]; assumption) | assumption | decide | omega | exact o_one_t (by assumption) | (rw [o_one_f (by assumption)]; decide) | exact ⟨by assumption, by assumption⟩ | exact fun h9 => absurd h9.1 (by assumption) | exact fun h9 => absurd h9.2 (by assumption))])); all_goals (first | rfl)⟩
            ·
              obtain ⟨rfl, rfl, hf54⟩ := h46
              show X 0 0 [(m, .inr (7, [.ref a_sky, .ref a_kind, .ref a_more, .ref a_strewn, .int (nI tn), .ref a_treeCell, .ref a_treeSort, .ref a_treeLeaves, .int i_raking, .long l_heaps, .int (nI tz), .ref a_tape, .int (nI wr), .int (nI lw), .ref a_code, .ref a_begins, .int i_made, .int i_at, .int i_from, .int i_sort, .int i_value, .int i_open, .ref a_stack, .ref a_dry, .ref a_wet, .ref a_covered, .ref a_hangs, .ref a_off, .int i_fell, .int i_fellToday, .int i_rotten, .int i_raked, .int i_cost, .ref a_dryGo, .ref a_wetGo, .ref a_keptSky, .int i_imaged, .int (nI itn), .int i_oldRaking, .long l_oldHeaps, .int (nI ilw), .ref a_oldSky, .ref a_oldCells, .ref a_sheetSort, .ref a_sheetSize, .ref a_items, .ref a_spare])), (a_tape, .inl (cI, 160, .inl tpf))] [(7, .int 3), (0, .ref m), (1, .int 2), (2, .int a), (3, .int b), (4, .int c), (5, .int d), (6, .int e)] 71 [.int 0]
              refine x_if_ne C dX8_feed_71 (tgt := 77) rfl (fun q9 => absurd q9 (by decide)) (fun _ => ?_)
              refine x_bipush C dX8_feed_74 (v := (-2)) rfl ?_
              refine E dX8_feed_76 (rfl) ?_
              exact ⟨(-2), tz, tpf, rfl, rfl, by (unfold o_feed o_feed_n o_feed_f o_fd); (try simp only [hn9]); (repeat (first | rw [if_pos (by first | (rw [if_pos (by decide)]; assumption) | (rw [if_neg (by decide), if_pos (by decide)]; assumption) | (rw [if_neg (by decide), if_neg (by decide)]; assumption) | assumption | decide | omega | exact o_one_t (by assumption) | (rw [o_one_f (by assumption)]; decide) | exact ⟨by assumption, by assumption⟩ | exact fun h9 => absurd h9.1 (by assumption) | exact fun h9 => absurd h9.2 (by assumption))] | rw [if_neg (by first | (rw [if_pos (by decide)]; assumption) | (rw [if_neg (by decide), if_pos (by decide)]; assumption) | (rw [if_neg (by decide), if_neg (by decide)]; assumption) | assumption | decide | omega | exact o_one_t (by assumption) | (rw [o_one_f (by assumption)]; decide) | exact ⟨by assumption, by assumption⟩ | exact fun h9 => absurd h9.1 (by assumption) | exact fun h9 => absurd h9.2 (by assumption))])); all_goals (first | rfl)⟩
          ·
            obtain ⟨rfl, rfl, hf55⟩ := h42
            show X 0 0 [(m, .inr (7, [.ref a_sky, .ref a_kind, .ref a_more, .ref a_strewn, .int (nI tn), .ref a_treeCell, .ref a_treeSort, .ref a_treeLeaves, .int i_raking, .long l_heaps, .int (nI tz), .ref a_tape, .int (nI wr), .int (nI lw), .ref a_code, .ref a_begins, .int i_made, .int i_at, .int i_from, .int i_sort, .int i_value, .int i_open, .ref a_stack, .ref a_dry, .ref a_wet, .ref a_covered, .ref a_hangs, .ref a_off, .int i_fell, .int i_fellToday, .int i_rotten, .int i_raked, .int i_cost, .ref a_dryGo, .ref a_wetGo, .ref a_keptSky, .int i_imaged, .int (nI itn), .int i_oldRaking, .long l_oldHeaps, .int (nI ilw), .ref a_oldSky, .ref a_oldCells, .ref a_sheetSort, .ref a_sheetSize, .ref a_items, .ref a_spare])), (a_tape, .inl (cI, 160, .inl tpf))] [(7, .int 2), (0, .ref m), (1, .int 2), (2, .int a), (3, .int b), (4, .int c), (5, .int d), (6, .int e)] 71 [.int 0]
            refine x_if_ne C dX8_feed_71 (tgt := 77) rfl (fun q9 => absurd q9 (by decide)) (fun _ => ?_)
            refine x_bipush C dX8_feed_74 (v := (-2)) rfl ?_
            refine E dX8_feed_76 (rfl) ?_
            exact ⟨(-2), tz, tpf, rfl, rfl, by (unfold o_feed o_feed_n o_feed_f o_fd); (try simp only [hn9]); (repeat (first | rw [if_pos (by first | (rw [if_pos (by decide)]; assumption) | (rw [if_neg (by decide), if_pos (by decide)]; assumption) | (rw [if_neg (by decide), if_neg (by decide)]; assumption) | assumption | decide | omega | exact o_one_t (by assumption) | (rw [o_one_f (by assumption)]; decide) | exact ⟨by assumption, by assumption⟩ | exact fun h9 => absurd h9.1 (by assumption) | exact fun h9 => absurd h9.2 (by assumption))] | rw [if_neg (by first | (rw [if_pos (by decide)]; assumption) | (rw [if_neg (by decide), if_pos (by decide)]; assumption) | (rw [if_neg (by decide), if_neg (by decide)]; assumption) | assumption | decide | omega | exact o_one_t (by assumption) | (rw [o_one_f (by assumption)]; decide) | exact ⟨by assumption, by assumption⟩ | exact fun h9 => absurd h9.1 (by assumption) | exact fun h9 => absurd h9.2 (by assumption))])); all_goals (first | rfl)⟩
        ·
          obtain ⟨rfl, rfl, hf56⟩ := h38
          show X 0 0 [(m, .inr (7, [.ref a_sky, .ref a_kind, .ref a_more, .ref a_strewn, .int (nI tn), .ref a_treeCell, .ref a_treeSort, .ref a_treeLeaves, .int i_raking, .long l_heaps, .int (nI tz), .ref a_tape, .int (nI wr), .int (nI lw), .ref a_code, .ref a_begins, .int i_made, .int i_at, .int i_from, .int i_sort, .int i_value, .int i_open, .ref a_stack, .ref a_dry, .ref a_wet, .ref a_covered, .ref a_hangs, .ref a_off, .int i_fell, .int i_fellToday, .int i_rotten, .int i_raked, .int i_cost, .ref a_dryGo, .ref a_wetGo, .ref a_keptSky, .int i_imaged, .int (nI itn), .int i_oldRaking, .long l_oldHeaps, .int (nI ilw), .ref a_oldSky, .ref a_oldCells, .ref a_sheetSort, .ref a_sheetSize, .ref a_items, .ref a_spare])), (a_tape, .inl (cI, 160, .inl tpf))] [(7, .int 1), (0, .ref m), (1, .int 2), (2, .int a), (3, .int b), (4, .int c), (5, .int d), (6, .int e)] 71 [.int 0]
          refine x_if_ne C dX8_feed_71 (tgt := 77) rfl (fun q9 => absurd q9 (by decide)) (fun _ => ?_)
          refine x_bipush C dX8_feed_74 (v := (-2)) rfl ?_
          refine E dX8_feed_76 (rfl) ?_
          exact ⟨(-2), tz, tpf, rfl, rfl, by (unfold o_feed o_feed_n o_feed_f o_fd); (try simp only [hn9]); (repeat (first | rw [if_pos (by first | (rw [if_pos (by decide)]; assumption) | (rw [if_neg (by decide), if_pos (by decide)]; assumption) | (rw [if_neg (by decide), if_neg (by decide)]; assumption) | assumption | decide | omega | exact o_one_t (by assumption) | (rw [o_one_f (by assumption)]; decide) | exact ⟨by assumption, by assumption⟩ | exact fun h9 => absurd h9.1 (by assumption) | exact fun h9 => absurd h9.2 (by assumption))] | rw [if_neg (by first | (rw [if_pos (by decide)]; assumption) | (rw [if_neg (by decide), if_pos (by decide)]; assumption) | (rw [if_neg (by decide), if_neg (by decide)]; assumption) | assumption | decide | omega | exact o_one_t (by assumption) | (rw [o_one_f (by assumption)]; decide) | exact ⟨by assumption, by assumption⟩ | exact fun h9 => absurd h9.1 (by assumption) | exact fun h9 => absurd h9.2 (by assumption))])); all_goals (first | rfl)⟩
      ·
        obtain ⟨rfl, rfl, hf57⟩ := h34
        show X 0 0 [(m, .inr (7, [.ref a_sky, .ref a_kind, .ref a_more, .ref a_strewn, .int (nI tn), .ref a_treeCell, .ref a_treeSort, .ref a_treeLeaves, .int i_raking, .long l_heaps, .int (nI tz), .ref a_tape, .int (nI wr), .int (nI lw), .ref a_code, .ref a_begins, .int i_made, .int i_at, .int i_from, .int i_sort, .int i_value, .int i_open, .ref a_stack, .ref a_dry, .ref a_wet, .ref a_covered, .ref a_hangs, .ref a_off, .int i_fell, .int i_fellToday, .int i_rotten, .int i_raked, .int i_cost, .ref a_dryGo, .ref a_wetGo, .ref a_keptSky, .int i_imaged, .int (nI itn), .int i_oldRaking, .long l_oldHeaps, .int (nI ilw), .ref a_oldSky, .ref a_oldCells, .ref a_sheetSort, .ref a_sheetSize, .ref a_items, .ref a_spare])), (a_tape, .inl (cI, 160, .inl tpf))] [(7, .int 0), (0, .ref m), (1, .int 2), (2, .int a), (3, .int b), (4, .int c), (5, .int d), (6, .int e)] 71 [.int 0]
        refine x_if_ne C dX8_feed_71 (tgt := 77) rfl (fun q9 => absurd q9 (by decide)) (fun _ => ?_)
        refine x_bipush C dX8_feed_74 (v := (-2)) rfl ?_
        refine E dX8_feed_76 (rfl) ?_
        exact ⟨(-2), tz, tpf, rfl, rfl, by (unfold o_feed o_feed_n o_feed_f o_fd); (try simp only [hn9]); (repeat (first | rw [if_pos (by first | (rw [if_pos (by decide)]; assumption) | (rw [if_neg (by decide), if_pos (by decide)]; assumption) | (rw [if_neg (by decide), if_neg (by decide)]; assumption) | assumption | decide | omega | exact o_one_t (by assumption) | (rw [o_one_f (by assumption)]; decide) | exact ⟨by assumption, by assumption⟩ | exact fun h9 => absurd h9.1 (by assumption) | exact fun h9 => absurd h9.2 (by assumption))] | rw [if_neg (by first | (rw [if_pos (by decide)]; assumption) | (rw [if_neg (by decide), if_pos (by decide)]; assumption) | (rw [if_neg (by decide), if_neg (by decide)]; assumption) | assumption | decide | omega | exact o_one_t (by assumption) | (rw [o_one_f (by assumption)]; decide) | exact ⟨by assumption, by assumption⟩ | exact fun h9 => absurd h9.1 (by assumption) | exact fun h9 => absurd h9.2 (by assumption))])); all_goals (first | rfl)⟩
    ·
      have hn9 : o_n 3 = 3 := rfl
      refine x_if_ne C dX8_feed_6 (tgt := 12) rfl (fun _ => ?_) (fun q9 => by first | exact absurd q9 (by decide) | exact absurd (by decide) q9)
      refine x_iconst C dX8_feed_12 (v := 0) rfl ?_
      refine x_istore C dX8_feed_13 (by decide) (lv' := [(7, .int 0), (0, .ref m), (1, .int 3), (2, .int a), (3, .int b), (4, .int c), (5, .int d), (6, .int e)]) rfl ?_
      refine x_iload C dX8_feed_15 0 rfl ?_
      refine x_iconst C dX8_feed_17 (v := 5) rfl ?_
      refine x_icmp_ge C dX8_feed_18 (tgt := 83) rfl (fun q9 => absurd q9 (by decide)) (fun _ => ?_)
      refine x_iload C dX8_feed_21 0 rfl ?_
      refine x_if_ne C dX8_feed_23 (tgt := 30) rfl (fun q9 => absurd q9 (by decide)) (fun _ => ?_)
      refine x_iload_n C dX8_feed_26 3 rfl ?_
      refine x_goto C dX8_feed_27 (tgt := 64) rfl ?_
      show X _ _ _ _ 64 _
      refine x_iconst C dX8_feed_64 (v := 0) rfl ?_
      refine x_sipush C dX8_feed_65 (v := 255) rfl ?_
      refine x_callS C (As := [.int a, .int 0, .int 255]) (st := []) (wc := []) (wr := [(m, .inr (7, [.ref a_sky, .ref a_kind, .ref a_more, .ref a_strewn, .int (nI tn), .ref a_treeCell, .ref a_treeSort, .ref a_treeLeaves, .int i_raking, .long l_heaps, .int (nI tz), .ref a_tape, .int (nI wr), .int (nI lw), .ref a_code, .ref a_begins, .int i_made, .int i_at, .int i_from, .int i_sort, .int i_value, .int i_open, .ref a_stack, .ref a_dry, .ref a_wet, .ref a_covered, .ref a_hangs, .ref a_off, .int i_fell, .int i_fellToday, .int i_rotten, .int i_raked, .int i_cost, .ref a_dryGo, .ref a_wetGo, .ref a_keptSky, .int i_imaged, .int (nI itn), .int i_oldRaking, .long l_oldHeaps, .int (nI ilw), .ref a_oldSky, .ref a_oldCells, .ref a_sheetSort, .ref a_sheetSize, .ref a_items, .ref a_spare])), (a_tape, .inl (cI, 160, .inl tpf))]) (c_X8_within l dG cI cM cW cS a 0 255 ) rZ0_ok (fun _ _ _ _ => trivial) kS_X8_108 hy_X8_within ⟨Nat.le_of_ble_eq_true rfl, Nat.le_of_ble_eq_true rfl⟩ ⟨Nat.le_of_ble_eq_true rfl, Nat.le_of_ble_eq_true rfl⟩ dX8_feed_68 [] [0, 1] rfl rfl rfl rfl (by decide) rfl (Nat.le_of_ble_eq_true rfl) ?_
      intro v58 w59 h60
      rcases h60 with h60 | h60
      ·
        obtain ⟨rfl, rfl, hf61⟩ := h60
        show X 0 0 [(m, .inr (7, [.ref a_sky, .ref a_kind, .ref a_more, .ref a_strewn, .int (nI tn), .ref a_treeCell, .ref a_treeSort, .ref a_treeLeaves, .int i_raking, .long l_heaps, .int (nI tz), .ref a_tape, .int (nI wr), .int (nI lw), .ref a_code, .ref a_begins, .int i_made, .int i_at, .int i_from, .int i_sort, .int i_value, .int i_open, .ref a_stack, .ref a_dry, .ref a_wet, .ref a_covered, .ref a_hangs, .ref a_off, .int i_fell, .int i_fellToday, .int i_rotten, .int i_raked, .int i_cost, .ref a_dryGo, .ref a_wetGo, .ref a_keptSky, .int i_imaged, .int (nI itn), .int i_oldRaking, .long l_oldHeaps, .int (nI ilw), .ref a_oldSky, .ref a_oldCells, .ref a_sheetSort, .ref a_sheetSize, .ref a_items, .ref a_spare])), (a_tape, .inl (cI, 160, .inl tpf))] [(7, .int 0), (0, .ref m), (1, .int 3), (2, .int a), (3, .int b), (4, .int c), (5, .int d), (6, .int e)] 71 [.int 1]
        refine x_if_ne C dX8_feed_71 (tgt := 77) rfl (fun _ => ?_) (fun q9 => by first | exact absurd q9 (by decide) | exact absurd (by decide) q9)
        refine x_iinc C dX8_feed_77 0 rfl (v := 1) (rfl) (by decide) (lv' := [(7, .int 1), (0, .ref m), (1, .int 3), (2, .int a), (3, .int b), (4, .int c), (5, .int d), (6, .int e)]) rfl ?_
        refine x_goto C dX8_feed_80 (tgt := 15) rfl ?_
        refine x_iload C dX8_feed_15 0 rfl ?_
        refine x_iconst C dX8_feed_17 (v := 5) rfl ?_
        refine x_icmp_ge C dX8_feed_18 (tgt := 83) rfl (fun q9 => absurd q9 (by decide)) (fun _ => ?_)
        refine x_iload C dX8_feed_21 0 rfl ?_
        refine x_if_ne C dX8_feed_23 (tgt := 30) rfl (fun _ => ?_) (fun q9 => by first | exact absurd q9 (by decide) | exact absurd (by decide) q9)
        refine x_iload C dX8_feed_30 0 rfl ?_
        refine x_iconst C dX8_feed_32 (v := 1) rfl ?_
        show X _ _ _ _ 33 _
        refine x_icmp_ne C dX8_feed_33 (tgt := 40) rfl (fun q9 => absurd q9 (by decide)) (fun _ => ?_)
        refine x_iload_n C dX8_feed_36 4 rfl ?_
        refine x_goto C dX8_feed_37 (tgt := 64) rfl ?_
        refine x_iconst C dX8_feed_64 (v := 0) rfl ?_
        refine x_sipush C dX8_feed_65 (v := 255) rfl ?_
        refine x_callS C (As := [.int b, .int 0, .int 255]) (st := []) (wc := []) (wr := [(m, .inr (7, [.ref a_sky, .ref a_kind, .ref a_more, .ref a_strewn, .int (nI tn), .ref a_treeCell, .ref a_treeSort, .ref a_treeLeaves, .int i_raking, .long l_heaps, .int (nI tz), .ref a_tape, .int (nI wr), .int (nI lw), .ref a_code, .ref a_begins, .int i_made, .int i_at, .int i_from, .int i_sort, .int i_value, .int i_open, .ref a_stack, .ref a_dry, .ref a_wet, .ref a_covered, .ref a_hangs, .ref a_off, .int i_fell, .int i_fellToday, .int i_rotten, .int i_raked, .int i_cost, .ref a_dryGo, .ref a_wetGo, .ref a_keptSky, .int i_imaged, .int (nI itn), .int i_oldRaking, .long l_oldHeaps, .int (nI ilw), .ref a_oldSky, .ref a_oldCells, .ref a_sheetSort, .ref a_sheetSize, .ref a_items, .ref a_spare])), (a_tape, .inl (cI, 160, .inl tpf))]) (c_X8_within l dG cI cM cW cS b 0 255 ) rZ0_ok (fun _ _ _ _ => trivial) kS_X8_108 hy_X8_within ⟨Nat.le_of_ble_eq_true rfl, Nat.le_of_ble_eq_true rfl⟩ ⟨Nat.le_of_ble_eq_true rfl, Nat.le_of_ble_eq_true rfl⟩ dX8_feed_68 [] [0, 1] rfl rfl rfl rfl (by decide) rfl (Nat.le_of_ble_eq_true rfl) ?_
        intro v62 w63 h64
        rcases h64 with h64 | h64
        ·
          obtain ⟨rfl, rfl, hf65⟩ := h64
          show X 0 0 [(m, .inr (7, [.ref a_sky, .ref a_kind, .ref a_more, .ref a_strewn, .int (nI tn), .ref a_treeCell, .ref a_treeSort, .ref a_treeLeaves, .int i_raking, .long l_heaps, .int (nI tz), .ref a_tape, .int (nI wr), .int (nI lw), .ref a_code, .ref a_begins, .int i_made, .int i_at, .int i_from, .int i_sort, .int i_value, .int i_open, .ref a_stack, .ref a_dry, .ref a_wet, .ref a_covered, .ref a_hangs, .ref a_off, .int i_fell, .int i_fellToday, .int i_rotten, .int i_raked, .int i_cost, .ref a_dryGo, .ref a_wetGo, .ref a_keptSky, .int i_imaged, .int (nI itn), .int i_oldRaking, .long l_oldHeaps, .int (nI ilw), .ref a_oldSky, .ref a_oldCells, .ref a_sheetSort, .ref a_sheetSize, .ref a_items, .ref a_spare])), (a_tape, .inl (cI, 160, .inl tpf))] [(7, .int 1), (0, .ref m), (1, .int 3), (2, .int a), (3, .int b), (4, .int c), (5, .int d), (6, .int e)] 71 [.int 1]
          refine x_if_ne C dX8_feed_71 (tgt := 77) rfl (fun _ => ?_) (fun q9 => by first | exact absurd q9 (by decide) | exact absurd (by decide) q9)
          refine x_iinc C dX8_feed_77 0 rfl (v := 2) (rfl) (by decide) (lv' := [(7, .int 2), (0, .ref m), (1, .int 3), (2, .int a), (3, .int b), (4, .int c), (5, .int d), (6, .int e)]) rfl ?_
          refine x_goto C dX8_feed_80 (tgt := 15) rfl ?_
          refine x_iload C dX8_feed_15 0 rfl ?_
          refine x_iconst C dX8_feed_17 (v := 5) rfl ?_
          refine x_icmp_ge C dX8_feed_18 (tgt := 83) rfl (fun q9 => absurd q9 (by decide)) (fun _ => ?_)
          refine x_iload C dX8_feed_21 0 rfl ?_
          refine x_if_ne C dX8_feed_23 (tgt := 30) rfl (fun _ => ?_) (fun q9 => by first | exact absurd q9 (by decide) | exact absurd (by decide) q9)
          refine x_iload C dX8_feed_30 0 rfl ?_
          refine x_iconst C dX8_feed_32 (v := 1) rfl ?_
          show X _ _ _ _ 33 _
          refine x_icmp_ne C dX8_feed_33 (tgt := 40) rfl (fun _ => ?_) (fun q9 => by first | exact absurd q9 (by decide) | exact absurd (by decide) q9)
          refine x_iload C dX8_feed_40 0 rfl ?_
          refine x_iconst C dX8_feed_42 (v := 2) rfl ?_
          refine x_icmp_ne C dX8_feed_43 (tgt := 51) rfl (fun q9 => absurd q9 (by decide)) (fun _ => ?_)
          refine x_iload C dX8_feed_46 5 rfl ?_
          refine x_goto C dX8_feed_48 (tgt := 64) rfl ?_
          refine x_iconst C dX8_feed_64 (v := 0) rfl ?_
          refine x_sipush C dX8_feed_65 (v := 255) rfl ?_
          refine x_callS C (As := [.int c, .int 0, .int 255]) (st := []) (wc := []) (wr := [(m, .inr (7, [.ref a_sky, .ref a_kind, .ref a_more, .ref a_strewn, .int (nI tn), .ref a_treeCell, .ref a_treeSort, .ref a_treeLeaves, .int i_raking, .long l_heaps, .int (nI tz), .ref a_tape, .int (nI wr), .int (nI lw), .ref a_code, .ref a_begins, .int i_made, .int i_at, .int i_from, .int i_sort, .int i_value, .int i_open, .ref a_stack, .ref a_dry, .ref a_wet, .ref a_covered, .ref a_hangs, .ref a_off, .int i_fell, .int i_fellToday, .int i_rotten, .int i_raked, .int i_cost, .ref a_dryGo, .ref a_wetGo, .ref a_keptSky, .int i_imaged, .int (nI itn), .int i_oldRaking, .long l_oldHeaps, .int (nI ilw), .ref a_oldSky, .ref a_oldCells, .ref a_sheetSort, .ref a_sheetSize, .ref a_items, .ref a_spare])), (a_tape, .inl (cI, 160, .inl tpf))]) (c_X8_within l dG cI cM cW cS c 0 255 ) rZ0_ok (fun _ _ _ _ => trivial) kS_X8_108 hy_X8_within ⟨Nat.le_of_ble_eq_true rfl, Nat.le_of_ble_eq_true rfl⟩ ⟨Nat.le_of_ble_eq_true rfl, Nat.le_of_ble_eq_true rfl⟩ dX8_feed_68 [] [0, 1] rfl rfl rfl rfl (by decide) rfl (Nat.le_of_ble_eq_true rfl) ?_
          intro v66 w67 h68
          rcases h68 with h68 | h68
          ·
            obtain ⟨rfl, rfl, hf69⟩ := h68
            show X 0 0 [(m, .inr (7, [.ref a_sky, .ref a_kind, .ref a_more, .ref a_strewn, .int (nI tn), .ref a_treeCell, .ref a_treeSort, .ref a_treeLeaves, .int i_raking, .long l_heaps, .int (nI tz), .ref a_tape, .int (nI wr), .int (nI lw), .ref a_code, .ref a_begins, .int i_made, .int i_at, .int i_from, .int i_sort, .int i_value, .int i_open, .ref a_stack, .ref a_dry, .ref a_wet, .ref a_covered, .ref a_hangs, .ref a_off, .int i_fell, .int i_fellToday, .int i_rotten, .int i_raked, .int i_cost, .ref a_dryGo, .ref a_wetGo, .ref a_keptSky, .int i_imaged, .int (nI itn), .int i_oldRaking, .long l_oldHeaps, .int (nI ilw), .ref a_oldSky, .ref a_oldCells, .ref a_sheetSort, .ref a_sheetSize, .ref a_items, .ref a_spare])), (a_tape, .inl (cI, 160, .inl tpf))] [(7, .int 2), (0, .ref m), (1, .int 3), (2, .int a), (3, .int b), (4, .int c), (5, .int d), (6, .int e)] 71 [.int 1]
            refine x_if_ne C dX8_feed_71 (tgt := 77) rfl (fun _ => ?_) (fun q9 => by first | exact absurd q9 (by decide) | exact absurd (by decide) q9)
            refine x_iinc C dX8_feed_77 0 rfl (v := 3) (rfl) (by decide) (lv' := [(7, .int 3), (0, .ref m), (1, .int 3), (2, .int a), (3, .int b), (4, .int c), (5, .int d), (6, .int e)]) rfl ?_
            refine x_goto C dX8_feed_80 (tgt := 15) rfl ?_
            refine x_iload C dX8_feed_15 0 rfl ?_
            refine x_iconst C dX8_feed_17 (v := 5) rfl ?_
            refine x_icmp_ge C dX8_feed_18 (tgt := 83) rfl (fun q9 => absurd q9 (by decide)) (fun _ => ?_)
            refine x_iload C dX8_feed_21 0 rfl ?_
            refine x_if_ne C dX8_feed_23 (tgt := 30) rfl (fun _ => ?_) (fun q9 => by first | exact absurd q9 (by decide) | exact absurd (by decide) q9)
            refine x_iload C dX8_feed_30 0 rfl ?_
            refine x_iconst C dX8_feed_32 (v := 1) rfl ?_
            show X _ _ _ _ 33 _
            refine x_icmp_ne C dX8_feed_33 (tgt := 40) rfl (fun _ => ?_) (fun q9 => by first | exact absurd q9 (by decide) | exact absurd (by decide) q9)
            refine x_iload C dX8_feed_40 0 rfl ?_
            refine x_iconst C dX8_feed_42 (v := 2) rfl ?_
            refine x_icmp_ne C dX8_feed_43 (tgt := 51) rfl (fun _ => ?_) (fun q9 => by first | exact absurd q9 (by decide) | exact absurd (by decide) q9)
            refine x_iload C dX8_feed_51 0 rfl ?_
            refine x_iconst C dX8_feed_53 (v := 3) rfl ?_
            refine x_icmp_ne C dX8_feed_54 (tgt := 62) rfl (fun q9 => absurd q9 (by decide)) (fun _ => ?_)
            refine x_iload C dX8_feed_57 6 rfl ?_
            refine x_goto C dX8_feed_59 (tgt := 64) rfl ?_
            refine x_iconst C dX8_feed_64 (v := 0) rfl ?_
            show X _ _ _ _ 65 _
            refine x_sipush C dX8_feed_65 (v := 255) rfl ?_
            refine x_callS C (As := [.int d, .int 0, .int 255]) (st := []) (wc := []) (wr := [(m, .inr (7, [.ref a_sky, .ref a_kind, .ref a_more, .ref a_strewn, .int (nI tn), .ref a_treeCell, .ref a_treeSort, .ref a_treeLeaves, .int i_raking, .long l_heaps, .int (nI tz), .ref a_tape, .int (nI wr), .int (nI lw), .ref a_code, .ref a_begins, .int i_made, .int i_at, .int i_from, .int i_sort, .int i_value, .int i_open, .ref a_stack, .ref a_dry, .ref a_wet, .ref a_covered, .ref a_hangs, .ref a_off, .int i_fell, .int i_fellToday, .int i_rotten, .int i_raked, .int i_cost, .ref a_dryGo, .ref a_wetGo, .ref a_keptSky, .int i_imaged, .int (nI itn), .int i_oldRaking, .long l_oldHeaps, .int (nI ilw), .ref a_oldSky, .ref a_oldCells, .ref a_sheetSort, .ref a_sheetSize, .ref a_items, .ref a_spare])), (a_tape, .inl (cI, 160, .inl tpf))]) (c_X8_within l dG cI cM cW cS d 0 255 ) rZ0_ok (fun _ _ _ _ => trivial) kS_X8_108 hy_X8_within ⟨Nat.le_of_ble_eq_true rfl, Nat.le_of_ble_eq_true rfl⟩ ⟨Nat.le_of_ble_eq_true rfl, Nat.le_of_ble_eq_true rfl⟩ dX8_feed_68 [] [0, 1] rfl rfl rfl rfl (by decide) rfl (Nat.le_of_ble_eq_true rfl) ?_
            intro v70 w71 h72
            rcases h72 with h72 | h72
            ·
              obtain ⟨rfl, rfl, hf73⟩ := h72
              show X 0 0 [(m, .inr (7, [.ref a_sky, .ref a_kind, .ref a_more, .ref a_strewn, .int (nI tn), .ref a_treeCell, .ref a_treeSort, .ref a_treeLeaves, .int i_raking, .long l_heaps, .int (nI tz), .ref a_tape, .int (nI wr), .int (nI lw), .ref a_code, .ref a_begins, .int i_made, .int i_at, .int i_from, .int i_sort, .int i_value, .int i_open, .ref a_stack, .ref a_dry, .ref a_wet, .ref a_covered, .ref a_hangs, .ref a_off, .int i_fell, .int i_fellToday, .int i_rotten, .int i_raked, .int i_cost, .ref a_dryGo, .ref a_wetGo, .ref a_keptSky, .int i_imaged, .int (nI itn), .int i_oldRaking, .long l_oldHeaps, .int (nI ilw), .ref a_oldSky, .ref a_oldCells, .ref a_sheetSort, .ref a_sheetSize, .ref a_items, .ref a_spare])), (a_tape, .inl (cI, 160, .inl tpf))] [(7, .int 3), (0, .ref m), (1, .int 3), (2, .int a), (3, .int b), (4, .int c), (5, .int d), (6, .int e)] 71 [.int 1]
              refine x_if_ne C dX8_feed_71 (tgt := 77) rfl (fun _ => ?_) (fun q9 => by first | exact absurd q9 (by decide) | exact absurd (by decide) q9)
              refine x_iinc C dX8_feed_77 0 rfl (v := 4) (rfl) (by decide) (lv' := [(7, .int 4), (0, .ref m), (1, .int 3), (2, .int a), (3, .int b), (4, .int c), (5, .int d), (6, .int e)]) rfl ?_
              refine x_goto C dX8_feed_80 (tgt := 15) rfl ?_
              refine x_iload C dX8_feed_15 0 rfl ?_
              refine x_iconst C dX8_feed_17 (v := 5) rfl ?_
              refine x_icmp_ge C dX8_feed_18 (tgt := 83) rfl (fun q9 => absurd q9 (by decide)) (fun _ => ?_)
              refine x_iload C dX8_feed_21 0 rfl ?_
              refine x_if_ne C dX8_feed_23 (tgt := 30) rfl (fun _ => ?_) (fun q9 => by first | exact absurd q9 (by decide) | exact absurd (by decide) q9)
              refine x_iload C dX8_feed_30 0 rfl ?_
              refine x_iconst C dX8_feed_32 (v := 1) rfl ?_
              show X _ _ _ _ 33 _
              refine x_icmp_ne C dX8_feed_33 (tgt := 40) rfl (fun _ => ?_) (fun q9 => by first | exact absurd q9 (by decide) | exact absurd (by decide) q9)
              refine x_iload C dX8_feed_40 0 rfl ?_
              refine x_iconst C dX8_feed_42 (v := 2) rfl ?_
              refine x_icmp_ne C dX8_feed_43 (tgt := 51) rfl (fun _ => ?_) (fun q9 => by first | exact absurd q9 (by decide) | exact absurd (by decide) q9)
              refine x_iload C dX8_feed_51 0 rfl ?_
              refine x_iconst C dX8_feed_53 (v := 3) rfl ?_
              refine x_icmp_ne C dX8_feed_54 (tgt := 62) rfl (fun _ => ?_) (fun q9 => by first | exact absurd q9 (by decide) | exact absurd (by decide) q9)
              refine x_iload C dX8_feed_62 7 rfl ?_
              refine x_iconst C dX8_feed_64 (v := 0) rfl ?_
              refine x_sipush C dX8_feed_65 (v := 255) rfl ?_
              show X _ _ _ _ 68 _
              refine x_callS C (As := [.int e, .int 0, .int 255]) (st := []) (wc := []) (wr := [(m, .inr (7, [.ref a_sky, .ref a_kind, .ref a_more, .ref a_strewn, .int (nI tn), .ref a_treeCell, .ref a_treeSort, .ref a_treeLeaves, .int i_raking, .long l_heaps, .int (nI tz), .ref a_tape, .int (nI wr), .int (nI lw), .ref a_code, .ref a_begins, .int i_made, .int i_at, .int i_from, .int i_sort, .int i_value, .int i_open, .ref a_stack, .ref a_dry, .ref a_wet, .ref a_covered, .ref a_hangs, .ref a_off, .int i_fell, .int i_fellToday, .int i_rotten, .int i_raked, .int i_cost, .ref a_dryGo, .ref a_wetGo, .ref a_keptSky, .int i_imaged, .int (nI itn), .int i_oldRaking, .long l_oldHeaps, .int (nI ilw), .ref a_oldSky, .ref a_oldCells, .ref a_sheetSort, .ref a_sheetSize, .ref a_items, .ref a_spare])), (a_tape, .inl (cI, 160, .inl tpf))]) (c_X8_within l dG cI cM cW cS e 0 255 ) rZ0_ok (fun _ _ _ _ => trivial) kS_X8_108 hy_X8_within ⟨Nat.le_of_ble_eq_true rfl, Nat.le_of_ble_eq_true rfl⟩ ⟨Nat.le_of_ble_eq_true rfl, Nat.le_of_ble_eq_true rfl⟩ dX8_feed_68 [] [0, 1] rfl rfl rfl rfl (by decide) rfl (Nat.le_of_ble_eq_true rfl) ?_
              intro v74 w75 h76
              rcases h76 with h76 | h76
              ·
                obtain ⟨rfl, rfl, hf77⟩ := h76
                show X 0 0 [(m, .inr (7, [.ref a_sky, .ref a_kind, .ref a_more, .ref a_strewn, .int (nI tn), .ref a_treeCell, .ref a_treeSort, .ref a_treeLeaves, .int i_raking, .long l_heaps, .int (nI tz), .ref a_tape, .int (nI wr), .int (nI lw), .ref a_code, .ref a_begins, .int i_made, .int i_at, .int i_from, .int i_sort, .int i_value, .int i_open, .ref a_stack, .ref a_dry, .ref a_wet, .ref a_covered, .ref a_hangs, .ref a_off, .int i_fell, .int i_fellToday, .int i_rotten, .int i_raked, .int i_cost, .ref a_dryGo, .ref a_wetGo, .ref a_keptSky, .int i_imaged, .int (nI itn), .int i_oldRaking, .long l_oldHeaps, .int (nI ilw), .ref a_oldSky, .ref a_oldCells, .ref a_sheetSort, .ref a_sheetSize, .ref a_items, .ref a_spare])), (a_tape, .inl (cI, 160, .inl tpf))] [(7, .int 4), (0, .ref m), (1, .int 3), (2, .int a), (3, .int b), (4, .int c), (5, .int d), (6, .int e)] 71 [.int 1]
                refine x_if_ne C dX8_feed_71 (tgt := 77) rfl (fun _ => ?_) (fun q9 => by first | exact absurd q9 (by decide) | exact absurd (by decide) q9)
                refine x_iinc C dX8_feed_77 0 rfl (v := 5) (rfl) (by decide) (lv' := [(7, .int 5), (0, .ref m), (1, .int 3), (2, .int a), (3, .int b), (4, .int c), (5, .int d), (6, .int e)]) rfl ?_
                refine x_goto C dX8_feed_80 (tgt := 15) rfl ?_
                refine x_iload C dX8_feed_15 0 rfl ?_
                refine x_iconst C dX8_feed_17 (v := 5) rfl ?_
                refine x_icmp_ge C dX8_feed_18 (tgt := 83) rfl (fun _ => ?_) (fun q9 => by first | exact absurd q9 (by decide) | exact absurd (by decide) q9)
                refine x_aload_n C dX8_feed_83 1 rfl ?_
                refine x_get C inlX8 rfl 10 (by decide) gw_11_20 dX8_feed_84 0 rfl rfl ?_
                refine x_iload_n C dX8_feed_87 2 rfl ?_
                refine x_iadd C dX8_feed_88 ?_
                show X _ _ _ _ 89 _
                refine x_sipush C dX8_feed_89 (v := 160) rfl ?_
                refine x_icmp_le C dX8_feed_92 (tgt := 98) rfl (fun c78 => ?_) (fun c78 => ?_)
                ·
                  have c78 : tz + 3 ≤ 160 := q_le_t (q_iadd (a := tz) (b := 3) rfl (rfl : (3 : Int32) = nI 3)) (rfl : (160 : Int32) = nI 160) (by omega) (by omega) c78
                  refine x_iconst C dX8_feed_98 (v := 0) rfl ?_
                  refine x_istore C dX8_feed_99 (by decide) (lv' := [(7, .int 0), (0, .ref m), (1, .int 3), (2, .int a), (3, .int b), (4, .int c), (5, .int d), (6, .int e)]) rfl ?_
                  refine x_iload C dX8_feed_101 0 rfl ?_
                  refine x_iload_n C dX8_feed_103 2 rfl ?_
                  refine x_icmp_ge C dX8_feed_104 (tgt := 172) rfl (fun q9 => absurd q9 (by decide)) (fun _ => ?_)
                  refine x_aload_n C dX8_feed_107 1 rfl ?_
                  refine x_get C inlX8 rfl 11 (by decide) gw_11_1 dX8_feed_108 0 rfl rfl ?_
                  refine x_aload_n C dX8_feed_111 1 rfl ?_
                  refine x_dup C dX8_feed_112 rfl ?_
                  refine x_get C inlX8 rfl 10 (by decide) gw_11_20 dX8_feed_113 0 rfl rfl ?_
                  show X _ _ _ _ 116 _
                  refine x_dup_x1 C dX8_feed_116 rfl rfl ?_
                  refine x_iconst C dX8_feed_117 (v := 1) rfl ?_
                  refine x_iadd C dX8_feed_118 ?_
                  refine x_topi C (nI (tz + 1)) (q_iadd (a := tz) (b := 1) rfl (rfl : (1 : Int32) = nI 1)) ?_
                  refine x_put C inlX8 rfl tyX8 tyX8_ok nmX8 10 (by decide) gw_11_20 rfl dX8_feed_119 0 rfl (rfl) rfl (Nat.le_of_ble_eq_true rfl) ?_
                  show X _ _ [(m, .inr (7, [.ref a_sky, .ref a_kind, .ref a_more, .ref a_strewn, .int (nI tn), .ref a_treeCell, .ref a_treeSort, .ref a_treeLeaves, .int i_raking, .long l_heaps, .int (nI (tz + 1)), .ref a_tape, .int (nI wr), .int (nI lw), .ref a_code, .ref a_begins, .int i_made, .int i_at, .int i_from, .int i_sort, .int i_value, .int i_open, .ref a_stack, .ref a_dry, .ref a_wet, .ref a_covered, .ref a_hangs, .ref a_off, .int i_fell, .int i_fellToday, .int i_rotten, .int i_raked, .int i_cost, .ref a_dryGo, .ref a_wetGo, .ref a_keptSky, .int i_imaged, .int (nI itn), .int i_oldRaking, .long l_oldHeaps, .int (nI ilw), .ref a_oldSky, .ref a_oldCells, .ref a_sheetSort, .ref a_sheetSize, .ref a_items, .ref a_spare])), (a_tape, .inl (cI, 160, .inl tpf))] _ _ _
                  refine x_iload C dX8_feed_122 0 rfl ?_
                  refine x_if_ne C dX8_feed_124 (tgt := 131) rfl (fun q9 => absurd q9 (by decide)) (fun _ => ?_)
                  refine x_iload_n C dX8_feed_127 3 rfl ?_
                  refine x_goto C dX8_feed_128 (tgt := 165) rfl ?_
                  refine x_iastore C 0 rfl dX8_feed_165 tz (q_cl rfl (by omega)) (q_ix rfl (by omega) (by omega)) 1 rfl ?_
                  show X _ _ [(m, .inr (7, [.ref a_sky, .ref a_kind, .ref a_more, .ref a_strewn, .int (nI tn), .ref a_treeCell, .ref a_treeSort, .ref a_treeLeaves, .int i_raking, .long l_heaps, .int (nI (tz + 1)), .ref a_tape, .int (nI wr), .int (nI lw), .ref a_code, .ref a_begins, .int i_made, .int i_at, .int i_from, .int i_sort, .int i_value, .int i_open, .ref a_stack, .ref a_dry, .ref a_wet, .ref a_covered, .ref a_hangs, .ref a_off, .int i_fell, .int i_fellToday, .int i_rotten, .int i_raked, .int i_cost, .ref a_dryGo, .ref a_wetGo, .ref a_keptSky, .int i_imaged, .int (nI itn), .int i_oldRaking, .long l_oldHeaps, .int (nI ilw), .ref a_oldSky, .ref a_oldCells, .ref a_sheetSort, .ref a_sheetSize, .ref a_items, .ref a_spare])), (a_tape, .inl (cI, 160, .inl (upd tpf tz a)))] _ _ _
                  refine x_iinc C dX8_feed_166 0 rfl (v := 1) (rfl) (by decide) (lv' := [(7, .int 1), (0, .ref m), (1, .int 3), (2, .int a), (3, .int b), (4, .int c), (5, .int d), (6, .int e)]) rfl ?_
                  show X _ _ _ _ 169 _
                  refine x_goto C dX8_feed_169 (tgt := 101) rfl ?_
                  refine x_iload C dX8_feed_101 0 rfl ?_
                  refine x_iload_n C dX8_feed_103 2 rfl ?_
                  refine x_icmp_ge C dX8_feed_104 (tgt := 172) rfl (fun q9 => absurd q9 (by decide)) (fun _ => ?_)
                  refine x_aload_n C dX8_feed_107 1 rfl ?_
                  refine x_get C inlX8 rfl 11 (by decide) gw_11_1 dX8_feed_108 0 rfl rfl ?_
                  refine x_aload_n C dX8_feed_111 1 rfl ?_
                  refine x_dup C dX8_feed_112 rfl ?_
                  refine x_get C inlX8 rfl 10 (by decide) gw_11_20 dX8_feed_113 0 rfl rfl ?_
                  refine x_dup_x1 C dX8_feed_116 rfl rfl ?_
                  show X _ _ _ _ 117 _
                  refine x_iconst C dX8_feed_117 (v := 1) rfl ?_
                  refine x_iadd C dX8_feed_118 ?_
                  refine x_topi C (nI ((tz + 1) + 1)) (q_iadd (a := tz + 1) (b := 1) rfl (rfl : (1 : Int32) = nI 1)) ?_
                  refine x_put C inlX8 rfl tyX8 tyX8_ok nmX8 10 (by decide) gw_11_20 rfl dX8_feed_119 0 rfl (rfl) rfl (Nat.le_of_ble_eq_true rfl) ?_
                  show X _ _ [(m, .inr (7, [.ref a_sky, .ref a_kind, .ref a_more, .ref a_strewn, .int (nI tn), .ref a_treeCell, .ref a_treeSort, .ref a_treeLeaves, .int i_raking, .long l_heaps, .int (nI ((tz + 1) + 1)), .ref a_tape, .int (nI wr), .int (nI lw), .ref a_code, .ref a_begins, .int i_made, .int i_at, .int i_from, .int i_sort, .int i_value, .int i_open, .ref a_stack, .ref a_dry, .ref a_wet, .ref a_covered, .ref a_hangs, .ref a_off, .int i_fell, .int i_fellToday, .int i_rotten, .int i_raked, .int i_cost, .ref a_dryGo, .ref a_wetGo, .ref a_keptSky, .int i_imaged, .int (nI itn), .int i_oldRaking, .long l_oldHeaps, .int (nI ilw), .ref a_oldSky, .ref a_oldCells, .ref a_sheetSort, .ref a_sheetSize, .ref a_items, .ref a_spare])), (a_tape, .inl (cI, 160, .inl (upd tpf tz a)))] _ _ _
                  refine x_iload C dX8_feed_122 0 rfl ?_
                  refine x_if_ne C dX8_feed_124 (tgt := 131) rfl (fun _ => ?_) (fun q9 => by first | exact absurd q9 (by decide) | exact absurd (by decide) q9)
                  refine x_iload C dX8_feed_131 0 rfl ?_
                  refine x_iconst C dX8_feed_133 (v := 1) rfl ?_
                  refine x_icmp_ne C dX8_feed_134 (tgt := 141) rfl (fun q9 => absurd q9 (by decide)) (fun _ => ?_)
                  refine x_iload_n C dX8_feed_137 4 rfl ?_
                  refine x_goto C dX8_feed_138 (tgt := 165) rfl ?_
                  show X _ _ _ _ 165 _
                  refine x_iastore C 0 rfl dX8_feed_165 (tz + 1) (q_cl rfl (by omega)) (q_ix rfl (by omega) (by omega)) 1 rfl ?_
                  show X _ _ [(m, .inr (7, [.ref a_sky, .ref a_kind, .ref a_more, .ref a_strewn, .int (nI tn), .ref a_treeCell, .ref a_treeSort, .ref a_treeLeaves, .int i_raking, .long l_heaps, .int (nI ((tz + 1) + 1)), .ref a_tape, .int (nI wr), .int (nI lw), .ref a_code, .ref a_begins, .int i_made, .int i_at, .int i_from, .int i_sort, .int i_value, .int i_open, .ref a_stack, .ref a_dry, .ref a_wet, .ref a_covered, .ref a_hangs, .ref a_off, .int i_fell, .int i_fellToday, .int i_rotten, .int i_raked, .int i_cost, .ref a_dryGo, .ref a_wetGo, .ref a_keptSky, .int i_imaged, .int (nI itn), .int i_oldRaking, .long l_oldHeaps, .int (nI ilw), .ref a_oldSky, .ref a_oldCells, .ref a_sheetSort, .ref a_sheetSize, .ref a_items, .ref a_spare])), (a_tape, .inl (cI, 160, .inl (upd (upd tpf tz a) (tz + 1) b)))] _ _ _
                  refine x_iinc C dX8_feed_166 0 rfl (v := 2) (rfl) (by decide) (lv' := [(7, .int 2), (0, .ref m), (1, .int 3), (2, .int a), (3, .int b), (4, .int c), (5, .int d), (6, .int e)]) rfl ?_
                  refine x_goto C dX8_feed_169 (tgt := 101) rfl ?_
                  refine x_iload C dX8_feed_101 0 rfl ?_
                  refine x_iload_n C dX8_feed_103 2 rfl ?_
                  refine x_icmp_ge C dX8_feed_104 (tgt := 172) rfl (fun q9 => absurd q9 (by decide)) (fun _ => ?_)
                  refine x_aload_n C dX8_feed_107 1 rfl ?_
                  refine x_get C inlX8 rfl 11 (by decide) gw_11_1 dX8_feed_108 0 rfl rfl ?_
                  refine x_aload_n C dX8_feed_111 1 rfl ?_
                  refine x_dup C dX8_feed_112 rfl ?_
                  show X _ _ _ _ 113 _
                  refine x_get C inlX8 rfl 10 (by decide) gw_11_20 dX8_feed_113 0 rfl rfl ?_
                  refine x_dup_x1 C dX8_feed_116 rfl rfl ?_
                  refine x_iconst C dX8_feed_117 (v := 1) rfl ?_
                  refine x_iadd C dX8_feed_118 ?_
                  refine x_topi C (nI (((tz + 1) + 1) + 1)) (q_iadd (a := (tz + 1) + 1) (b := 1) rfl (rfl : (1 : Int32) = nI 1)) ?_
                  refine x_put C inlX8 rfl tyX8 tyX8_ok nmX8 10 (by decide) gw_11_20 rfl dX8_feed_119 0 rfl (rfl) rfl (Nat.le_of_ble_eq_true rfl) ?_
                  show X _ _ [(m, .inr (7, [.ref a_sky, .ref a_kind, .ref a_more, .ref a_strewn, .int (nI tn), .ref a_treeCell, .ref a_treeSort, .ref a_treeLeaves, .int i_raking, .long l_heaps, .int (nI (((tz + 1) + 1) + 1)), .ref a_tape, .int (nI wr), .int (nI lw), .ref a_code, .ref a_begins, .int i_made, .int i_at, .int i_from, .int i_sort, .int i_value, .int i_open, .ref a_stack, .ref a_dry, .ref a_wet, .ref a_covered, .ref a_hangs, .ref a_off, .int i_fell, .int i_fellToday, .int i_rotten, .int i_raked, .int i_cost, .ref a_dryGo, .ref a_wetGo, .ref a_keptSky, .int i_imaged, .int (nI itn), .int i_oldRaking, .long l_oldHeaps, .int (nI ilw), .ref a_oldSky, .ref a_oldCells, .ref a_sheetSort, .ref a_sheetSize, .ref a_items, .ref a_spare])), (a_tape, .inl (cI, 160, .inl (upd (upd tpf tz a) (tz + 1) b)))] _ _ _
                  refine x_iload C dX8_feed_122 0 rfl ?_
                  refine x_if_ne C dX8_feed_124 (tgt := 131) rfl (fun _ => ?_) (fun q9 => by first | exact absurd q9 (by decide) | exact absurd (by decide) q9)
                  refine x_iload C dX8_feed_131 0 rfl ?_
                  refine x_iconst C dX8_feed_133 (v := 1) rfl ?_
                  refine x_icmp_ne C dX8_feed_134 (tgt := 141) rfl (fun _ => ?_) (fun q9 => by first | exact absurd q9 (by decide) | exact absurd (by decide) q9)
                  show X _ _ _ _ 141 _
                  refine x_iload C dX8_feed_141 0 rfl ?_
                  refine x_iconst C dX8_feed_143 (v := 2) rfl ?_
                  refine x_icmp_ne C dX8_feed_144 (tgt := 152) rfl (fun q9 => absurd q9 (by decide)) (fun _ => ?_)
                  refine x_iload C dX8_feed_147 5 rfl ?_
                  refine x_goto C dX8_feed_149 (tgt := 165) rfl ?_
                  refine x_iastore C 0 rfl dX8_feed_165 ((tz + 1) + 1) (q_cl rfl (by omega)) (q_ix rfl (by omega) (by omega)) 1 rfl ?_
                  show X _ _ [(m, .inr (7, [.ref a_sky, .ref a_kind, .ref a_more, .ref a_strewn, .int (nI tn), .ref a_treeCell, .ref a_treeSort, .ref a_treeLeaves, .int i_raking, .long l_heaps, .int (nI (((tz + 1) + 1) + 1)), .ref a_tape, .int (nI wr), .int (nI lw), .ref a_code, .ref a_begins, .int i_made, .int i_at, .int i_from, .int i_sort, .int i_value, .int i_open, .ref a_stack, .ref a_dry, .ref a_wet, .ref a_covered, .ref a_hangs, .ref a_off, .int i_fell, .int i_fellToday, .int i_rotten, .int i_raked, .int i_cost, .ref a_dryGo, .ref a_wetGo, .ref a_keptSky, .int i_imaged, .int (nI itn), .int i_oldRaking, .long l_oldHeaps, .int (nI ilw), .ref a_oldSky, .ref a_oldCells, .ref a_sheetSort, .ref a_sheetSize, .ref a_items, .ref a_spare])), (a_tape, .inl (cI, 160, .inl (upd (upd (upd tpf tz a) (tz + 1) b) ((tz + 1) + 1) c)))] _ _ _
                  refine x_iinc C dX8_feed_166 0 rfl (v := 3) (rfl) (by decide) (lv' := [(7, .int 3), (0, .ref m), (1, .int 3), (2, .int a), (3, .int b), (4, .int c), (5, .int d), (6, .int e)]) rfl ?_
                  refine x_goto C dX8_feed_169 (tgt := 101) rfl ?_
                  refine x_iload C dX8_feed_101 0 rfl ?_
                  refine x_iload_n C dX8_feed_103 2 rfl ?_
                  show X _ _ _ _ 104 _
                  refine x_icmp_ge C dX8_feed_104 (tgt := 172) rfl (fun _ => ?_) (fun q9 => by first | exact absurd q9 (by decide) | exact absurd (by decide) q9)
                  refine x_aload_n C dX8_feed_172 1 rfl ?_
                  refine x_get C inlX8 rfl 10 (by decide) gw_11_20 dX8_feed_173 0 rfl rfl ?_
                  refine E dX8_feed_176 (rfl) ?_
                  exact ⟨(nI (((tz + 1) + 1) + 1)), (((tz + 1) + 1) + 1), (upd (upd (upd tpf tz a) (tz + 1) b) ((tz + 1) + 1) c), rfl, rfl, by (unfold o_feed o_feed_n o_feed_f o_fd); (try simp only [hn9]); (repeat (first | rw [if_pos (by first | (rw [if_pos (by decide)]; assumption) | (rw [if_neg (by decide), if_pos (by decide)]; assumption) | (rw [if_neg (by decide), if_neg (by decide)]; assumption) | assumption | decide | omega | exact o_one_t (by assumption) | (rw [o_one_f (by assumption)]; decide) | exact ⟨by assumption, by assumption⟩ | exact fun h9 => absurd h9.1 (by assumption) | exact fun h9 => absurd h9.2 (by assumption))] | rw [if_neg (by first | (rw [if_pos (by decide)]; assumption) | (rw [if_neg (by decide), if_pos (by decide)]; assumption) | (rw [if_neg (by decide), if_neg (by decide)]; assumption) | assumption | decide | omega | exact o_one_t (by assumption) | (rw [o_one_f (by assumption)]; decide) | exact ⟨by assumption, by assumption⟩ | exact fun h9 => absurd h9.1 (by assumption) | exact fun h9 => absurd h9.2 (by assumption))])); all_goals (first | rfl)⟩
                ·
                  have c78 : tz + 3 > 160 := q_le_f (q_iadd (a := tz) (b := 3) rfl (rfl : (3 : Int32) = nI 3)) (rfl : (160 : Int32) = nI 160) (by omega) (by omega) c78
                  refine x_bipush C dX8_feed_95 (v := (-4)) rfl ?_
                  refine E dX8_feed_97 (rfl) ?_
                  exact ⟨(-4), tz, tpf, rfl, rfl, by (unfold o_feed o_feed_n o_feed_f o_fd); (try simp only [hn9]); (repeat (first | rw [if_pos (by first | (rw [if_pos (by decide)]; assumption) | (rw [if_neg (by decide), if_pos (by decide)]; assumption) | (rw [if_neg (by decide), if_neg (by decide)]; assumption) | assumption | decide | omega | exact o_one_t (by assumption) | (rw [o_one_f (by assumption)]; decide) | exact ⟨by assumption, by assumption⟩ | exact fun h9 => absurd h9.1 (by assumption) | exact fun h9 => absurd h9.2 (by assumption))] | rw [if_neg (by first | (rw [if_pos (by decide)]; assumption) | (rw [if_neg (by decide), if_pos (by decide)]; assumption) | (rw [if_neg (by decide), if_neg (by decide)]; assumption) | assumption | decide | omega | exact o_one_t (by assumption) | (rw [o_one_f (by assumption)]; decide) | exact ⟨by assumption, by assumption⟩ | exact fun h9 => absurd h9.1 (by assumption) | exact fun h9 => absurd h9.2 (by assumption))])); all_goals (first | rfl)⟩
              ·
                obtain ⟨rfl, rfl, hf79⟩ := h76
                show X 0 0 [(m, .inr (7, [.ref a_sky, .ref a_kind, .ref a_more, .ref a_strewn, .int (nI tn), .ref a_treeCell, .ref a_treeSort, .ref a_treeLeaves, .int i_raking, .long l_heaps, .int (nI tz), .ref a_tape, .int (nI wr), .int (nI lw), .ref a_code, .ref a_begins, .int i_made, .int i_at, .int i_from, .int i_sort, .int i_value, .int i_open, .ref a_stack, .ref a_dry, .ref a_wet, .ref a_covered, .ref a_hangs, .ref a_off, .int i_fell, .int i_fellToday, .int i_rotten, .int i_raked, .int i_cost, .ref a_dryGo, .ref a_wetGo, .ref a_keptSky, .int i_imaged, .int (nI itn), .int i_oldRaking, .long l_oldHeaps, .int (nI ilw), .ref a_oldSky, .ref a_oldCells, .ref a_sheetSort, .ref a_sheetSize, .ref a_items, .ref a_spare])), (a_tape, .inl (cI, 160, .inl tpf))] [(7, .int 4), (0, .ref m), (1, .int 3), (2, .int a), (3, .int b), (4, .int c), (5, .int d), (6, .int e)] 71 [.int 0]
                refine x_if_ne C dX8_feed_71 (tgt := 77) rfl (fun q9 => absurd q9 (by decide)) (fun _ => ?_)
                refine x_bipush C dX8_feed_74 (v := (-2)) rfl ?_
                refine E dX8_feed_76 (rfl) ?_
                exact ⟨(-2), tz, tpf, rfl, rfl, by (unfold o_feed o_feed_n o_feed_f o_fd); (try simp only [hn9]); (repeat (first | rw [if_pos (by first | (rw [if_pos (by decide)]; assumption) | (rw [if_neg (by decide), if_pos (by decide)]; assumption) | (rw [if_neg (by decide), if_neg (by decide)]; assumption) | assumption | decide | omega | exact o_one_t (by assumption) | (rw [o_one_f (by assumption)]; decide) | exact ⟨by assumption, by assumption⟩ | exact fun h9 => absurd h9.1 (by assumption) | exact fun h9 => absurd h9.2 (by assumption))] | rw [if_neg (by first | (rw [if_pos (by decide)]; assumption) | (rw [if_neg (by decide), if_pos (by decide)]; assumption) | (rw [if_neg (by decide), if_neg (by decide)]; assumption) | assumption | decide | omega | exact o_one_t (by assumption) | (rw [o_one_f (by assumption)]; decide) | exact ⟨by assumption, by assumption⟩ | exact fun h9 => absurd h9.1 (by assumption) | exact fun h9 => absurd h9.2 (by assumption))])); all_goals (first | rfl)⟩
            ·
              obtain ⟨rfl, rfl, hf80⟩ := h72
              show X 0 0 [(m, .inr (7, [.ref a_sky, .ref a_kind, .ref a_more, .ref a_strewn, .int (nI tn), .ref a_treeCell, .ref a_treeSort, .ref a_treeLeaves, .int i_raking, .long l_heaps, .int (nI tz), .ref a_tape, .int (nI wr), .int (nI lw), .ref a_code, .ref a_begins, .int i_made, .int i_at, .int i_from, .int i_sort, .int i_value, .int i_open, .ref a_stack, .ref a_dry, .ref a_wet, .ref a_covered, .ref a_hangs, .ref a_off, .int i_fell, .int i_fellToday, .int i_rotten, .int i_raked, .int i_cost, .ref a_dryGo, .ref a_wetGo, .ref a_keptSky, .int i_imaged, .int (nI itn), .int i_oldRaking, .long l_oldHeaps, .int (nI ilw), .ref a_oldSky, .ref a_oldCells, .ref a_sheetSort, .ref a_sheetSize, .ref a_items, .ref a_spare])), (a_tape, .inl (cI, 160, .inl tpf))] [(7, .int 3), (0, .ref m), (1, .int 3), (2, .int a), (3, .int b), (4, .int c), (5, .int d), (6, .int e)] 71 [.int 0]
              refine x_if_ne C dX8_feed_71 (tgt := 77) rfl (fun q9 => absurd q9 (by decide)) (fun _ => ?_)
              refine x_bipush C dX8_feed_74 (v := (-2)) rfl ?_
              refine E dX8_feed_76 (rfl) ?_
              exact ⟨(-2), tz, tpf, rfl, rfl, by (unfold o_feed o_feed_n o_feed_f o_fd); (try simp only [hn9]); (repeat (first | rw [if_pos (by first | (rw [if_pos (by decide)]; assumption) | (rw [if_neg (by decide), if_pos (by decide)]; assumption) | (rw [if_neg (by decide), if_neg (by decide)]; assumption) | assumption | decide | omega | exact o_one_t (by assumption) | (rw [o_one_f (by assumption)]; decide) | exact ⟨by assumption, by assumption⟩ | exact fun h9 => absurd h9.1 (by assumption) | exact fun h9 => absurd h9.2 (by assumption))] | rw [if_neg (by first | (rw [if_pos (by decide)]; assumption) | (rw [if_neg (by decide), if_pos (by decide)]; assumption) | (rw [if_neg (by decide), if_neg (by decide)]; assumption) | assumption | decide | omega | exact o_one_t (by assumption) | (rw [o_one_f (by assumption)]; decide) | exact ⟨by assumption, by assumption⟩ | exact fun h9 => absurd h9.1 (by assumption) | exact fun h9 => absurd h9.2 (by assumption))])); all_goals (first | rfl)⟩
          ·
            obtain ⟨rfl, rfl, hf81⟩ := h68
            show X 0 0 [(m, .inr (7, [.ref a_sky, .ref a_kind, .ref a_more, .ref a_strewn, .int (nI tn), .ref a_treeCell, .ref a_treeSort, .ref a_treeLeaves, .int i_raking, .long l_heaps, .int (nI tz), .ref a_tape, .int (nI wr), .int (nI lw), .ref a_code, .ref a_begins, .int i_made, .int i_at, .int i_from, .int i_sort, .int i_value, .int i_open, .ref a_stack, .ref a_dry, .ref a_wet, .ref a_covered, .ref a_hangs, .ref a_off, .int i_fell, .int i_fellToday, .int i_rotten, .int i_raked, .int i_cost, .ref a_dryGo, .ref a_wetGo, .ref a_keptSky, .int i_imaged, .int (nI itn), .int i_oldRaking, .long l_oldHeaps, .int (nI ilw), .ref a_oldSky, .ref a_oldCells, .ref a_sheetSort, .ref a_sheetSize, .ref a_items, .ref a_spare])), (a_tape, .inl (cI, 160, .inl tpf))] [(7, .int 2), (0, .ref m), (1, .int 3), (2, .int a), (3, .int b), (4, .int c), (5, .int d), (6, .int e)] 71 [.int 0]
            refine x_if_ne C dX8_feed_71 (tgt := 77) rfl (fun q9 => absurd q9 (by decide)) (fun _ => ?_)
            refine x_bipush C dX8_feed_74 (v := (-2)) rfl ?_
            refine E dX8_feed_76 (rfl) ?_
            exact ⟨(-2), tz, tpf, rfl, rfl, by (unfold o_feed o_feed_n o_feed_f o_fd); (try simp only [hn9]); (repeat (first | rw [if_pos (by first | (rw [if_pos (by decide)]; assumption) | (rw [if_neg (by decide), if_pos (by decide)]; assumption) | (rw [if_neg (by decide), if_neg (by decide)]; assumption) | assumption | decide | omega | exact o_one_t (by assumption) | (rw [o_one_f (by assumption)]; decide) | exact ⟨by assumption, by assumption⟩ | exact fun h9 => absurd h9.1 (by assumption) | exact fun h9 => absurd h9.2 (by assumption))] | rw [if_neg (by first | (rw [if_pos (by decide)]; assumption) | (rw [if_neg (by decide), if_pos (by decide)]; assumption) | (rw [if_neg (by decide), if_neg (by decide)]; assumption) | assumption | decide | omega | exact o_one_t (by assumption) | (rw [o_one_f (by assumption)]; decide) | exact ⟨by assumption, by assumption⟩ | exact fun h9 => absurd h9.1 (by assumption) | exact fun h9 => absurd h9.2 (by assumption))])); all_goals (first | rfl)⟩
        ·
          obtain ⟨rfl, rfl, hf82⟩ := h64
          show X 0 0 [(m, .inr (7, [.ref a_sky, .ref a_kind, .ref a_more, .ref a_strewn, .int (nI tn), .ref a_treeCell, .ref a_treeSort, .ref a_treeLeaves, .int i_raking, .long l_heaps, .int (nI tz), .ref a_tape, .int (nI wr), .int (nI lw), .ref a_code, .ref a_begins, .int i_made, .int i_at, .int i_from, .int i_sort, .int i_value, .int i_open, .ref a_stack, .ref a_dry, .ref a_wet, .ref a_covered, .ref a_hangs, .ref a_off, .int i_fell, .int i_fellToday, .int i_rotten, .int i_raked, .int i_cost, .ref a_dryGo, .ref a_wetGo, .ref a_keptSky, .int i_imaged, .int (nI itn), .int i_oldRaking, .long l_oldHeaps, .int (nI ilw), .ref a_oldSky, .ref a_oldCells, .ref a_sheetSort, .ref a_sheetSize, .ref a_items, .ref a_spare])), (a_tape, .inl (cI, 160, .inl tpf))] [(7, .int 1), (0, .ref m), (1, .int 3), (2, .int a), (3, .int b), (4, .int c), (5, .int d), (6, .int e)] 71 [.int 0]
          refine x_if_ne C dX8_feed_71 (tgt := 77) rfl (fun q9 => absurd q9 (by decide)) (fun _ => ?_)
          refine x_bipush C dX8_feed_74 (v := (-2)) rfl ?_
          refine E dX8_feed_76 (rfl) ?_
          exact ⟨(-2), tz, tpf, rfl, rfl, by (unfold o_feed o_feed_n o_feed_f o_fd); (try simp only [hn9]); (repeat (first | rw [if_pos (by first | (rw [if_pos (by decide)]; assumption) | (rw [if_neg (by decide), if_pos (by decide)]; assumption) | (rw [if_neg (by decide), if_neg (by decide)]; assumption) | assumption | decide | omega | exact o_one_t (by assumption) | (rw [o_one_f (by assumption)]; decide) | exact ⟨by assumption, by assumption⟩ | exact fun h9 => absurd h9.1 (by assumption) | exact fun h9 => absurd h9.2 (by assumption))] | rw [if_neg (by first | (rw [if_pos (by decide)]; assumption) | (rw [if_neg (by decide), if_pos (by decide)]; assumption) | (rw [if_neg (by decide), if_neg (by decide)]; assumption) | assumption | decide | omega | exact o_one_t (by assumption) | (rw [o_one_f (by assumption)]; decide) | exact ⟨by assumption, by assumption⟩ | exact fun h9 => absurd h9.1 (by assumption) | exact fun h9 => absurd h9.2 (by assumption))])); all_goals (first | rfl)⟩
      ·
        obtain ⟨rfl, rfl, hf83⟩ := h60
        show X 0 0 [(m, .inr (7, [.ref a_sky, .ref a_kind, .ref a_more, .ref a_strewn, .int (nI tn), .ref a_treeCell, .ref a_treeSort, .ref a_treeLeaves, .int i_raking, .long l_heaps, .int (nI tz), .ref a_tape, .int (nI wr), .int (nI lw), .ref a_code, .ref a_begins, .int i_made, .int i_at, .int i_from, .int i_sort, .int i_value, .int i_open, .ref a_stack, .ref a_dry, .ref a_wet, .ref a_covered, .ref a_hangs, .ref a_off, .int i_fell, .int i_fellToday, .int i_rotten, .int i_raked, .int i_cost, .ref a_dryGo, .ref a_wetGo, .ref a_keptSky, .int i_imaged, .int (nI itn), .int i_oldRaking, .long l_oldHeaps, .int (nI ilw), .ref a_oldSky, .ref a_oldCells, .ref a_sheetSort, .ref a_sheetSize, .ref a_items, .ref a_spare])), (a_tape, .inl (cI, 160, .inl tpf))] [(7, .int 0), (0, .ref m), (1, .int 3), (2, .int a), (3, .int b), (4, .int c), (5, .int d), (6, .int e)] 71 [.int 0]
        refine x_if_ne C dX8_feed_71 (tgt := 77) rfl (fun q9 => absurd q9 (by decide)) (fun _ => ?_)
        refine x_bipush C dX8_feed_74 (v := (-2)) rfl ?_
        refine E dX8_feed_76 (rfl) ?_
        exact ⟨(-2), tz, tpf, rfl, rfl, by (unfold o_feed o_feed_n o_feed_f o_fd); (try simp only [hn9]); (repeat (first | rw [if_pos (by first | (rw [if_pos (by decide)]; assumption) | (rw [if_neg (by decide), if_pos (by decide)]; assumption) | (rw [if_neg (by decide), if_neg (by decide)]; assumption) | assumption | decide | omega | exact o_one_t (by assumption) | (rw [o_one_f (by assumption)]; decide) | exact ⟨by assumption, by assumption⟩ | exact fun h9 => absurd h9.1 (by assumption) | exact fun h9 => absurd h9.2 (by assumption))] | rw [if_neg (by first | (rw [if_pos (by decide)]; assumption) | (rw [if_neg (by decide), if_pos (by decide)]; assumption) | (rw [if_neg (by decide), if_neg (by decide)]; assumption) | assumption | decide | omega | exact o_one_t (by assumption) | (rw [o_one_f (by assumption)]; decide) | exact ⟨by assumption, by assumption⟩ | exact fun h9 => absurd h9.1 (by assumption) | exact fun h9 => absurd h9.2 (by assumption))])); all_goals (first | rfl)⟩
    ·
      have hn9 : o_n 4 = 4 := rfl
      refine x_if_ne C dX8_feed_6 (tgt := 12) rfl (fun _ => ?_) (fun q9 => by first | exact absurd q9 (by decide) | exact absurd (by decide) q9)
      refine x_iconst C dX8_feed_12 (v := 0) rfl ?_
      refine x_istore C dX8_feed_13 (by decide) (lv' := [(7, .int 0), (0, .ref m), (1, .int 4), (2, .int a), (3, .int b), (4, .int c), (5, .int d), (6, .int e)]) rfl ?_
      refine x_iload C dX8_feed_15 0 rfl ?_
      refine x_iconst C dX8_feed_17 (v := 5) rfl ?_
      refine x_icmp_ge C dX8_feed_18 (tgt := 83) rfl (fun q9 => absurd q9 (by decide)) (fun _ => ?_)
      refine x_iload C dX8_feed_21 0 rfl ?_
      refine x_if_ne C dX8_feed_23 (tgt := 30) rfl (fun q9 => absurd q9 (by decide)) (fun _ => ?_)
      refine x_iload_n C dX8_feed_26 3 rfl ?_
      refine x_goto C dX8_feed_27 (tgt := 64) rfl ?_
      show X _ _ _ _ 64 _
      refine x_iconst C dX8_feed_64 (v := 0) rfl ?_
      refine x_sipush C dX8_feed_65 (v := 255) rfl ?_
      refine x_callS C (As := [.int a, .int 0, .int 255]) (st := []) (wc := []) (wr := [(m, .inr (7, [.ref a_sky, .ref a_kind, .ref a_more, .ref a_strewn, .int (nI tn), .ref a_treeCell, .ref a_treeSort, .ref a_treeLeaves, .int i_raking, .long l_heaps, .int (nI tz), .ref a_tape, .int (nI wr), .int (nI lw), .ref a_code, .ref a_begins, .int i_made, .int i_at, .int i_from, .int i_sort, .int i_value, .int i_open, .ref a_stack, .ref a_dry, .ref a_wet, .ref a_covered, .ref a_hangs, .ref a_off, .int i_fell, .int i_fellToday, .int i_rotten, .int i_raked, .int i_cost, .ref a_dryGo, .ref a_wetGo, .ref a_keptSky, .int i_imaged, .int (nI itn), .int i_oldRaking, .long l_oldHeaps, .int (nI ilw), .ref a_oldSky, .ref a_oldCells, .ref a_sheetSort, .ref a_sheetSize, .ref a_items, .ref a_spare])), (a_tape, .inl (cI, 160, .inl tpf))]) (c_X8_within l dG cI cM cW cS a 0 255 ) rZ0_ok (fun _ _ _ _ => trivial) kS_X8_108 hy_X8_within ⟨Nat.le_of_ble_eq_true rfl, Nat.le_of_ble_eq_true rfl⟩ ⟨Nat.le_of_ble_eq_true rfl, Nat.le_of_ble_eq_true rfl⟩ dX8_feed_68 [] [0, 1] rfl rfl rfl rfl (by decide) rfl (Nat.le_of_ble_eq_true rfl) ?_
      intro v84 w85 h86
      rcases h86 with h86 | h86
      ·
        obtain ⟨rfl, rfl, hf87⟩ := h86
        show X 0 0 [(m, .inr (7, [.ref a_sky, .ref a_kind, .ref a_more, .ref a_strewn, .int (nI tn), .ref a_treeCell, .ref a_treeSort, .ref a_treeLeaves, .int i_raking, .long l_heaps, .int (nI tz), .ref a_tape, .int (nI wr), .int (nI lw), .ref a_code, .ref a_begins, .int i_made, .int i_at, .int i_from, .int i_sort, .int i_value, .int i_open, .ref a_stack, .ref a_dry, .ref a_wet, .ref a_covered, .ref a_hangs, .ref a_off, .int i_fell, .int i_fellToday, .int i_rotten, .int i_raked, .int i_cost, .ref a_dryGo, .ref a_wetGo, .ref a_keptSky, .int i_imaged, .int (nI itn), .int i_oldRaking, .long l_oldHeaps, .int (nI ilw), .ref a_oldSky, .ref a_oldCells, .ref a_sheetSort, .ref a_sheetSize, .ref a_items, .ref a_spare])), (a_tape, .inl (cI, 160, .inl tpf))] [(7, .int 0), (0, .ref m), (1, .int 4), (2, .int a), (3, .int b), (4, .int c), (5, .int d), (6, .int e)] 71 [.int 1]
        refine x_if_ne C dX8_feed_71 (tgt := 77) rfl (fun _ => ?_) (fun q9 => by first | exact absurd q9 (by decide) | exact absurd (by decide) q9)
        refine x_iinc C dX8_feed_77 0 rfl (v := 1) (rfl) (by decide) (lv' := [(7, .int 1), (0, .ref m), (1, .int 4), (2, .int a), (3, .int b), (4, .int c), (5, .int d), (6, .int e)]) rfl ?_
        refine x_goto C dX8_feed_80 (tgt := 15) rfl ?_
        refine x_iload C dX8_feed_15 0 rfl ?_
        refine x_iconst C dX8_feed_17 (v := 5) rfl ?_
        refine x_icmp_ge C dX8_feed_18 (tgt := 83) rfl (fun q9 => absurd q9 (by decide)) (fun _ => ?_)
        refine x_iload C dX8_feed_21 0 rfl ?_
        refine x_if_ne C dX8_feed_23 (tgt := 30) rfl (fun _ => ?_) (fun q9 => by first | exact absurd q9 (by decide) | exact absurd (by decide) q9)
        refine x_iload C dX8_feed_30 0 rfl ?_
        refine x_iconst C dX8_feed_32 (v := 1) rfl ?_
        show X _ _ _ _ 33 _
        refine x_icmp_ne C dX8_feed_33 (tgt := 40) rfl (fun q9 => absurd q9 (by decide)) (fun _ => ?_)
        refine x_iload_n C dX8_feed_36 4 rfl ?_
        refine x_goto C dX8_feed_37 (tgt := 64) rfl ?_
        refine x_iconst C dX8_feed_64 (v := 0) rfl ?_
        refine x_sipush C dX8_feed_65 (v := 255) rfl ?_
        refine x_callS C (As := [.int b, .int 0, .int 255]) (st := []) (wc := []) (wr := [(m, .inr (7, [.ref a_sky, .ref a_kind, .ref a_more, .ref a_strewn, .int (nI tn), .ref a_treeCell, .ref a_treeSort, .ref a_treeLeaves, .int i_raking, .long l_heaps, .int (nI tz), .ref a_tape, .int (nI wr), .int (nI lw), .ref a_code, .ref a_begins, .int i_made, .int i_at, .int i_from, .int i_sort, .int i_value, .int i_open, .ref a_stack, .ref a_dry, .ref a_wet, .ref a_covered, .ref a_hangs, .ref a_off, .int i_fell, .int i_fellToday, .int i_rotten, .int i_raked, .int i_cost, .ref a_dryGo, .ref a_wetGo, .ref a_keptSky, .int i_imaged, .int (nI itn), .int i_oldRaking, .long l_oldHeaps, .int (nI ilw), .ref a_oldSky, .ref a_oldCells, .ref a_sheetSort, .ref a_sheetSize, .ref a_items, .ref a_spare])), (a_tape, .inl (cI, 160, .inl tpf))]) (c_X8_within l dG cI cM cW cS b 0 255 ) rZ0_ok (fun _ _ _ _ => trivial) kS_X8_108 hy_X8_within ⟨Nat.le_of_ble_eq_true rfl, Nat.le_of_ble_eq_true rfl⟩ ⟨Nat.le_of_ble_eq_true rfl, Nat.le_of_ble_eq_true rfl⟩ dX8_feed_68 [] [0, 1] rfl rfl rfl rfl (by decide) rfl (Nat.le_of_ble_eq_true rfl) ?_
        intro v88 w89 h90
        rcases h90 with h90 | h90
        ·
          obtain ⟨rfl, rfl, hf91⟩ := h90
          show X 0 0 [(m, .inr (7, [.ref a_sky, .ref a_kind, .ref a_more, .ref a_strewn, .int (nI tn), .ref a_treeCell, .ref a_treeSort, .ref a_treeLeaves, .int i_raking, .long l_heaps, .int (nI tz), .ref a_tape, .int (nI wr), .int (nI lw), .ref a_code, .ref a_begins, .int i_made, .int i_at, .int i_from, .int i_sort, .int i_value, .int i_open, .ref a_stack, .ref a_dry, .ref a_wet, .ref a_covered, .ref a_hangs, .ref a_off, .int i_fell, .int i_fellToday, .int i_rotten, .int i_raked, .int i_cost, .ref a_dryGo, .ref a_wetGo, .ref a_keptSky, .int i_imaged, .int (nI itn), .int i_oldRaking, .long l_oldHeaps, .int (nI ilw), .ref a_oldSky, .ref a_oldCells, .ref a_sheetSort, .ref a_sheetSize, .ref a_items, .ref a_spare])), (a_tape, .inl (cI, 160, .inl tpf))] [(7, .int 1), (0, .ref m), (1, .int 4), (2, .int a), (3, .int b), (4, .int c), (5, .int d), (6, .int e)] 71 [.int 1]
          refine x_if_ne C dX8_feed_71 (tgt := 77) rfl (fun _ => ?_) (fun q9 => by first | exact absurd q9 (by decide) | exact absurd (by decide) q9)
          refine x_iinc C dX8_feed_77 0 rfl (v := 2) (rfl) (by decide) (lv' := [(7, .int 2), (0, .ref m), (1, .int 4), (2, .int a), (3, .int b), (4, .int c), (5, .int d), (6, .int e)]) rfl ?_
          refine x_goto C dX8_feed_80 (tgt := 15) rfl ?_
          refine x_iload C dX8_feed_15 0 rfl ?_
          refine x_iconst C dX8_feed_17 (v := 5) rfl ?_
          refine x_icmp_ge C dX8_feed_18 (tgt := 83) rfl (fun q9 => absurd q9 (by decide)) (fun _ => ?_)
          refine x_iload C dX8_feed_21 0 rfl ?_
          refine x_if_ne C dX8_feed_23 (tgt := 30) rfl (fun _ => ?_) (fun q9 => by first | exact absurd q9 (by decide) | exact absurd (by decide) q9)
          refine x_iload C dX8_feed_30 0 rfl ?_
          refine x_iconst C dX8_feed_32 (v := 1) rfl ?_
          show X _ _ _ _ 33 _
          refine x_icmp_ne C dX8_feed_33 (tgt := 40) rfl (fun _ => ?_) (fun q9 => by first | exact absurd q9 (by decide) | exact absurd (by decide) q9)
          refine x_iload C dX8_feed_40 0 rfl ?_
          refine x_iconst C dX8_feed_42 (v := 2) rfl ?_
          refine x_icmp_ne C dX8_feed_43 (tgt := 51) rfl (fun q9 => absurd q9 (by decide)) (fun _ => ?_)
          refine x_iload C dX8_feed_46 5 rfl ?_
          refine x_goto C dX8_feed_48 (tgt := 64) rfl ?_
          refine x_iconst C dX8_feed_64 (v := 0) rfl ?_
          refine x_sipush C dX8_feed_65 (v := 255) rfl ?_
          refine x_callS C (As := [.int c, .int 0, .int 255]) (st := []) (wc := []) (wr := [(m, .inr (7, [.ref a_sky, .ref a_kind, .ref a_more, .ref a_strewn, .int (nI tn), .ref a_treeCell, .ref a_treeSort, .ref a_treeLeaves, .int i_raking, .long l_heaps, .int (nI tz), .ref a_tape, .int (nI wr), .int (nI lw), .ref a_code, .ref a_begins, .int i_made, .int i_at, .int i_from, .int i_sort, .int i_value, .int i_open, .ref a_stack, .ref a_dry, .ref a_wet, .ref a_covered, .ref a_hangs, .ref a_off, .int i_fell, .int i_fellToday, .int i_rotten, .int i_raked, .int i_cost, .ref a_dryGo, .ref a_wetGo, .ref a_keptSky, .int i_imaged, .int (nI itn), .int i_oldRaking, .long l_oldHeaps, .int (nI ilw), .ref a_oldSky, .ref a_oldCells, .ref a_sheetSort, .ref a_sheetSize, .ref a_items, .ref a_spare])), (a_tape, .inl (cI, 160, .inl tpf))]) (c_X8_within l dG cI cM cW cS c 0 255 ) rZ0_ok (fun _ _ _ _ => trivial) kS_X8_108 hy_X8_within ⟨Nat.le_of_ble_eq_true rfl, Nat.le_of_ble_eq_true rfl⟩ ⟨Nat.le_of_ble_eq_true rfl, Nat.le_of_ble_eq_true rfl⟩ dX8_feed_68 [] [0, 1] rfl rfl rfl rfl (by decide) rfl (Nat.le_of_ble_eq_true rfl) ?_
          intro v92 w93 h94
          rcases h94 with h94 | h94
          ·
            obtain ⟨rfl, rfl, hf95⟩ := h94
            show X 0 0 [(m, .inr (7, [.ref a_sky, .ref a_kind, .ref a_more, .ref a_strewn, .int (nI tn), .ref a_treeCell, .ref a_treeSort, .ref a_treeLeaves, .int i_raking, .long l_heaps, .int (nI tz), .ref a_tape, .int (nI wr), .int (nI lw), .ref a_code, .ref a_begins, .int i_made, .int i_at, .int i_from, .int i_sort, .int i_value, .int i_open, .ref a_stack, .ref a_dry, .ref a_wet, .ref a_covered, .ref a_hangs, .ref a_off, .int i_fell, .int i_fellToday, .int i_rotten, .int i_raked, .int i_cost, .ref a_dryGo, .ref a_wetGo, .ref a_keptSky, .int i_imaged, .int (nI itn), .int i_oldRaking, .long l_oldHeaps, .int (nI ilw), .ref a_oldSky, .ref a_oldCells, .ref a_sheetSort, .ref a_sheetSize, .ref a_items, .ref a_spare])), (a_tape, .inl (cI, 160, .inl tpf))] [(7, .int 2), (0, .ref m), (1, .int 4), (2, .int a), (3, .int b), (4, .int c), (5, .int d), (6, .int e)] 71 [.int 1]
            refine x_if_ne C dX8_feed_71 (tgt := 77) rfl (fun _ => ?_) (fun q9 => by first | exact absurd q9 (by decide) | exact absurd (by decide) q9)
            refine x_iinc C dX8_feed_77 0 rfl (v := 3) (rfl) (by decide) (lv' := [(7, .int 3), (0, .ref m), (1, .int 4), (2, .int a), (3, .int b), (4, .int c), (5, .int d), (6, .int e)]) rfl ?_
            refine x_goto C dX8_feed_80 (tgt := 15) rfl ?_
            refine x_iload C dX8_feed_15 0 rfl ?_
            refine x_iconst C dX8_feed_17 (v := 5) rfl ?_
            refine x_icmp_ge C dX8_feed_18 (tgt := 83) rfl (fun q9 => absurd q9 (by decide)) (fun _ => ?_)
            refine x_iload C dX8_feed_21 0 rfl ?_
            refine x_if_ne C dX8_feed_23 (tgt := 30) rfl (fun _ => ?_) (fun q9 => by first | exact absurd q9 (by decide) | exact absurd (by decide) q9)
            refine x_iload C dX8_feed_30 0 rfl ?_
            refine x_iconst C dX8_feed_32 (v := 1) rfl ?_
            show X _ _ _ _ 33 _
            refine x_icmp_ne C dX8_feed_33 (tgt := 40) rfl (fun _ => ?_) (fun q9 => by first | exact absurd q9 (by decide) | exact absurd (by decide) q9)
            refine x_iload C dX8_feed_40 0 rfl ?_
            refine x_iconst C dX8_feed_42 (v := 2) rfl ?_
            refine x_icmp_ne C dX8_feed_43 (tgt := 51) rfl (fun _ => ?_) (fun q9 => by first | exact absurd q9 (by decide) | exact absurd (by decide) q9)
            refine x_iload C dX8_feed_51 0 rfl ?_
            refine x_iconst C dX8_feed_53 (v := 3) rfl ?_
            refine x_icmp_ne C dX8_feed_54 (tgt := 62) rfl (fun q9 => absurd q9 (by decide)) (fun _ => ?_)
            refine x_iload C dX8_feed_57 6 rfl ?_
            refine x_goto C dX8_feed_59 (tgt := 64) rfl ?_
            refine x_iconst C dX8_feed_64 (v := 0) rfl ?_
            show X _ _ _ _ 65 _
            refine x_sipush C dX8_feed_65 (v := 255) rfl ?_
            refine x_callS C (As := [.int d, .int 0, .int 255]) (st := []) (wc := []) (wr := [(m, .inr (7, [.ref a_sky, .ref a_kind, .ref a_more, .ref a_strewn, .int (nI tn), .ref a_treeCell, .ref a_treeSort, .ref a_treeLeaves, .int i_raking, .long l_heaps, .int (nI tz), .ref a_tape, .int (nI wr), .int (nI lw), .ref a_code, .ref a_begins, .int i_made, .int i_at, .int i_from, .int i_sort, .int i_value, .int i_open, .ref a_stack, .ref a_dry, .ref a_wet, .ref a_covered, .ref a_hangs, .ref a_off, .int i_fell, .int i_fellToday, .int i_rotten, .int i_raked, .int i_cost, .ref a_dryGo, .ref a_wetGo, .ref a_keptSky, .int i_imaged, .int (nI itn), .int i_oldRaking, .long l_oldHeaps, .int (nI ilw), .ref a_oldSky, .ref a_oldCells, .ref a_sheetSort, .ref a_sheetSize, .ref a_items, .ref a_spare])), (a_tape, .inl (cI, 160, .inl tpf))]) (c_X8_within l dG cI cM cW cS d 0 255 ) rZ0_ok (fun _ _ _ _ => trivial) kS_X8_108 hy_X8_within ⟨Nat.le_of_ble_eq_true rfl, Nat.le_of_ble_eq_true rfl⟩ ⟨Nat.le_of_ble_eq_true rfl, Nat.le_of_ble_eq_true rfl⟩ dX8_feed_68 [] [0, 1] rfl rfl rfl rfl (by decide) rfl (Nat.le_of_ble_eq_true rfl) ?_
            intro v96 w97 h98
            rcases h98 with h98 | h98
            ·
              obtain ⟨rfl, rfl, hf99⟩ := h98
              show X 0 0 [(m, .inr (7, [.ref a_sky, .ref a_kind, .ref a_more, .ref a_strewn, .int (nI tn), .ref a_treeCell, .ref a_treeSort, .ref a_treeLeaves, .int i_raking, .long l_heaps, .int (nI tz), .ref a_tape, .int (nI wr), .int (nI lw), .ref a_code, .ref a_begins, .int i_made, .int i_at, .int i_from, .int i_sort, .int i_value, .int i_open, .ref a_stack, .ref a_dry, .ref a_wet, .ref a_covered, .ref a_hangs, .ref a_off, .int i_fell, .int i_fellToday, .int i_rotten, .int i_raked, .int i_cost, .ref a_dryGo, .ref a_wetGo, .ref a_keptSky, .int i_imaged, .int (nI itn), .int i_oldRaking, .long l_oldHeaps, .int (nI ilw), .ref a_oldSky, .ref a_oldCells, .ref a_sheetSort, .ref a_sheetSize, .ref a_items, .ref a_spare])), (a_tape, .inl (cI, 160, .inl tpf))] [(7, .int 3), (0, .ref m), (1, .int 4), (2, .int a), (3, .int b), (4, .int c), (5, .int d), (6, .int e)] 71 [.int 1]
              refine x_if_ne C dX8_feed_71 (tgt := 77) rfl (fun _ => ?_) (fun q9 => by first | exact absurd q9 (by decide) | exact absurd (by decide) q9)
              refine x_iinc C dX8_feed_77 0 rfl (v := 4) (rfl) (by decide) (lv' := [(7, .int 4), (0, .ref m), (1, .int 4), (2, .int a), (3, .int b), (4, .int c), (5, .int d), (6, .int e)]) rfl ?_
              refine x_goto C dX8_feed_80 (tgt := 15) rfl ?_
              refine x_iload C dX8_feed_15 0 rfl ?_
              refine x_iconst C dX8_feed_17 (v := 5) rfl ?_
              refine x_icmp_ge C dX8_feed_18 (tgt := 83) rfl (fun q9 => absurd q9 (by decide)) (fun _ => ?_)
              refine x_iload C dX8_feed_21 0 rfl ?_
              refine x_if_ne C dX8_feed_23 (tgt := 30) rfl (fun _ => ?_) (fun q9 => by first | exact absurd q9 (by decide) | exact absurd (by decide) q9)
              refine x_iload C dX8_feed_30 0 rfl ?_
              refine x_iconst C dX8_feed_32 (v := 1) rfl ?_
              show X _ _ _ _ 33 _
              refine x_icmp_ne C dX8_feed_33 (tgt := 40) rfl (fun _ => ?_) (fun q9 => by first | exact absurd q9 (by decide) | exact absurd (by decide) q9)
              refine x_iload C dX8_feed_40 0 rfl ?_
              refine x_iconst C dX8_feed_42 (v := 2) rfl ?_
              refine x_icmp_ne C dX8_feed_43 (tgt := 51) rfl (fun _ => ?_) (fun q9 => by first | exact absurd q9 (by decide) | exact absurd (by decide) q9)
              refine x_iload C dX8_feed_51 0 rfl ?_
              refine x_iconst C dX8_feed_53 (v := 3) rfl ?_
              refine x_icmp_ne C dX8_feed_54 (tgt := 62) rfl (fun _ => ?_) (fun q9 => by first | exact absurd q9 (by decide) | exact absurd (by decide) q9)
              refine x_iload C dX8_feed_62 7 rfl ?_
              refine x_iconst C dX8_feed_64 (v := 0) rfl ?_
              refine x_sipush C dX8_feed_65 (v := 255) rfl ?_
              show X _ _ _ _ 68 _
              refine x_callS C (As := [.int e, .int 0, .int 255]) (st := []) (wc := []) (wr := [(m, .inr (7, [.ref a_sky, .ref a_kind, .ref a_more, .ref a_strewn, .int (nI tn), .ref a_treeCell, .ref a_treeSort, .ref a_treeLeaves, .int i_raking, .long l_heaps, .int (nI tz), .ref a_tape, .int (nI wr), .int (nI lw), .ref a_code, .ref a_begins, .int i_made, .int i_at, .int i_from, .int i_sort, .int i_value, .int i_open, .ref a_stack, .ref a_dry, .ref a_wet, .ref a_covered, .ref a_hangs, .ref a_off, .int i_fell, .int i_fellToday, .int i_rotten, .int i_raked, .int i_cost, .ref a_dryGo, .ref a_wetGo, .ref a_keptSky, .int i_imaged, .int (nI itn), .int i_oldRaking, .long l_oldHeaps, .int (nI ilw), .ref a_oldSky, .ref a_oldCells, .ref a_sheetSort, .ref a_sheetSize, .ref a_items, .ref a_spare])), (a_tape, .inl (cI, 160, .inl tpf))]) (c_X8_within l dG cI cM cW cS e 0 255 ) rZ0_ok (fun _ _ _ _ => trivial) kS_X8_108 hy_X8_within ⟨Nat.le_of_ble_eq_true rfl, Nat.le_of_ble_eq_true rfl⟩ ⟨Nat.le_of_ble_eq_true rfl, Nat.le_of_ble_eq_true rfl⟩ dX8_feed_68 [] [0, 1] rfl rfl rfl rfl (by decide) rfl (Nat.le_of_ble_eq_true rfl) ?_
              intro v100 w101 h102
              rcases h102 with h102 | h102
              ·
                obtain ⟨rfl, rfl, hf103⟩ := h102
                show X 0 0 [(m, .inr (7, [.ref a_sky, .ref a_kind, .ref a_more, .ref a_strewn, .int (nI tn), .ref a_treeCell, .ref a_treeSort, .ref a_treeLeaves, .int i_raking, .long l_heaps, .int (nI tz), .ref a_tape, .int (nI wr), .int (nI lw), .ref a_code, .ref a_begins, .int i_made, .int i_at, .int i_from, .int i_sort, .int i_value, .int i_open, .ref a_stack, .ref a_dry, .ref a_wet, .ref a_covered, .ref a_hangs, .ref a_off, .int i_fell, .int i_fellToday, .int i_rotten, .int i_raked, .int i_cost, .ref a_dryGo, .ref a_wetGo, .ref a_keptSky, .int i_imaged, .int (nI itn), .int i_oldRaking, .long l_oldHeaps, .int (nI ilw), .ref a_oldSky, .ref a_oldCells, .ref a_sheetSort, .ref a_sheetSize, .ref a_items, .ref a_spare])), (a_tape, .inl (cI, 160, .inl tpf))] [(7, .int 4), (0, .ref m), (1, .int 4), (2, .int a), (3, .int b), (4, .int c), (5, .int d), (6, .int e)] 71 [.int 1]
                refine x_if_ne C dX8_feed_71 (tgt := 77) rfl (fun _ => ?_) (fun q9 => by first | exact absurd q9 (by decide) | exact absurd (by decide) q9)
                refine x_iinc C dX8_feed_77 0 rfl (v := 5) (rfl) (by decide) (lv' := [(7, .int 5), (0, .ref m), (1, .int 4), (2, .int a), (3, .int b), (4, .int c), (5, .int d), (6, .int e)]) rfl ?_
                refine x_goto C dX8_feed_80 (tgt := 15) rfl ?_
                refine x_iload C dX8_feed_15 0 rfl ?_
                refine x_iconst C dX8_feed_17 (v := 5) rfl ?_
                refine x_icmp_ge C dX8_feed_18 (tgt := 83) rfl (fun _ => ?_) (fun q9 => by first | exact absurd q9 (by decide) | exact absurd (by decide) q9)
                refine x_aload_n C dX8_feed_83 1 rfl ?_
                refine x_get C inlX8 rfl 10 (by decide) gw_11_20 dX8_feed_84 0 rfl rfl ?_
                refine x_iload_n C dX8_feed_87 2 rfl ?_
                refine x_iadd C dX8_feed_88 ?_
                show X _ _ _ _ 89 _
                refine x_sipush C dX8_feed_89 (v := 160) rfl ?_
                refine x_icmp_le C dX8_feed_92 (tgt := 98) rfl (fun c104 => ?_) (fun c104 => ?_)
                ·
                  have c104 : tz + 4 ≤ 160 := q_le_t (q_iadd (a := tz) (b := 4) rfl (rfl : (4 : Int32) = nI 4)) (rfl : (160 : Int32) = nI 160) (by omega) (by omega) c104
                  refine x_iconst C dX8_feed_98 (v := 0) rfl ?_
                  refine x_istore C dX8_feed_99 (by decide) (lv' := [(7, .int 0), (0, .ref m), (1, .int 4), (2, .int a), (3, .int b), (4, .int c), (5, .int d), (6, .int e)]) rfl ?_
                  refine x_iload C dX8_feed_101 0 rfl ?_
                  refine x_iload_n C dX8_feed_103 2 rfl ?_
                  refine x_icmp_ge C dX8_feed_104 (tgt := 172) rfl (fun q9 => absurd q9 (by decide)) (fun _ => ?_)
                  refine x_aload_n C dX8_feed_107 1 rfl ?_
                  refine x_get C inlX8 rfl 11 (by decide) gw_11_1 dX8_feed_108 0 rfl rfl ?_
                  refine x_aload_n C dX8_feed_111 1 rfl ?_
                  refine x_dup C dX8_feed_112 rfl ?_
                  refine x_get C inlX8 rfl 10 (by decide) gw_11_20 dX8_feed_113 0 rfl rfl ?_
                  show X _ _ _ _ 116 _
                  refine x_dup_x1 C dX8_feed_116 rfl rfl ?_
                  refine x_iconst C dX8_feed_117 (v := 1) rfl ?_
                  refine x_iadd C dX8_feed_118 ?_
                  refine x_topi C (nI (tz + 1)) (q_iadd (a := tz) (b := 1) rfl (rfl : (1 : Int32) = nI 1)) ?_
                  refine x_put C inlX8 rfl tyX8 tyX8_ok nmX8 10 (by decide) gw_11_20 rfl dX8_feed_119 0 rfl (rfl) rfl (Nat.le_of_ble_eq_true rfl) ?_
                  show X _ _ [(m, .inr (7, [.ref a_sky, .ref a_kind, .ref a_more, .ref a_strewn, .int (nI tn), .ref a_treeCell, .ref a_treeSort, .ref a_treeLeaves, .int i_raking, .long l_heaps, .int (nI (tz + 1)), .ref a_tape, .int (nI wr), .int (nI lw), .ref a_code, .ref a_begins, .int i_made, .int i_at, .int i_from, .int i_sort, .int i_value, .int i_open, .ref a_stack, .ref a_dry, .ref a_wet, .ref a_covered, .ref a_hangs, .ref a_off, .int i_fell, .int i_fellToday, .int i_rotten, .int i_raked, .int i_cost, .ref a_dryGo, .ref a_wetGo, .ref a_keptSky, .int i_imaged, .int (nI itn), .int i_oldRaking, .long l_oldHeaps, .int (nI ilw), .ref a_oldSky, .ref a_oldCells, .ref a_sheetSort, .ref a_sheetSize, .ref a_items, .ref a_spare])), (a_tape, .inl (cI, 160, .inl tpf))] _ _ _
                  refine x_iload C dX8_feed_122 0 rfl ?_
                  refine x_if_ne C dX8_feed_124 (tgt := 131) rfl (fun q9 => absurd q9 (by decide)) (fun _ => ?_)
                  refine x_iload_n C dX8_feed_127 3 rfl ?_
                  refine x_goto C dX8_feed_128 (tgt := 165) rfl ?_
                  refine x_iastore C 0 rfl dX8_feed_165 tz (q_cl rfl (by omega)) (q_ix rfl (by omega) (by omega)) 1 rfl ?_
                  show X _ _ [(m, .inr (7, [.ref a_sky, .ref a_kind, .ref a_more, .ref a_strewn, .int (nI tn), .ref a_treeCell, .ref a_treeSort, .ref a_treeLeaves, .int i_raking, .long l_heaps, .int (nI (tz + 1)), .ref a_tape, .int (nI wr), .int (nI lw), .ref a_code, .ref a_begins, .int i_made, .int i_at, .int i_from, .int i_sort, .int i_value, .int i_open, .ref a_stack, .ref a_dry, .ref a_wet, .ref a_covered, .ref a_hangs, .ref a_off, .int i_fell, .int i_fellToday, .int i_rotten, .int i_raked, .int i_cost, .ref a_dryGo, .ref a_wetGo, .ref a_keptSky, .int i_imaged, .int (nI itn), .int i_oldRaking, .long l_oldHeaps, .int (nI ilw), .ref a_oldSky, .ref a_oldCells, .ref a_sheetSort, .ref a_sheetSize, .ref a_items, .ref a_spare])), (a_tape, .inl (cI, 160, .inl (upd tpf tz a)))] _ _ _
                  refine x_iinc C dX8_feed_166 0 rfl (v := 1) (rfl) (by decide) (lv' := [(7, .int 1), (0, .ref m), (1, .int 4), (2, .int a), (3, .int b), (4, .int c), (5, .int d), (6, .int e)]) rfl ?_
                  show X _ _ _ _ 169 _
                  refine x_goto C dX8_feed_169 (tgt := 101) rfl ?_
                  refine x_iload C dX8_feed_101 0 rfl ?_
                  refine x_iload_n C dX8_feed_103 2 rfl ?_
                  refine x_icmp_ge C dX8_feed_104 (tgt := 172) rfl (fun q9 => absurd q9 (by decide)) (fun _ => ?_)
                  refine x_aload_n C dX8_feed_107 1 rfl ?_
                  refine x_get C inlX8 rfl 11 (by decide) gw_11_1 dX8_feed_108 0 rfl rfl ?_
                  refine x_aload_n C dX8_feed_111 1 rfl ?_
                  refine x_dup C dX8_feed_112 rfl ?_
                  refine x_get C inlX8 rfl 10 (by decide) gw_11_20 dX8_feed_113 0 rfl rfl ?_
                  refine x_dup_x1 C dX8_feed_116 rfl rfl ?_
                  show X _ _ _ _ 117 _
                  refine x_iconst C dX8_feed_117 (v := 1) rfl ?_
                  refine x_iadd C dX8_feed_118 ?_
                  refine x_topi C (nI ((tz + 1) + 1)) (q_iadd (a := tz + 1) (b := 1) rfl (rfl : (1 : Int32) = nI 1)) ?_
                  refine x_put C inlX8 rfl tyX8 tyX8_ok nmX8 10 (by decide) gw_11_20 rfl dX8_feed_119 0 rfl (rfl) rfl (Nat.le_of_ble_eq_true rfl) ?_
                  show X _ _ [(m, .inr (7, [.ref a_sky, .ref a_kind, .ref a_more, .ref a_strewn, .int (nI tn), .ref a_treeCell, .ref a_treeSort, .ref a_treeLeaves, .int i_raking, .long l_heaps, .int (nI ((tz + 1) + 1)), .ref a_tape, .int (nI wr), .int (nI lw), .ref a_code, .ref a_begins, .int i_made, .int i_at, .int i_from, .int i_sort, .int i_value, .int i_open, .ref a_stack, .ref a_dry, .ref a_wet, .ref a_covered, .ref a_hangs, .ref a_off, .int i_fell, .int i_fellToday, .int i_rotten, .int i_raked, .int i_cost, .ref a_dryGo, .ref a_wetGo, .ref a_keptSky, .int i_imaged, .int (nI itn), .int i_oldRaking, .long l_oldHeaps, .int (nI ilw), .ref a_oldSky, .ref a_oldCells, .ref a_sheetSort, .ref a_sheetSize, .ref a_items, .ref a_spare])), (a_tape, .inl (cI, 160, .inl (upd tpf tz a)))] _ _ _
                  refine x_iload C dX8_feed_122 0 rfl ?_
                  refine x_if_ne C dX8_feed_124 (tgt := 131) rfl (fun _ => ?_) (fun q9 => by first | exact absurd q9 (by decide) | exact absurd (by decide) q9)
                  refine x_iload C dX8_feed_131 0 rfl ?_
                  refine x_iconst C dX8_feed_133 (v := 1) rfl ?_
                  refine x_icmp_ne C dX8_feed_134 (tgt := 141) rfl (fun q9 => absurd q9 (by decide)) (fun _ => ?_)
                  refine x_iload_n C dX8_feed_137 4 rfl ?_
                  refine x_goto C dX8_feed_138 (tgt := 165) rfl ?_
                  show X _ _ _ _ 165 _
                  refine x_iastore C 0 rfl dX8_feed_165 (tz + 1) (q_cl rfl (by omega)) (q_ix rfl (by omega) (by omega)) 1 rfl ?_
                  show X _ _ [(m, .inr (7, [.ref a_sky, .ref a_kind, .ref a_more, .ref a_strewn, .int (nI tn), .ref a_treeCell, .ref a_treeSort, .ref a_treeLeaves, .int i_raking, .long l_heaps, .int (nI ((tz + 1) + 1)), .ref a_tape, .int (nI wr), .int (nI lw), .ref a_code, .ref a_begins, .int i_made, .int i_at, .int i_from, .int i_sort, .int i_value, .int i_open, .ref a_stack, .ref a_dry, .ref a_wet, .ref a_covered, .ref a_hangs, .ref a_off, .int i_fell, .int i_fellToday, .int i_rotten, .int i_raked, .int i_cost, .ref a_dryGo, .ref a_wetGo, .ref a_keptSky, .int i_imaged, .int (nI itn), .int i_oldRaking, .long l_oldHeaps, .int (nI ilw), .ref a_oldSky, .ref a_oldCells, .ref a_sheetSort, .ref a_sheetSize, .ref a_items, .ref a_spare])), (a_tape, .inl (cI, 160, .inl (upd (upd tpf tz a) (tz + 1) b)))] _ _ _
                  refine x_iinc C dX8_feed_166 0 rfl (v := 2) (rfl) (by decide) (lv' := [(7, .int 2), (0, .ref m), (1, .int 4), (2, .int a), (3, .int b), (4, .int c), (5, .int d), (6, .int e)]) rfl ?_
                  refine x_goto C dX8_feed_169 (tgt := 101) rfl ?_
                  refine x_iload C dX8_feed_101 0 rfl ?_
                  refine x_iload_n C dX8_feed_103 2 rfl ?_
                  refine x_icmp_ge C dX8_feed_104 (tgt := 172) rfl (fun q9 => absurd q9 (by decide)) (fun _ => ?_)
                  refine x_aload_n C dX8_feed_107 1 rfl ?_
                  refine x_get C inlX8 rfl 11 (by decide) gw_11_1 dX8_feed_108 0 rfl rfl ?_
                  refine x_aload_n C dX8_feed_111 1 rfl ?_
                  refine x_dup C dX8_feed_112 rfl ?_
                  show X _ _ _ _ 113 _
                  refine x_get C inlX8 rfl 10 (by decide) gw_11_20 dX8_feed_113 0 rfl rfl ?_
                  refine x_dup_x1 C dX8_feed_116 rfl rfl ?_
                  refine x_iconst C dX8_feed_117 (v := 1) rfl ?_
                  refine x_iadd C dX8_feed_118 ?_
                  refine x_topi C (nI (((tz + 1) + 1) + 1)) (q_iadd (a := (tz + 1) + 1) (b := 1) rfl (rfl : (1 : Int32) = nI 1)) ?_
                  refine x_put C inlX8 rfl tyX8 tyX8_ok nmX8 10 (by decide) gw_11_20 rfl dX8_feed_119 0 rfl (rfl) rfl (Nat.le_of_ble_eq_true rfl) ?_
                  show X _ _ [(m, .inr (7, [.ref a_sky, .ref a_kind, .ref a_more, .ref a_strewn, .int (nI tn), .ref a_treeCell, .ref a_treeSort, .ref a_treeLeaves, .int i_raking, .long l_heaps, .int (nI (((tz + 1) + 1) + 1)), .ref a_tape, .int (nI wr), .int (nI lw), .ref a_code, .ref a_begins, .int i_made, .int i_at, .int i_from, .int i_sort, .int i_value, .int i_open, .ref a_stack, .ref a_dry, .ref a_wet, .ref a_covered, .ref a_hangs, .ref a_off, .int i_fell, .int i_fellToday, .int i_rotten, .int i_raked, .int i_cost, .ref a_dryGo, .ref a_wetGo, .ref a_keptSky, .int i_imaged, .int (nI itn), .int i_oldRaking, .long l_oldHeaps, .int (nI ilw), .ref a_oldSky, .ref a_oldCells, .ref a_sheetSort, .ref a_sheetSize, .ref a_items, .ref a_spare])), (a_tape, .inl (cI, 160, .inl (upd (upd tpf tz a) (tz + 1) b)))] _ _ _
                  refine x_iload C dX8_feed_122 0 rfl ?_
                  refine x_if_ne C dX8_feed_124 (tgt := 131) rfl (fun _ => ?_) (fun q9 => by first | exact absurd q9 (by decide) | exact absurd (by decide) q9)
                  refine x_iload C dX8_feed_131 0 rfl ?_
                  refine x_iconst C dX8_feed_133 (v := 1) rfl ?_
                  refine x_icmp_ne C dX8_feed_134 (tgt := 141) rfl (fun _ => ?_) (fun q9 => by first | exact absurd q9 (by decide) | exact absurd (by decide) q9)
                  show X _ _ _ _ 141 _
                  refine x_iload C dX8_feed_141 0 rfl ?_
                  refine x_iconst C dX8_feed_143 (v := 2) rfl ?_
                  refine x_icmp_ne C dX8_feed_144 (tgt := 152) rfl (fun q9 => absurd q9 (by decide)) (fun _ => ?_)
                  refine x_iload C dX8_feed_147 5 rfl ?_
                  refine x_goto C dX8_feed_149 (tgt := 165) rfl ?_
                  refine x_iastore C 0 rfl dX8_feed_165 ((tz + 1) + 1) (q_cl rfl (by omega)) (q_ix rfl (by omega) (by omega)) 1 rfl ?_
                  show X _ _ [(m, .inr (7, [.ref a_sky, .ref a_kind, .ref a_more, .ref a_strewn, .int (nI tn), .ref a_treeCell, .ref a_treeSort, .ref a_treeLeaves, .int i_raking, .long l_heaps, .int (nI (((tz + 1) + 1) + 1)), .ref a_tape, .int (nI wr), .int (nI lw), .ref a_code, .ref a_begins, .int i_made, .int i_at, .int i_from, .int i_sort, .int i_value, .int i_open, .ref a_stack, .ref a_dry, .ref a_wet, .ref a_covered, .ref a_hangs, .ref a_off, .int i_fell, .int i_fellToday, .int i_rotten, .int i_raked, .int i_cost, .ref a_dryGo, .ref a_wetGo, .ref a_keptSky, .int i_imaged, .int (nI itn), .int i_oldRaking, .long l_oldHeaps, .int (nI ilw), .ref a_oldSky, .ref a_oldCells, .ref a_sheetSort, .ref a_sheetSize, .ref a_items, .ref a_spare])), (a_tape, .inl (cI, 160, .inl (upd (upd (upd tpf tz a) (tz + 1) b) ((tz + 1) + 1) c)))] _ _ _
                  refine x_iinc C dX8_feed_166 0 rfl (v := 3) (rfl) (by decide) (lv' := [(7, .int 3), (0, .ref m), (1, .int 4), (2, .int a), (3, .int b), (4, .int c), (5, .int d), (6, .int e)]) rfl ?_
                  refine x_goto C dX8_feed_169 (tgt := 101) rfl ?_
                  refine x_iload C dX8_feed_101 0 rfl ?_
                  refine x_iload_n C dX8_feed_103 2 rfl ?_
                  show X _ _ _ _ 104 _
                  refine x_icmp_ge C dX8_feed_104 (tgt := 172) rfl (fun q9 => absurd q9 (by decide)) (fun _ => ?_)
                  refine x_aload_n C dX8_feed_107 1 rfl ?_
                  refine x_get C inlX8 rfl 11 (by decide) gw_11_1 dX8_feed_108 0 rfl rfl ?_
                  refine x_aload_n C dX8_feed_111 1 rfl ?_
                  refine x_dup C dX8_feed_112 rfl ?_
                  refine x_get C inlX8 rfl 10 (by decide) gw_11_20 dX8_feed_113 0 rfl rfl ?_
                  refine x_dup_x1 C dX8_feed_116 rfl rfl ?_
                  refine x_iconst C dX8_feed_117 (v := 1) rfl ?_
                  refine x_iadd C dX8_feed_118 ?_
                  refine x_topi C (nI ((((tz + 1) + 1) + 1) + 1)) (q_iadd (a := ((tz + 1) + 1) + 1) (b := 1) rfl (rfl : (1 : Int32) = nI 1)) ?_
                  refine x_put C inlX8 rfl tyX8 tyX8_ok nmX8 10 (by decide) gw_11_20 rfl dX8_feed_119 0 rfl (rfl) rfl (Nat.le_of_ble_eq_true rfl) ?_
                  show X _ _ [(m, .inr (7, [.ref a_sky, .ref a_kind, .ref a_more, .ref a_strewn, .int (nI tn), .ref a_treeCell, .ref a_treeSort, .ref a_treeLeaves, .int i_raking, .long l_heaps, .int (nI ((((tz + 1) + 1) + 1) + 1)), .ref a_tape, .int (nI wr), .int (nI lw), .ref a_code, .ref a_begins, .int i_made, .int i_at, .int i_from, .int i_sort, .int i_value, .int i_open, .ref a_stack, .ref a_dry, .ref a_wet, .ref a_covered, .ref a_hangs, .ref a_off, .int i_fell, .int i_fellToday, .int i_rotten, .int i_raked, .int i_cost, .ref a_dryGo, .ref a_wetGo, .ref a_keptSky, .int i_imaged, .int (nI itn), .int i_oldRaking, .long l_oldHeaps, .int (nI ilw), .ref a_oldSky, .ref a_oldCells, .ref a_sheetSort, .ref a_sheetSize, .ref a_items, .ref a_spare])), (a_tape, .inl (cI, 160, .inl (upd (upd (upd tpf tz a) (tz + 1) b) ((tz + 1) + 1) c)))] _ _ _
                  show X _ _ _ _ 122 _
                  refine x_iload C dX8_feed_122 0 rfl ?_
                  refine x_if_ne C dX8_feed_124 (tgt := 131) rfl (fun _ => ?_) (fun q9 => by first | exact absurd q9 (by decide) | exact absurd (by decide) q9)
                  refine x_iload C dX8_feed_131 0 rfl ?_
                  refine x_iconst C dX8_feed_133 (v := 1) rfl ?_
                  refine x_icmp_ne C dX8_feed_134 (tgt := 141) rfl (fun _ => ?_) (fun q9 => by first | exact absurd q9 (by decide) | exact absurd (by decide) q9)
                  refine x_iload C dX8_feed_141 0 rfl ?_
                  refine x_iconst C dX8_feed_143 (v := 2) rfl ?_
                  refine x_icmp_ne C dX8_feed_144 (tgt := 152) rfl (fun _ => ?_) (fun q9 => by first | exact absurd q9 (by decide) | exact absurd (by decide) q9)
                  refine x_iload C dX8_feed_152 0 rfl ?_
                  refine x_iconst C dX8_feed_154 (v := 3) rfl ?_
                  show X _ _ _ _ 155 _
                  refine x_icmp_ne C dX8_feed_155 (tgt := 163) rfl (fun q9 => absurd q9 (by decide)) (fun _ => ?_)
                  refine x_iload C dX8_feed_158 6 rfl ?_
                  refine x_goto C dX8_feed_160 (tgt := 165) rfl ?_
                  refine x_iastore C 0 rfl dX8_feed_165 (((tz + 1) + 1) + 1) (q_cl rfl (by omega)) (q_ix rfl (by omega) (by omega)) 1 rfl ?_
                  show X _ _ [(m, .inr (7, [.ref a_sky, .ref a_kind, .ref a_more, .ref a_strewn, .int (nI tn), .ref a_treeCell, .ref a_treeSort, .ref a_treeLeaves, .int i_raking, .long l_heaps, .int (nI ((((tz + 1) + 1) + 1) + 1)), .ref a_tape, .int (nI wr), .int (nI lw), .ref a_code, .ref a_begins, .int i_made, .int i_at, .int i_from, .int i_sort, .int i_value, .int i_open, .ref a_stack, .ref a_dry, .ref a_wet, .ref a_covered, .ref a_hangs, .ref a_off, .int i_fell, .int i_fellToday, .int i_rotten, .int i_raked, .int i_cost, .ref a_dryGo, .ref a_wetGo, .ref a_keptSky, .int i_imaged, .int (nI itn), .int i_oldRaking, .long l_oldHeaps, .int (nI ilw), .ref a_oldSky, .ref a_oldCells, .ref a_sheetSort, .ref a_sheetSize, .ref a_items, .ref a_spare])), (a_tape, .inl (cI, 160, .inl (upd (upd (upd (upd tpf tz a) (tz + 1) b) ((tz + 1) + 1) c) (((tz + 1) + 1) + 1) d)))] _ _ _
                  refine x_iinc C dX8_feed_166 0 rfl (v := 4) (rfl) (by decide) (lv' := [(7, .int 4), (0, .ref m), (1, .int 4), (2, .int a), (3, .int b), (4, .int c), (5, .int d), (6, .int e)]) rfl ?_
                  refine x_goto C dX8_feed_169 (tgt := 101) rfl ?_
                  refine x_iload C dX8_feed_101 0 rfl ?_
                  refine x_iload_n C dX8_feed_103 2 rfl ?_
                  refine x_icmp_ge C dX8_feed_104 (tgt := 172) rfl (fun _ => ?_) (fun q9 => by first | exact absurd q9 (by decide) | exact absurd (by decide) q9)
                  refine x_aload_n C dX8_feed_172 1 rfl ?_
                  show X _ _ _ _ 173 _
                  refine x_get C inlX8 rfl 10 (by decide) gw_11_20 dX8_feed_173 0 rfl rfl ?_
                  refine E dX8_feed_176 (rfl) ?_
                  exact ⟨(nI ((((tz + 1) + 1) + 1) + 1)), ((((tz + 1) + 1) + 1) + 1), (upd (upd (upd (upd tpf tz a) (tz + 1) b) ((tz + 1) + 1) c) (((tz + 1) + 1) + 1) d), rfl, rfl, by (unfold o_feed o_feed_n o_feed_f o_fd); (try simp only [hn9]); (repeat (first | rw [if_pos (by first | (rw [if_pos (by decide)]; assumption) | (rw [if_neg (by decide), if_pos (by decide)]; assumption) | (rw [if_neg (by decide), if_neg (by decide)]; assumption) | assumption | decide | omega | exact o_one_t (by assumption) | (rw [o_one_f (by assumption)]; decide) | exact ⟨by assumption, by assumption⟩ | exact fun h9 => absurd h9.1 (by assumption) | exact fun h9 => absurd h9.2 (by assumption))] | rw [if_neg (by first | (rw [if_pos (by decide)]; assumption) | (rw [if_neg (by decide), if_pos (by decide)]; assumption) | (rw [if_neg (by decide), if_neg (by decide)]; assumption) | assumption | decide | omega | exact o_one_t (by assumption) | (rw [o_one_f (by assumption)]; decide) | exact ⟨by assumption, by assumption⟩ | exact fun h9 => absurd h9.1 (by assumption) | exact fun h9 => absurd h9.2 (by assumption))])); all_goals (first | rfl)⟩
                ·
                  have c104 : tz + 4 > 160 := q_le_f (q_iadd (a := tz) (b := 4) rfl (rfl : (4 : Int32) = nI 4)) (rfl : (160 : Int32) = nI 160) (by omega) (by omega) c104
                  refine x_bipush C dX8_feed_95 (v := (-4)) rfl ?_
                  refine E dX8_feed_97 (rfl) ?_
                  exact ⟨(-4), tz, tpf, rfl, rfl, by (unfold o_feed o_feed_n o_feed_f o_fd); (try simp only [hn9]); (repeat (first | rw [if_pos (by first | (rw [if_pos (by decide)]; assumption) | (rw [if_neg (by decide), if_pos (by decide)]; assumption) | (rw [if_neg (by decide), if_neg (by decide)]; assumption) | assumption | decide | omega | exact o_one_t (by assumption) | (rw [o_one_f (by assumption)]; decide) | exact ⟨by assumption, by assumption⟩ | exact fun h9 => absurd h9.1 (by assumption) | exact fun h9 => absurd h9.2 (by assumption))] | rw [if_neg (by first | (rw [if_pos (by decide)]; assumption) | (rw [if_neg (by decide), if_pos (by decide)]; assumption) | (rw [if_neg (by decide), if_neg (by decide)]; assumption) | assumption | decide | omega | exact o_one_t (by assumption) | (rw [o_one_f (by assumption)]; decide) | exact ⟨by assumption, by assumption⟩ | exact fun h9 => absurd h9.1 (by assumption) | exact fun h9 => absurd h9.2 (by assumption))])); all_goals (first | rfl)⟩
              ·
                obtain ⟨rfl, rfl, hf105⟩ := h102
                show X 0 0 [(m, .inr (7, [.ref a_sky, .ref a_kind, .ref a_more, .ref a_strewn, .int (nI tn), .ref a_treeCell, .ref a_treeSort, .ref a_treeLeaves, .int i_raking, .long l_heaps, .int (nI tz), .ref a_tape, .int (nI wr), .int (nI lw), .ref a_code, .ref a_begins, .int i_made, .int i_at, .int i_from, .int i_sort, .int i_value, .int i_open, .ref a_stack, .ref a_dry, .ref a_wet, .ref a_covered, .ref a_hangs, .ref a_off, .int i_fell, .int i_fellToday, .int i_rotten, .int i_raked, .int i_cost, .ref a_dryGo, .ref a_wetGo, .ref a_keptSky, .int i_imaged, .int (nI itn), .int i_oldRaking, .long l_oldHeaps, .int (nI ilw), .ref a_oldSky, .ref a_oldCells, .ref a_sheetSort, .ref a_sheetSize, .ref a_items, .ref a_spare])), (a_tape, .inl (cI, 160, .inl tpf))] [(7, .int 4), (0, .ref m), (1, .int 4), (2, .int a), (3, .int b), (4, .int c), (5, .int d), (6, .int e)] 71 [.int 0]
                refine x_if_ne C dX8_feed_71 (tgt := 77) rfl (fun q9 => absurd q9 (by decide)) (fun _ => ?_)
                refine x_bipush C dX8_feed_74 (v := (-2)) rfl ?_
                refine E dX8_feed_76 (rfl) ?_
                exact ⟨(-2), tz, tpf, rfl, rfl, by (unfold o_feed o_feed_n o_feed_f o_fd); (try simp only [hn9]); (repeat (first | rw [if_pos (by first | (rw [if_pos (by decide)]; assumption) | (rw [if_neg (by decide), if_pos (by decide)]; assumption) | (rw [if_neg (by decide), if_neg (by decide)]; assumption) | assumption | decide | omega | exact o_one_t (by assumption) | (rw [o_one_f (by assumption)]; decide) | exact ⟨by assumption, by assumption⟩ | exact fun h9 => absurd h9.1 (by assumption) | exact fun h9 => absurd h9.2 (by assumption))] | rw [if_neg (by first | (rw [if_pos (by decide)]; assumption) | (rw [if_neg (by decide), if_pos (by decide)]; assumption) | (rw [if_neg (by decide), if_neg (by decide)]; assumption) | assumption | decide | omega | exact o_one_t (by assumption) | (rw [o_one_f (by assumption)]; decide) | exact ⟨by assumption, by assumption⟩ | exact fun h9 => absurd h9.1 (by assumption) | exact fun h9 => absurd h9.2 (by assumption))])); all_goals (first | rfl)⟩
            ·
              obtain ⟨rfl, rfl, hf106⟩ := h98
              show X 0 0 [(m, .inr (7, [.ref a_sky, .ref a_kind, .ref a_more, .ref a_strewn, .int (nI tn), .ref a_treeCell, .ref a_treeSort, .ref a_treeLeaves, .int i_raking, .long l_heaps, .int (nI tz), .ref a_tape, .int (nI wr), .int (nI lw), .ref a_code, .ref a_begins, .int i_made, .int i_at, .int i_from, .int i_sort, .int i_value, .int i_open, .ref a_stack, .ref a_dry, .ref a_wet, .ref a_covered, .ref a_hangs, .ref a_off, .int i_fell, .int i_fellToday, .int i_rotten, .int i_raked, .int i_cost, .ref a_dryGo, .ref a_wetGo, .ref a_keptSky, .int i_imaged, .int (nI itn), .int i_oldRaking, .long l_oldHeaps, .int (nI ilw), .ref a_oldSky, .ref a_oldCells, .ref a_sheetSort, .ref a_sheetSize, .ref a_items, .ref a_spare])), (a_tape, .inl (cI, 160, .inl tpf))] [(7, .int 3), (0, .ref m), (1, .int 4), (2, .int a), (3, .int b), (4, .int c), (5, .int d), (6, .int e)] 71 [.int 0]
              refine x_if_ne C dX8_feed_71 (tgt := 77) rfl (fun q9 => absurd q9 (by decide)) (fun _ => ?_)
              refine x_bipush C dX8_feed_74 (v := (-2)) rfl ?_
              refine E dX8_feed_76 (rfl) ?_
              exact ⟨(-2), tz, tpf, rfl, rfl, by (unfold o_feed o_feed_n o_feed_f o_fd); (try simp only [hn9]); (repeat (first | rw [if_pos (by first | (rw [if_pos (by decide)]; assumption) | (rw [if_neg (by decide), if_pos (by decide)]; assumption) | (rw [if_neg (by decide), if_neg (by decide)]; assumption) | assumption | decide | omega | exact o_one_t (by assumption) | (rw [o_one_f (by assumption)]; decide) | exact ⟨by assumption, by assumption⟩ | exact fun h9 => absurd h9.1 (by assumption) | exact fun h9 => absurd h9.2 (by assumption))] | rw [if_neg (by first | (rw [if_pos (by decide)]; assumption) | (rw [if_neg (by decide), if_pos (by decide)]; assumption) | (rw [if_neg (by decide), if_neg (by decide)]; assumption) | assumption | decide | omega | exact o_one_t (by assumption) | (rw [o_one_f (by assumption)]; decide) | exact ⟨by assumption, by assumption⟩ | exact fun h9 => absurd h9.1 (by assumption) | exact fun h9 => absurd h9.2 (by assumption))])); all_goals (first | rfl)⟩
          ·
            obtain ⟨rfl, rfl, hf107⟩ := h94
            show X 0 0 [(m, .inr (7, [.ref a_sky, .ref a_kind, .ref a_more, .ref a_strewn, .int (nI tn), .ref a_treeCell, .ref a_treeSort, .ref a_treeLeaves, .int i_raking, .long l_heaps, .int (nI tz), .ref a_tape, .int (nI wr), .int (nI lw), .ref a_code, .ref a_begins, .int i_made, .int i_at, .int i_from, .int i_sort, .int i_value, .int i_open, .ref a_stack, .ref a_dry, .ref a_wet, .ref a_covered, .ref a_hangs, .ref a_off, .int i_fell, .int i_fellToday, .int i_rotten, .int i_raked, .int i_cost, .ref a_dryGo, .ref a_wetGo, .ref a_keptSky, .int i_imaged, .int (nI itn), .int i_oldRaking, .long l_oldHeaps, .int (nI ilw), .ref a_oldSky, .ref a_oldCells, .ref a_sheetSort, .ref a_sheetSize, .ref a_items, .ref a_spare])), (a_tape, .inl (cI, 160, .inl tpf))] [(7, .int 2), (0, .ref m), (1, .int 4), (2, .int a), (3, .int b), (4, .int c), (5, .int d), (6, .int e)] 71 [.int 0]
            refine x_if_ne C dX8_feed_71 (tgt := 77) rfl (fun q9 => absurd q9 (by decide)) (fun _ => ?_)
            refine x_bipush C dX8_feed_74 (v := (-2)) rfl ?_
            refine E dX8_feed_76 (rfl) ?_
            exact ⟨(-2), tz, tpf, rfl, rfl, by (unfold o_feed o_feed_n o_feed_f o_fd); (try simp only [hn9]); (repeat (first | rw [if_pos (by first | (rw [if_pos (by decide)]; assumption) | (rw [if_neg (by decide), if_pos (by decide)]; assumption) | (rw [if_neg (by decide), if_neg (by decide)]; assumption) | assumption | decide | omega | exact o_one_t (by assumption) | (rw [o_one_f (by assumption)]; decide) | exact ⟨by assumption, by assumption⟩ | exact fun h9 => absurd h9.1 (by assumption) | exact fun h9 => absurd h9.2 (by assumption))] | rw [if_neg (by first | (rw [if_pos (by decide)]; assumption) | (rw [if_neg (by decide), if_pos (by decide)]; assumption) | (rw [if_neg (by decide), if_neg (by decide)]; assumption) | assumption | decide | omega | exact o_one_t (by assumption) | (rw [o_one_f (by assumption)]; decide) | exact ⟨by assumption, by assumption⟩ | exact fun h9 => absurd h9.1 (by assumption) | exact fun h9 => absurd h9.2 (by assumption))])); all_goals (first | rfl)⟩
        ·
          obtain ⟨rfl, rfl, hf108⟩ := h90
          show X 0 0 [(m, .inr (7, [.ref a_sky, .ref a_kind, .ref a_more, .ref a_strewn, .int (nI tn), .ref a_treeCell, .ref a_treeSort, .ref a_treeLeaves, .int i_raking, .long l_heaps, .int (nI tz), .ref a_tape, .int (nI wr), .int (nI lw), .ref a_code, .ref a_begins, .int i_made, .int i_at, .int i_from, .int i_sort, .int i_value, .int i_open, .ref a_stack, .ref a_dry, .ref a_wet, .ref a_covered, .ref a_hangs, .ref a_off, .int i_fell, .int i_fellToday, .int i_rotten, .int i_raked, .int i_cost, .ref a_dryGo, .ref a_wetGo, .ref a_keptSky, .int i_imaged, .int (nI itn), .int i_oldRaking, .long l_oldHeaps, .int (nI ilw), .ref a_oldSky, .ref a_oldCells, .ref a_sheetSort, .ref a_sheetSize, .ref a_items, .ref a_spare])), (a_tape, .inl (cI, 160, .inl tpf))] [(7, .int 1), (0, .ref m), (1, .int 4), (2, .int a), (3, .int b), (4, .int c), (5, .int d), (6, .int e)] 71 [.int 0]
          refine x_if_ne C dX8_feed_71 (tgt := 77) rfl (fun q9 => absurd q9 (by decide)) (fun _ => ?_)
          refine x_bipush C dX8_feed_74 (v := (-2)) rfl ?_
          refine E dX8_feed_76 (rfl) ?_
          exact ⟨(-2), tz, tpf, rfl, rfl, by (unfold o_feed o_feed_n o_feed_f o_fd); (try simp only [hn9]); (repeat (first | rw [if_pos (by first | (rw [if_pos (by decide)]; assumption) | (rw [if_neg (by decide), if_pos (by decide)]; assumption) | (rw [if_neg (by decide), if_neg (by decide)]; assumption) | assumption | decide | omega | exact o_one_t (by assumption) | (rw [o_one_f (by assumption)]; decide) | exact ⟨by assumption, by assumption⟩ | exact fun h9 => absurd h9.1 (by assumption) | exact fun h9 => absurd h9.2 (by assumption))] | rw [if_neg (by first | (rw [if_pos (by decide)]; assumption) | (rw [if_neg (by decide), if_pos (by decide)]; assumption) | (rw [if_neg (by decide), if_neg (by decide)]; assumption) | assumption | decide | omega | exact o_one_t (by assumption) | (rw [o_one_f (by assumption)]; decide) | exact ⟨by assumption, by assumption⟩ | exact fun h9 => absurd h9.1 (by assumption) | exact fun h9 => absurd h9.2 (by assumption))])); all_goals (first | rfl)⟩
      ·
        obtain ⟨rfl, rfl, hf109⟩ := h86
        show X 0 0 [(m, .inr (7, [.ref a_sky, .ref a_kind, .ref a_more, .ref a_strewn, .int (nI tn), .ref a_treeCell, .ref a_treeSort, .ref a_treeLeaves, .int i_raking, .long l_heaps, .int (nI tz), .ref a_tape, .int (nI wr), .int (nI lw), .ref a_code, .ref a_begins, .int i_made, .int i_at, .int i_from, .int i_sort, .int i_value, .int i_open, .ref a_stack, .ref a_dry, .ref a_wet, .ref a_covered, .ref a_hangs, .ref a_off, .int i_fell, .int i_fellToday, .int i_rotten, .int i_raked, .int i_cost, .ref a_dryGo, .ref a_wetGo, .ref a_keptSky, .int i_imaged, .int (nI itn), .int i_oldRaking, .long l_oldHeaps, .int (nI ilw), .ref a_oldSky, .ref a_oldCells, .ref a_sheetSort, .ref a_sheetSize, .ref a_items, .ref a_spare])), (a_tape, .inl (cI, 160, .inl tpf))] [(7, .int 0), (0, .ref m), (1, .int 4), (2, .int a), (3, .int b), (4, .int c), (5, .int d), (6, .int e)] 71 [.int 0]
        refine x_if_ne C dX8_feed_71 (tgt := 77) rfl (fun q9 => absurd q9 (by decide)) (fun _ => ?_)
        refine x_bipush C dX8_feed_74 (v := (-2)) rfl ?_
        refine E dX8_feed_76 (rfl) ?_
        exact ⟨(-2), tz, tpf, rfl, rfl, by (unfold o_feed o_feed_n o_feed_f o_fd); (try simp only [hn9]); (repeat (first | rw [if_pos (by first | (rw [if_pos (by decide)]; assumption) | (rw [if_neg (by decide), if_pos (by decide)]; assumption) | (rw [if_neg (by decide), if_neg (by decide)]; assumption) | assumption | decide | omega | exact o_one_t (by assumption) | (rw [o_one_f (by assumption)]; decide) | exact ⟨by assumption, by assumption⟩ | exact fun h9 => absurd h9.1 (by assumption) | exact fun h9 => absurd h9.2 (by assumption))] | rw [if_neg (by first | (rw [if_pos (by decide)]; assumption) | (rw [if_neg (by decide), if_pos (by decide)]; assumption) | (rw [if_neg (by decide), if_neg (by decide)]; assumption) | assumption | decide | omega | exact o_one_t (by assumption) | (rw [o_one_f (by assumption)]; decide) | exact ⟨by assumption, by assumption⟩ | exact fun h9 => absurd h9.1 (by assumption) | exact fun h9 => absurd h9.2 (by assumption))])); all_goals (first | rfl)⟩
    ·
      have hn9 : o_n 5 = 5 := rfl
      refine x_if_ne C dX8_feed_6 (tgt := 12) rfl (fun _ => ?_) (fun q9 => by first | exact absurd q9 (by decide) | exact absurd (by decide) q9)
      refine x_iconst C dX8_feed_12 (v := 0) rfl ?_
      refine x_istore C dX8_feed_13 (by decide) (lv' := [(7, .int 0), (0, .ref m), (1, .int 5), (2, .int a), (3, .int b), (4, .int c), (5, .int d), (6, .int e)]) rfl ?_
      refine x_iload C dX8_feed_15 0 rfl ?_
      refine x_iconst C dX8_feed_17 (v := 5) rfl ?_
      refine x_icmp_ge C dX8_feed_18 (tgt := 83) rfl (fun q9 => absurd q9 (by decide)) (fun _ => ?_)
      refine x_iload C dX8_feed_21 0 rfl ?_
      refine x_if_ne C dX8_feed_23 (tgt := 30) rfl (fun q9 => absurd q9 (by decide)) (fun _ => ?_)
      refine x_iload_n C dX8_feed_26 3 rfl ?_
      refine x_goto C dX8_feed_27 (tgt := 64) rfl ?_
      show X _ _ _ _ 64 _
      refine x_iconst C dX8_feed_64 (v := 0) rfl ?_
      refine x_sipush C dX8_feed_65 (v := 255) rfl ?_
      refine x_callS C (As := [.int a, .int 0, .int 255]) (st := []) (wc := []) (wr := [(m, .inr (7, [.ref a_sky, .ref a_kind, .ref a_more, .ref a_strewn, .int (nI tn), .ref a_treeCell, .ref a_treeSort, .ref a_treeLeaves, .int i_raking, .long l_heaps, .int (nI tz), .ref a_tape, .int (nI wr), .int (nI lw), .ref a_code, .ref a_begins, .int i_made, .int i_at, .int i_from, .int i_sort, .int i_value, .int i_open, .ref a_stack, .ref a_dry, .ref a_wet, .ref a_covered, .ref a_hangs, .ref a_off, .int i_fell, .int i_fellToday, .int i_rotten, .int i_raked, .int i_cost, .ref a_dryGo, .ref a_wetGo, .ref a_keptSky, .int i_imaged, .int (nI itn), .int i_oldRaking, .long l_oldHeaps, .int (nI ilw), .ref a_oldSky, .ref a_oldCells, .ref a_sheetSort, .ref a_sheetSize, .ref a_items, .ref a_spare])), (a_tape, .inl (cI, 160, .inl tpf))]) (c_X8_within l dG cI cM cW cS a 0 255 ) rZ0_ok (fun _ _ _ _ => trivial) kS_X8_108 hy_X8_within ⟨Nat.le_of_ble_eq_true rfl, Nat.le_of_ble_eq_true rfl⟩ ⟨Nat.le_of_ble_eq_true rfl, Nat.le_of_ble_eq_true rfl⟩ dX8_feed_68 [] [0, 1] rfl rfl rfl rfl (by decide) rfl (Nat.le_of_ble_eq_true rfl) ?_
      intro v110 w111 h112
      rcases h112 with h112 | h112
      ·
        obtain ⟨rfl, rfl, hf113⟩ := h112
        show X 0 0 [(m, .inr (7, [.ref a_sky, .ref a_kind, .ref a_more, .ref a_strewn, .int (nI tn), .ref a_treeCell, .ref a_treeSort, .ref a_treeLeaves, .int i_raking, .long l_heaps, .int (nI tz), .ref a_tape, .int (nI wr), .int (nI lw), .ref a_code, .ref a_begins, .int i_made, .int i_at, .int i_from, .int i_sort, .int i_value, .int i_open, .ref a_stack, .ref a_dry, .ref a_wet, .ref a_covered, .ref a_hangs, .ref a_off, .int i_fell, .int i_fellToday, .int i_rotten, .int i_raked, .int i_cost, .ref a_dryGo, .ref a_wetGo, .ref a_keptSky, .int i_imaged, .int (nI itn), .int i_oldRaking, .long l_oldHeaps, .int (nI ilw), .ref a_oldSky, .ref a_oldCells, .ref a_sheetSort, .ref a_sheetSize, .ref a_items, .ref a_spare])), (a_tape, .inl (cI, 160, .inl tpf))] [(7, .int 0), (0, .ref m), (1, .int 5), (2, .int a), (3, .int b), (4, .int c), (5, .int d), (6, .int e)] 71 [.int 1]
        refine x_if_ne C dX8_feed_71 (tgt := 77) rfl (fun _ => ?_) (fun q9 => by first | exact absurd q9 (by decide) | exact absurd (by decide) q9)
        refine x_iinc C dX8_feed_77 0 rfl (v := 1) (rfl) (by decide) (lv' := [(7, .int 1), (0, .ref m), (1, .int 5), (2, .int a), (3, .int b), (4, .int c), (5, .int d), (6, .int e)]) rfl ?_
        refine x_goto C dX8_feed_80 (tgt := 15) rfl ?_
        refine x_iload C dX8_feed_15 0 rfl ?_
        refine x_iconst C dX8_feed_17 (v := 5) rfl ?_
        refine x_icmp_ge C dX8_feed_18 (tgt := 83) rfl (fun q9 => absurd q9 (by decide)) (fun _ => ?_)
        refine x_iload C dX8_feed_21 0 rfl ?_
        refine x_if_ne C dX8_feed_23 (tgt := 30) rfl (fun _ => ?_) (fun q9 => by first | exact absurd q9 (by decide) | exact absurd (by decide) q9)
        refine x_iload C dX8_feed_30 0 rfl ?_
        refine x_iconst C dX8_feed_32 (v := 1) rfl ?_
        show X _ _ _ _ 33 _
        refine x_icmp_ne C dX8_feed_33 (tgt := 40) rfl (fun q9 => absurd q9 (by decide)) (fun _ => ?_)
        refine x_iload_n C dX8_feed_36 4 rfl ?_
        refine x_goto C dX8_feed_37 (tgt := 64) rfl ?_
        refine x_iconst C dX8_feed_64 (v := 0) rfl ?_
        refine x_sipush C dX8_feed_65 (v := 255) rfl ?_
        refine x_callS C (As := [.int b, .int 0, .int 255]) (st := []) (wc := []) (wr := [(m, .inr (7, [.ref a_sky, .ref a_kind, .ref a_more, .ref a_strewn, .int (nI tn), .ref a_treeCell, .ref a_treeSort, .ref a_treeLeaves, .int i_raking, .long l_heaps, .int (nI tz), .ref a_tape, .int (nI wr), .int (nI lw), .ref a_code, .ref a_begins, .int i_made, .int i_at, .int i_from, .int i_sort, .int i_value, .int i_open, .ref a_stack, .ref a_dry, .ref a_wet, .ref a_covered, .ref a_hangs, .ref a_off, .int i_fell, .int i_fellToday, .int i_rotten, .int i_raked, .int i_cost, .ref a_dryGo, .ref a_wetGo, .ref a_keptSky, .int i_imaged, .int (nI itn), .int i_oldRaking, .long l_oldHeaps, .int (nI ilw), .ref a_oldSky, .ref a_oldCells, .ref a_sheetSort, .ref a_sheetSize, .ref a_items, .ref a_spare])), (a_tape, .inl (cI, 160, .inl tpf))]) (c_X8_within l dG cI cM cW cS b 0 255 ) rZ0_ok (fun _ _ _ _ => trivial) kS_X8_108 hy_X8_within ⟨Nat.le_of_ble_eq_true rfl, Nat.le_of_ble_eq_true rfl⟩ ⟨Nat.le_of_ble_eq_true rfl, Nat.le_of_ble_eq_true rfl⟩ dX8_feed_68 [] [0, 1] rfl rfl rfl rfl (by decide) rfl (Nat.le_of_ble_eq_true rfl) ?_
        intro v114 w115 h116
        rcases h116 with h116 | h116
        ·
          obtain ⟨rfl, rfl, hf117⟩ := h116
          show X 0 0 [(m, .inr (7, [.ref a_sky, .ref a_kind, .ref a_more, .ref a_strewn, .int (nI tn), .ref a_treeCell, .ref a_treeSort, .ref a_treeLeaves, .int i_raking, .long l_heaps, .int (nI tz), .ref a_tape, .int (nI wr), .int (nI lw), .ref a_code, .ref a_begins, .int i_made, .int i_at, .int i_from, .int i_sort, .int i_value, .int i_open, .ref a_stack, .ref a_dry, .ref a_wet, .ref a_covered, .ref a_hangs, .ref a_off, .int i_fell, .int i_fellToday, .int i_rotten, .int i_raked, .int i_cost, .ref a_dryGo, .ref a_wetGo, .ref a_keptSky, .int i_imaged, .int (nI itn), .int i_oldRaking, .long l_oldHeaps, .int (nI ilw), .ref a_oldSky, .ref a_oldCells, .ref a_sheetSort, .ref a_sheetSize, .ref a_items, .ref a_spare])), (a_tape, .inl (cI, 160, .inl tpf))] [(7, .int 1), (0, .ref m), (1, .int 5), (2, .int a), (3, .int b), (4, .int c), (5, .int d), (6, .int e)] 71 [.int 1]
          refine x_if_ne C dX8_feed_71 (tgt := 77) rfl (fun _ => ?_) (fun q9 => by first | exact absurd q9 (by decide) | exact absurd (by decide) q9)
          refine x_iinc C dX8_feed_77 0 rfl (v := 2) (rfl) (by decide) (lv' := [(7, .int 2), (0, .ref m), (1, .int 5), (2, .int a), (3, .int b), (4, .int c), (5, .int d), (6, .int e)]) rfl ?_
          refine x_goto C dX8_feed_80 (tgt := 15) rfl ?_
          refine x_iload C dX8_feed_15 0 rfl ?_
          refine x_iconst C dX8_feed_17 (v := 5) rfl ?_
          refine x_icmp_ge C dX8_feed_18 (tgt := 83) rfl (fun q9 => absurd q9 (by decide)) (fun _ => ?_)
          refine x_iload C dX8_feed_21 0 rfl ?_
          refine x_if_ne C dX8_feed_23 (tgt := 30) rfl (fun _ => ?_) (fun q9 => by first | exact absurd q9 (by decide) | exact absurd (by decide) q9)
          refine x_iload C dX8_feed_30 0 rfl ?_
          refine x_iconst C dX8_feed_32 (v := 1) rfl ?_
          show X _ _ _ _ 33 _
          refine x_icmp_ne C dX8_feed_33 (tgt := 40) rfl (fun _ => ?_) (fun q9 => by first | exact absurd q9 (by decide) | exact absurd (by decide) q9)
          refine x_iload C dX8_feed_40 0 rfl ?_
          refine x_iconst C dX8_feed_42 (v := 2) rfl ?_
          refine x_icmp_ne C dX8_feed_43 (tgt := 51) rfl (fun q9 => absurd q9 (by decide)) (fun _ => ?_)
          refine x_iload C dX8_feed_46 5 rfl ?_
          refine x_goto C dX8_feed_48 (tgt := 64) rfl ?_
          refine x_iconst C dX8_feed_64 (v := 0) rfl ?_
          refine x_sipush C dX8_feed_65 (v := 255) rfl ?_
          refine x_callS C (As := [.int c, .int 0, .int 255]) (st := []) (wc := []) (wr := [(m, .inr (7, [.ref a_sky, .ref a_kind, .ref a_more, .ref a_strewn, .int (nI tn), .ref a_treeCell, .ref a_treeSort, .ref a_treeLeaves, .int i_raking, .long l_heaps, .int (nI tz), .ref a_tape, .int (nI wr), .int (nI lw), .ref a_code, .ref a_begins, .int i_made, .int i_at, .int i_from, .int i_sort, .int i_value, .int i_open, .ref a_stack, .ref a_dry, .ref a_wet, .ref a_covered, .ref a_hangs, .ref a_off, .int i_fell, .int i_fellToday, .int i_rotten, .int i_raked, .int i_cost, .ref a_dryGo, .ref a_wetGo, .ref a_keptSky, .int i_imaged, .int (nI itn), .int i_oldRaking, .long l_oldHeaps, .int (nI ilw), .ref a_oldSky, .ref a_oldCells, .ref a_sheetSort, .ref a_sheetSize, .ref a_items, .ref a_spare])), (a_tape, .inl (cI, 160, .inl tpf))]) (c_X8_within l dG cI cM cW cS c 0 255 ) rZ0_ok (fun _ _ _ _ => trivial) kS_X8_108 hy_X8_within ⟨Nat.le_of_ble_eq_true rfl, Nat.le_of_ble_eq_true rfl⟩ ⟨Nat.le_of_ble_eq_true rfl, Nat.le_of_ble_eq_true rfl⟩ dX8_feed_68 [] [0, 1] rfl rfl rfl rfl (by decide) rfl (Nat.le_of_ble_eq_true rfl) ?_
          intro v118 w119 h120
          rcases h120 with h120 | h120
          ·
            obtain ⟨rfl, rfl, hf121⟩ := h120
            show X 0 0 [(m, .inr (7, [.ref a_sky, .ref a_kind, .ref a_more, .ref a_strewn, .int (nI tn), .ref a_treeCell, .ref a_treeSort, .ref a_treeLeaves, .int i_raking, .long l_heaps, .int (nI tz), .ref a_tape, .int (nI wr), .int (nI lw), .ref a_code, .ref a_begins, .int i_made, .int i_at, .int i_from, .int i_sort, .int i_value, .int i_open, .ref a_stack, .ref a_dry, .ref a_wet, .ref a_covered, .ref a_hangs, .ref a_off, .int i_fell, .int i_fellToday, .int i_rotten, .int i_raked, .int i_cost, .ref a_dryGo, .ref a_wetGo, .ref a_keptSky, .int i_imaged, .int (nI itn), .int i_oldRaking, .long l_oldHeaps, .int (nI ilw), .ref a_oldSky, .ref a_oldCells, .ref a_sheetSort, .ref a_sheetSize, .ref a_items, .ref a_spare])), (a_tape, .inl (cI, 160, .inl tpf))] [(7, .int 2), (0, .ref m), (1, .int 5), (2, .int a), (3, .int b), (4, .int c), (5, .int d), (6, .int e)] 71 [.int 1]
            refine x_if_ne C dX8_feed_71 (tgt := 77) rfl (fun _ => ?_) (fun q9 => by first | exact absurd q9 (by decide) | exact absurd (by decide) q9)
            refine x_iinc C dX8_feed_77 0 rfl (v := 3) (rfl) (by decide) (lv' := [(7, .int 3), (0, .ref m), (1, .int 5), (2, .int a), (3, .int b), (4, .int c), (5, .int d), (6, .int e)]) rfl ?_
            refine x_goto C dX8_feed_80 (tgt := 15) rfl ?_
            refine x_iload C dX8_feed_15 0 rfl ?_
            refine x_iconst C dX8_feed_17 (v := 5) rfl ?_
            refine x_icmp_ge C dX8_feed_18 (tgt := 83) rfl (fun q9 => absurd q9 (by decide)) (fun _ => ?_)
            refine x_iload C dX8_feed_21 0 rfl ?_
            refine x_if_ne C dX8_feed_23 (tgt := 30) rfl (fun _ => ?_) (fun q9 => by first | exact absurd q9 (by decide) | exact absurd (by decide) q9)
            refine x_iload C dX8_feed_30 0 rfl ?_
            refine x_iconst C dX8_feed_32 (v := 1) rfl ?_
            show X _ _ _ _ 33 _
            refine x_icmp_ne C dX8_feed_33 (tgt := 40) rfl (fun _ => ?_) (fun q9 => by first | exact absurd q9 (by decide) | exact absurd (by decide) q9)
            refine x_iload C dX8_feed_40 0 rfl ?_
            refine x_iconst C dX8_feed_42 (v := 2) rfl ?_
            refine x_icmp_ne C dX8_feed_43 (tgt := 51) rfl (fun _ => ?_) (fun q9 => by first | exact absurd q9 (by decide) | exact absurd (by decide) q9)
            refine x_iload C dX8_feed_51 0 rfl ?_
            refine x_iconst C dX8_feed_53 (v := 3) rfl ?_
            refine x_icmp_ne C dX8_feed_54 (tgt := 62) rfl (fun q9 => absurd q9 (by decide)) (fun _ => ?_)
            refine x_iload C dX8_feed_57 6 rfl ?_
            refine x_goto C dX8_feed_59 (tgt := 64) rfl ?_
            refine x_iconst C dX8_feed_64 (v := 0) rfl ?_
            show X _ _ _ _ 65 _
            refine x_sipush C dX8_feed_65 (v := 255) rfl ?_
            refine x_callS C (As := [.int d, .int 0, .int 255]) (st := []) (wc := []) (wr := [(m, .inr (7, [.ref a_sky, .ref a_kind, .ref a_more, .ref a_strewn, .int (nI tn), .ref a_treeCell, .ref a_treeSort, .ref a_treeLeaves, .int i_raking, .long l_heaps, .int (nI tz), .ref a_tape, .int (nI wr), .int (nI lw), .ref a_code, .ref a_begins, .int i_made, .int i_at, .int i_from, .int i_sort, .int i_value, .int i_open, .ref a_stack, .ref a_dry, .ref a_wet, .ref a_covered, .ref a_hangs, .ref a_off, .int i_fell, .int i_fellToday, .int i_rotten, .int i_raked, .int i_cost, .ref a_dryGo, .ref a_wetGo, .ref a_keptSky, .int i_imaged, .int (nI itn), .int i_oldRaking, .long l_oldHeaps, .int (nI ilw), .ref a_oldSky, .ref a_oldCells, .ref a_sheetSort, .ref a_sheetSize, .ref a_items, .ref a_spare])), (a_tape, .inl (cI, 160, .inl tpf))]) (c_X8_within l dG cI cM cW cS d 0 255 ) rZ0_ok (fun _ _ _ _ => trivial) kS_X8_108 hy_X8_within ⟨Nat.le_of_ble_eq_true rfl, Nat.le_of_ble_eq_true rfl⟩ ⟨Nat.le_of_ble_eq_true rfl, Nat.le_of_ble_eq_true rfl⟩ dX8_feed_68 [] [0, 1] rfl rfl rfl rfl (by decide) rfl (Nat.le_of_ble_eq_true rfl) ?_
            intro v122 w123 h124
            rcases h124 with h124 | h124
            ·
              obtain ⟨rfl, rfl, hf125⟩ := h124
              show X 0 0 [(m, .inr (7, [.ref a_sky, .ref a_kind, .ref a_more, .ref a_strewn, .int (nI tn), .ref a_treeCell, .ref a_treeSort, .ref a_treeLeaves, .int i_raking, .long l_heaps, .int (nI tz), .ref a_tape, .int (nI wr), .int (nI lw), .ref a_code, .ref a_begins, .int i_made, .int i_at, .int i_from, .int i_sort, .int i_value, .int i_open, .ref a_stack, .ref a_dry, .ref a_wet, .ref a_covered, .ref a_hangs, .ref a_off, .int i_fell, .int i_fellToday, .int i_rotten, .int i_raked, .int i_cost, .ref a_dryGo, .ref a_wetGo, .ref a_keptSky, .int i_imaged, .int (nI itn), .int i_oldRaking, .long l_oldHeaps, .int (nI ilw), .ref a_oldSky, .ref a_oldCells, .ref a_sheetSort, .ref a_sheetSize, .ref a_items, .ref a_spare])), (a_tape, .inl (cI, 160, .inl tpf))] [(7, .int 3), (0, .ref m), (1, .int 5), (2, .int a), (3, .int b), (4, .int c), (5, .int d), (6, .int e)] 71 [.int 1]
              refine x_if_ne C dX8_feed_71 (tgt := 77) rfl (fun _ => ?_) (fun q9 => by first | exact absurd q9 (by decide) | exact absurd (by decide) q9)
              refine x_iinc C dX8_feed_77 0 rfl (v := 4) (rfl) (by decide) (lv' := [(7, .int 4), (0, .ref m), (1, .int 5), (2, .int a), (3, .int b), (4, .int c), (5, .int d), (6, .int e)]) rfl ?_
              refine x_goto C dX8_feed_80 (tgt := 15) rfl ?_
              refine x_iload C dX8_feed_15 0 rfl ?_
              refine x_iconst C dX8_feed_17 (v := 5) rfl ?_
              refine x_icmp_ge C dX8_feed_18 (tgt := 83) rfl (fun q9 => absurd q9 (by decide)) (fun _ => ?_)
              refine x_iload C dX8_feed_21 0 rfl ?_
              refine x_if_ne C dX8_feed_23 (tgt := 30) rfl (fun _ => ?_) (fun q9 => by first | exact absurd q9 (by decide) | exact absurd (by decide) q9)
              refine x_iload C dX8_feed_30 0 rfl ?_
              refine x_iconst C dX8_feed_32 (v := 1) rfl ?_
              show X _ _ _ _ 33 _
              refine x_icmp_ne C dX8_feed_33 (tgt := 40) rfl (fun _ => ?_) (fun q9 => by first | exact absurd q9 (by decide) | exact absurd (by decide) q9)
              refine x_iload C dX8_feed_40 0 rfl ?_
              refine x_iconst C dX8_feed_42 (v := 2) rfl ?_
              refine x_icmp_ne C dX8_feed_43 (tgt := 51) rfl (fun _ => ?_) (fun q9 => by first | exact absurd q9 (by decide) | exact absurd (by decide) q9)
              refine x_iload C dX8_feed_51 0 rfl ?_
              refine x_iconst C dX8_feed_53 (v := 3) rfl ?_
              refine x_icmp_ne C dX8_feed_54 (tgt := 62) rfl (fun _ => ?_) (fun q9 => by first | exact absurd q9 (by decide) | exact absurd (by decide) q9)
              refine x_iload C dX8_feed_62 7 rfl ?_
              refine x_iconst C dX8_feed_64 (v := 0) rfl ?_
              refine x_sipush C dX8_feed_65 (v := 255) rfl ?_
              show X _ _ _ _ 68 _
              refine x_callS C (As := [.int e, .int 0, .int 255]) (st := []) (wc := []) (wr := [(m, .inr (7, [.ref a_sky, .ref a_kind, .ref a_more, .ref a_strewn, .int (nI tn), .ref a_treeCell, .ref a_treeSort, .ref a_treeLeaves, .int i_raking, .long l_heaps, .int (nI tz), .ref a_tape, .int (nI wr), .int (nI lw), .ref a_code, .ref a_begins, .int i_made, .int i_at, .int i_from, .int i_sort, .int i_value, .int i_open, .ref a_stack, .ref a_dry, .ref a_wet, .ref a_covered, .ref a_hangs, .ref a_off, .int i_fell, .int i_fellToday, .int i_rotten, .int i_raked, .int i_cost, .ref a_dryGo, .ref a_wetGo, .ref a_keptSky, .int i_imaged, .int (nI itn), .int i_oldRaking, .long l_oldHeaps, .int (nI ilw), .ref a_oldSky, .ref a_oldCells, .ref a_sheetSort, .ref a_sheetSize, .ref a_items, .ref a_spare])), (a_tape, .inl (cI, 160, .inl tpf))]) (c_X8_within l dG cI cM cW cS e 0 255 ) rZ0_ok (fun _ _ _ _ => trivial) kS_X8_108 hy_X8_within ⟨Nat.le_of_ble_eq_true rfl, Nat.le_of_ble_eq_true rfl⟩ ⟨Nat.le_of_ble_eq_true rfl, Nat.le_of_ble_eq_true rfl⟩ dX8_feed_68 [] [0, 1] rfl rfl rfl rfl (by decide) rfl (Nat.le_of_ble_eq_true rfl) ?_
              intro v126 w127 h128
              rcases h128 with h128 | h128
              ·
                obtain ⟨rfl, rfl, hf129⟩ := h128
                show X 0 0 [(m, .inr (7, [.ref a_sky, .ref a_kind, .ref a_more, .ref a_strewn, .int (nI tn), .ref a_treeCell, .ref a_treeSort, .ref a_treeLeaves, .int i_raking, .long l_heaps, .int (nI tz), .ref a_tape, .int (nI wr), .int (nI lw), .ref a_code, .ref a_begins, .int i_made, .int i_at, .int i_from, .int i_sort, .int i_value, .int i_open, .ref a_stack, .ref a_dry, .ref a_wet, .ref a_covered, .ref a_hangs, .ref a_off, .int i_fell, .int i_fellToday, .int i_rotten, .int i_raked, .int i_cost, .ref a_dryGo, .ref a_wetGo, .ref a_keptSky, .int i_imaged, .int (nI itn), .int i_oldRaking, .long l_oldHeaps, .int (nI ilw), .ref a_oldSky, .ref a_oldCells, .ref a_sheetSort, .ref a_sheetSize, .ref a_items, .ref a_spare])), (a_tape, .inl (cI, 160, .inl tpf))] [(7, .int 4), (0, .ref m), (1, .int 5), (2, .int a), (3, .int b), (4, .int c), (5, .int d), (6, .int e)] 71 [.int 1]
                refine x_if_ne C dX8_feed_71 (tgt := 77) rfl (fun _ => ?_) (fun q9 => by first | exact absurd q9 (by decide) | exact absurd (by decide) q9)
                refine x_iinc C dX8_feed_77 0 rfl (v := 5) (rfl) (by decide) (lv' := [(7, .int 5), (0, .ref m), (1, .int 5), (2, .int a), (3, .int b), (4, .int c), (5, .int d), (6, .int e)]) rfl ?_
                refine x_goto C dX8_feed_80 (tgt := 15) rfl ?_
                refine x_iload C dX8_feed_15 0 rfl ?_
                refine x_iconst C dX8_feed_17 (v := 5) rfl ?_
                refine x_icmp_ge C dX8_feed_18 (tgt := 83) rfl (fun _ => ?_) (fun q9 => by first | exact absurd q9 (by decide) | exact absurd (by decide) q9)
                refine x_aload_n C dX8_feed_83 1 rfl ?_
                refine x_get C inlX8 rfl 10 (by decide) gw_11_20 dX8_feed_84 0 rfl rfl ?_
                refine x_iload_n C dX8_feed_87 2 rfl ?_
                refine x_iadd C dX8_feed_88 ?_
                show X _ _ _ _ 89 _
                refine x_sipush C dX8_feed_89 (v := 160) rfl ?_
                refine x_icmp_le C dX8_feed_92 (tgt := 98) rfl (fun c130 => ?_) (fun c130 => ?_)
                ·
                  have c130 : tz + 5 ≤ 160 := q_le_t (q_iadd (a := tz) (b := 5) rfl (rfl : (5 : Int32) = nI 5)) (rfl : (160 : Int32) = nI 160) (by omega) (by omega) c130
                  refine x_iconst C dX8_feed_98 (v := 0) rfl ?_
                  refine x_istore C dX8_feed_99 (by decide) (lv' := [(7, .int 0), (0, .ref m), (1, .int 5), (2, .int a), (3, .int b), (4, .int c), (5, .int d), (6, .int e)]) rfl ?_
                  refine x_iload C dX8_feed_101 0 rfl ?_
                  refine x_iload_n C dX8_feed_103 2 rfl ?_
                  refine x_icmp_ge C dX8_feed_104 (tgt := 172) rfl (fun q9 => absurd q9 (by decide)) (fun _ => ?_)
                  refine x_aload_n C dX8_feed_107 1 rfl ?_
                  refine x_get C inlX8 rfl 11 (by decide) gw_11_1 dX8_feed_108 0 rfl rfl ?_
                  refine x_aload_n C dX8_feed_111 1 rfl ?_
                  refine x_dup C dX8_feed_112 rfl ?_
                  refine x_get C inlX8 rfl 10 (by decide) gw_11_20 dX8_feed_113 0 rfl rfl ?_
                  show X _ _ _ _ 116 _
                  refine x_dup_x1 C dX8_feed_116 rfl rfl ?_
                  refine x_iconst C dX8_feed_117 (v := 1) rfl ?_
                  refine x_iadd C dX8_feed_118 ?_
                  refine x_topi C (nI (tz + 1)) (q_iadd (a := tz) (b := 1) rfl (rfl : (1 : Int32) = nI 1)) ?_
                  refine x_put C inlX8 rfl tyX8 tyX8_ok nmX8 10 (by decide) gw_11_20 rfl dX8_feed_119 0 rfl (rfl) rfl (Nat.le_of_ble_eq_true rfl) ?_
                  show X _ _ [(m, .inr (7, [.ref a_sky, .ref a_kind, .ref a_more, .ref a_strewn, .int (nI tn), .ref a_treeCell, .ref a_treeSort, .ref a_treeLeaves, .int i_raking, .long l_heaps, .int (nI (tz + 1)), .ref a_tape, .int (nI wr), .int (nI lw), .ref a_code, .ref a_begins, .int i_made, .int i_at, .int i_from, .int i_sort, .int i_value, .int i_open, .ref a_stack, .ref a_dry, .ref a_wet, .ref a_covered, .ref a_hangs, .ref a_off, .int i_fell, .int i_fellToday, .int i_rotten, .int i_raked, .int i_cost, .ref a_dryGo, .ref a_wetGo, .ref a_keptSky, .int i_imaged, .int (nI itn), .int i_oldRaking, .long l_oldHeaps, .int (nI ilw), .ref a_oldSky, .ref a_oldCells, .ref a_sheetSort, .ref a_sheetSize, .ref a_items, .ref a_spare])), (a_tape, .inl (cI, 160, .inl tpf))] _ _ _
                  refine x_iload C dX8_feed_122 0 rfl ?_
                  refine x_if_ne C dX8_feed_124 (tgt := 131) rfl (fun q9 => absurd q9 (by decide)) (fun _ => ?_)
                  refine x_iload_n C dX8_feed_127 3 rfl ?_
                  refine x_goto C dX8_feed_128 (tgt := 165) rfl ?_
                  refine x_iastore C 0 rfl dX8_feed_165 tz (q_cl rfl (by omega)) (q_ix rfl (by omega) (by omega)) 1 rfl ?_
                  show X _ _ [(m, .inr (7, [.ref a_sky, .ref a_kind, .ref a_more, .ref a_strewn, .int (nI tn), .ref a_treeCell, .ref a_treeSort, .ref a_treeLeaves, .int i_raking, .long l_heaps, .int (nI (tz + 1)), .ref a_tape, .int (nI wr), .int (nI lw), .ref a_code, .ref a_begins, .int i_made, .int i_at, .int i_from, .int i_sort, .int i_value, .int i_open, .ref a_stack, .ref a_dry, .ref a_wet, .ref a_covered, .ref a_hangs, .ref a_off, .int i_fell, .int i_fellToday, .int i_rotten, .int i_raked, .int i_cost, .ref a_dryGo, .ref a_wetGo, .ref a_keptSky, .int i_imaged, .int (nI itn), .int i_oldRaking, .long l_oldHeaps, .int (nI ilw), .ref a_oldSky, .ref a_oldCells, .ref a_sheetSort, .ref a_sheetSize, .ref a_items, .ref a_spare])), (a_tape, .inl (cI, 160, .inl (upd tpf tz a)))] _ _ _
                  refine x_iinc C dX8_feed_166 0 rfl (v := 1) (rfl) (by decide) (lv' := [(7, .int 1), (0, .ref m), (1, .int 5), (2, .int a), (3, .int b), (4, .int c), (5, .int d), (6, .int e)]) rfl ?_
                  show X _ _ _ _ 169 _
                  refine x_goto C dX8_feed_169 (tgt := 101) rfl ?_
                  refine x_iload C dX8_feed_101 0 rfl ?_
                  refine x_iload_n C dX8_feed_103 2 rfl ?_
                  refine x_icmp_ge C dX8_feed_104 (tgt := 172) rfl (fun q9 => absurd q9 (by decide)) (fun _ => ?_)
                  refine x_aload_n C dX8_feed_107 1 rfl ?_
                  refine x_get C inlX8 rfl 11 (by decide) gw_11_1 dX8_feed_108 0 rfl rfl ?_
                  refine x_aload_n C dX8_feed_111 1 rfl ?_
                  refine x_dup C dX8_feed_112 rfl ?_
                  refine x_get C inlX8 rfl 10 (by decide) gw_11_20 dX8_feed_113 0 rfl rfl ?_
                  refine x_dup_x1 C dX8_feed_116 rfl rfl ?_
                  show X _ _ _ _ 117 _
                  refine x_iconst C dX8_feed_117 (v := 1) rfl ?_
                  refine x_iadd C dX8_feed_118 ?_
                  refine x_topi C (nI ((tz + 1) + 1)) (q_iadd (a := tz + 1) (b := 1) rfl (rfl : (1 : Int32) = nI 1)) ?_
                  refine x_put C inlX8 rfl tyX8 tyX8_ok nmX8 10 (by decide) gw_11_20 rfl dX8_feed_119 0 rfl (rfl) rfl (Nat.le_of_ble_eq_true rfl) ?_
                  show X _ _ [(m, .inr (7, [.ref a_sky, .ref a_kind, .ref a_more, .ref a_strewn, .int (nI tn), .ref a_treeCell, .ref a_treeSort, .ref a_treeLeaves, .int i_raking, .long l_heaps, .int (nI ((tz + 1) + 1)), .ref a_tape, .int (nI wr), .int (nI lw), .ref a_code, .ref a_begins, .int i_made, .int i_at, .int i_from, .int i_sort, .int i_value, .int i_open, .ref a_stack, .ref a_dry, .ref a_wet, .ref a_covered, .ref a_hangs, .ref a_off, .int i_fell, .int i_fellToday, .int i_rotten, .int i_raked, .int i_cost, .ref a_dryGo, .ref a_wetGo, .ref a_keptSky, .int i_imaged, .int (nI itn), .int i_oldRaking, .long l_oldHeaps, .int (nI ilw), .ref a_oldSky, .ref a_oldCells, .ref a_sheetSort, .ref a_sheetSize, .ref a_items, .ref a_spare])), (a_tape, .inl (cI, 160, .inl (upd tpf tz a)))] _ _ _
                  refine x_iload C dX8_feed_122 0 rfl ?_
                  refine x_if_ne C dX8_feed_124 (tgt := 131) rfl (fun _ => ?_) (fun q9 => by first | exact absurd q9 (by decide) | exact absurd (by decide) q9)
                  refine x_iload C dX8_feed_131 0 rfl ?_
                  refine x_iconst C dX8_feed_133 (v := 1) rfl ?_
                  refine x_icmp_ne C dX8_feed_134 (tgt := 141) rfl (fun q9 => absurd q9 (by decide)) (fun _ => ?_)
                  refine x_iload_n C dX8_feed_137 4 rfl ?_
                  refine x_goto C dX8_feed_138 (tgt := 165) rfl ?_
                  show X _ _ _ _ 165 _
                  refine x_iastore C 0 rfl dX8_feed_165 (tz + 1) (q_cl rfl (by omega)) (q_ix rfl (by omega) (by omega)) 1 rfl ?_
                  show X _ _ [(m, .inr (7, [.ref a_sky, .ref a_kind, .ref a_more, .ref a_strewn, .int (nI tn), .ref a_treeCell, .ref a_treeSort, .ref a_treeLeaves, .int i_raking, .long l_heaps, .int (nI ((tz + 1) + 1)), .ref a_tape, .int (nI wr), .int (nI lw), .ref a_code, .ref a_begins, .int i_made, .int i_at, .int i_from, .int i_sort, .int i_value, .int i_open, .ref a_stack, .ref a_dry, .ref a_wet, .ref a_covered, .ref a_hangs, .ref a_off, .int i_fell, .int i_fellToday, .int i_rotten, .int i_raked, .int i_cost, .ref a_dryGo, .ref a_wetGo, .ref a_keptSky, .int i_imaged, .int (nI itn), .int i_oldRaking, .long l_oldHeaps, .int (nI ilw), .ref a_oldSky, .ref a_oldCells, .ref a_sheetSort, .ref a_sheetSize, .ref a_items, .ref a_spare])), (a_tape, .inl (cI, 160, .inl (upd (upd tpf tz a) (tz + 1) b)))] _ _ _
                  refine x_iinc C dX8_feed_166 0 rfl (v := 2) (rfl) (by decide) (lv' := [(7, .int 2), (0, .ref m), (1, .int 5), (2, .int a), (3, .int b), (4, .int c), (5, .int d), (6, .int e)]) rfl ?_
                  refine x_goto C dX8_feed_169 (tgt := 101) rfl ?_
                  refine x_iload C dX8_feed_101 0 rfl ?_
                  refine x_iload_n C dX8_feed_103 2 rfl ?_
                  refine x_icmp_ge C dX8_feed_104 (tgt := 172) rfl (fun q9 => absurd q9 (by decide)) (fun _ => ?_)
                  refine x_aload_n C dX8_feed_107 1 rfl ?_
                  refine x_get C inlX8 rfl 11 (by decide) gw_11_1 dX8_feed_108 0 rfl rfl ?_
                  refine x_aload_n C dX8_feed_111 1 rfl ?_
                  refine x_dup C dX8_feed_112 rfl ?_
                  show X _ _ _ _ 113 _
                  refine x_get C inlX8 rfl 10 (by decide) gw_11_20 dX8_feed_113 0 rfl rfl ?_
                  refine x_dup_x1 C dX8_feed_116 rfl rfl ?_
                  refine x_iconst C dX8_feed_117 (v := 1) rfl ?_
                  refine x_iadd C dX8_feed_118 ?_
                  refine x_topi C (nI (((tz + 1) + 1) + 1)) (q_iadd (a := (tz + 1) + 1) (b := 1) rfl (rfl : (1 : Int32) = nI 1)) ?_
                  refine x_put C inlX8 rfl tyX8 tyX8_ok nmX8 10 (by decide) gw_11_20 rfl dX8_feed_119 0 rfl (rfl) rfl (Nat.le_of_ble_eq_true rfl) ?_
                  show X _ _ [(m, .inr (7, [.ref a_sky, .ref a_kind, .ref a_more, .ref a_strewn, .int (nI tn), .ref a_treeCell, .ref a_treeSort, .ref a_treeLeaves, .int i_raking, .long l_heaps, .int (nI (((tz + 1) + 1) + 1)), .ref a_tape, .int (nI wr), .int (nI lw), .ref a_code, .ref a_begins, .int i_made, .int i_at, .int i_from, .int i_sort, .int i_value, .int i_open, .ref a_stack, .ref a_dry, .ref a_wet, .ref a_covered, .ref a_hangs, .ref a_off, .int i_fell, .int i_fellToday, .int i_rotten, .int i_raked, .int i_cost, .ref a_dryGo, .ref a_wetGo, .ref a_keptSky, .int i_imaged, .int (nI itn), .int i_oldRaking, .long l_oldHeaps, .int (nI ilw), .ref a_oldSky, .ref a_oldCells, .ref a_sheetSort, .ref a_sheetSize, .ref a_items, .ref a_spare])), (a_tape, .inl (cI, 160, .inl (upd (upd tpf tz a) (tz + 1) b)))] _ _ _
                  refine x_iload C dX8_feed_122 0 rfl ?_
                  refine x_if_ne C dX8_feed_124 (tgt := 131) rfl (fun _ => ?_) (fun q9 => by first | exact absurd q9 (by decide) | exact absurd (by decide) q9)
                  refine x_iload C dX8_feed_131 0 rfl ?_
                  refine x_iconst C dX8_feed_133 (v := 1) rfl ?_
                  refine x_icmp_ne C dX8_feed_134 (tgt := 141) rfl (fun _ => ?_) (fun q9 => by first | exact absurd q9 (by decide) | exact absurd (by decide) q9)
                  show X _ _ _ _ 141 _
                  refine x_iload C dX8_feed_141 0 rfl ?_
                  refine x_iconst C dX8_feed_143 (v := 2) rfl ?_
                  refine x_icmp_ne C dX8_feed_144 (tgt := 152) rfl (fun q9 => absurd q9 (by decide)) (fun _ => ?_)
                  refine x_iload C dX8_feed_147 5 rfl ?_
                  refine x_goto C dX8_feed_149 (tgt := 165) rfl ?_
                  refine x_iastore C 0 rfl dX8_feed_165 ((tz + 1) + 1) (q_cl rfl (by omega)) (q_ix rfl (by omega) (by omega)) 1 rfl ?_
                  show X _ _ [(m, .inr (7, [.ref a_sky, .ref a_kind, .ref a_more, .ref a_strewn, .int (nI tn), .ref a_treeCell, .ref a_treeSort, .ref a_treeLeaves, .int i_raking, .long l_heaps, .int (nI (((tz + 1) + 1) + 1)), .ref a_tape, .int (nI wr), .int (nI lw), .ref a_code, .ref a_begins, .int i_made, .int i_at, .int i_from, .int i_sort, .int i_value, .int i_open, .ref a_stack, .ref a_dry, .ref a_wet, .ref a_covered, .ref a_hangs, .ref a_off, .int i_fell, .int i_fellToday, .int i_rotten, .int i_raked, .int i_cost, .ref a_dryGo, .ref a_wetGo, .ref a_keptSky, .int i_imaged, .int (nI itn), .int i_oldRaking, .long l_oldHeaps, .int (nI ilw), .ref a_oldSky, .ref a_oldCells, .ref a_sheetSort, .ref a_sheetSize, .ref a_items, .ref a_spare])), (a_tape, .inl (cI, 160, .inl (upd (upd (upd tpf tz a) (tz + 1) b) ((tz + 1) + 1) c)))] _ _ _
                  refine x_iinc C dX8_feed_166 0 rfl (v := 3) (rfl) (by decide) (lv' := [(7, .int 3), (0, .ref m), (1, .int 5), (2, .int a), (3, .int b), (4, .int c), (5, .int d), (6, .int e)]) rfl ?_
                  refine x_goto C dX8_feed_169 (tgt := 101) rfl ?_
                  refine x_iload C dX8_feed_101 0 rfl ?_
                  refine x_iload_n C dX8_feed_103 2 rfl ?_
                  show X _ _ _ _ 104 _
                  refine x_icmp_ge C dX8_feed_104 (tgt := 172) rfl (fun q9 => absurd q9 (by decide)) (fun _ => ?_)
                  refine x_aload_n C dX8_feed_107 1 rfl ?_
                  refine x_get C inlX8 rfl 11 (by decide) gw_11_1 dX8_feed_108 0 rfl rfl ?_
                  refine x_aload_n C dX8_feed_111 1 rfl ?_
                  refine x_dup C dX8_feed_112 rfl ?_
                  refine x_get C inlX8 rfl 10 (by decide) gw_11_20 dX8_feed_113 0 rfl rfl ?_
                  refine x_dup_x1 C dX8_feed_116 rfl rfl ?_
                  refine x_iconst C dX8_feed_117 (v := 1) rfl ?_
                  refine x_iadd C dX8_feed_118 ?_
                  refine x_topi C (nI ((((tz + 1) + 1) + 1) + 1)) (q_iadd (a := ((tz + 1) + 1) + 1) (b := 1) rfl (rfl : (1 : Int32) = nI 1)) ?_
                  refine x_put C inlX8 rfl tyX8 tyX8_ok nmX8 10 (by decide) gw_11_20 rfl dX8_feed_119 0 rfl (rfl) rfl (Nat.le_of_ble_eq_true rfl) ?_
                  show X _ _ [(m, .inr (7, [.ref a_sky, .ref a_kind, .ref a_more, .ref a_strewn, .int (nI tn), .ref a_treeCell, .ref a_treeSort, .ref a_treeLeaves, .int i_raking, .long l_heaps, .int (nI ((((tz + 1) + 1) + 1) + 1)), .ref a_tape, .int (nI wr), .int (nI lw), .ref a_code, .ref a_begins, .int i_made, .int i_at, .int i_from, .int i_sort, .int i_value, .int i_open, .ref a_stack, .ref a_dry, .ref a_wet, .ref a_covered, .ref a_hangs, .ref a_off, .int i_fell, .int i_fellToday, .int i_rotten, .int i_raked, .int i_cost, .ref a_dryGo, .ref a_wetGo, .ref a_keptSky, .int i_imaged, .int (nI itn), .int i_oldRaking, .long l_oldHeaps, .int (nI ilw), .ref a_oldSky, .ref a_oldCells, .ref a_sheetSort, .ref a_sheetSize, .ref a_items, .ref a_spare])), (a_tape, .inl (cI, 160, .inl (upd (upd (upd tpf tz a) (tz + 1) b) ((tz + 1) + 1) c)))] _ _ _
                  show X _ _ _ _ 122 _
                  refine x_iload C dX8_feed_122 0 rfl ?_
                  refine x_if_ne C dX8_feed_124 (tgt := 131) rfl (fun _ => ?_) (fun q9 => by first | exact absurd q9 (by decide) | exact absurd (by decide) q9)
                  refine x_iload C dX8_feed_131 0 rfl ?_
                  refine x_iconst C dX8_feed_133 (v := 1) rfl ?_
                  refine x_icmp_ne C dX8_feed_134 (tgt := 141) rfl (fun _ => ?_) (fun q9 => by first | exact absurd q9 (by decide) | exact absurd (by decide) q9)
                  refine x_iload C dX8_feed_141 0 rfl ?_
                  refine x_iconst C dX8_feed_143 (v := 2) rfl ?_
                  refine x_icmp_ne C dX8_feed_144 (tgt := 152) rfl (fun _ => ?_) (fun q9 => by first | exact absurd q9 (by decide) | exact absurd (by decide) q9)
                  refine x_iload C dX8_feed_152 0 rfl ?_
                  refine x_iconst C dX8_feed_154 (v := 3) rfl ?_
                  show X _ _ _ _ 155 _
                  refine x_icmp_ne C dX8_feed_155 (tgt := 163) rfl (fun q9 => absurd q9 (by decide)) (fun _ => ?_)
                  refine x_iload C dX8_feed_158 6 rfl ?_
                  refine x_goto C dX8_feed_160 (tgt := 165) rfl ?_
                  refine x_iastore C 0 rfl dX8_feed_165 (((tz + 1) + 1) + 1) (q_cl rfl (by omega)) (q_ix rfl (by omega) (by omega)) 1 rfl ?_
                  show X _ _ [(m, .inr (7, [.ref a_sky, .ref a_kind, .ref a_more, .ref a_strewn, .int (nI tn), .ref a_treeCell, .ref a_treeSort, .ref a_treeLeaves, .int i_raking, .long l_heaps, .int (nI ((((tz + 1) + 1) + 1) + 1)), .ref a_tape, .int (nI wr), .int (nI lw), .ref a_code, .ref a_begins, .int i_made, .int i_at, .int i_from, .int i_sort, .int i_value, .int i_open, .ref a_stack, .ref a_dry, .ref a_wet, .ref a_covered, .ref a_hangs, .ref a_off, .int i_fell, .int i_fellToday, .int i_rotten, .int i_raked, .int i_cost, .ref a_dryGo, .ref a_wetGo, .ref a_keptSky, .int i_imaged, .int (nI itn), .int i_oldRaking, .long l_oldHeaps, .int (nI ilw), .ref a_oldSky, .ref a_oldCells, .ref a_sheetSort, .ref a_sheetSize, .ref a_items, .ref a_spare])), (a_tape, .inl (cI, 160, .inl (upd (upd (upd (upd tpf tz a) (tz + 1) b) ((tz + 1) + 1) c) (((tz + 1) + 1) + 1) d)))] _ _ _
                  refine x_iinc C dX8_feed_166 0 rfl (v := 4) (rfl) (by decide) (lv' := [(7, .int 4), (0, .ref m), (1, .int 5), (2, .int a), (3, .int b), (4, .int c), (5, .int d), (6, .int e)]) rfl ?_
                  refine x_goto C dX8_feed_169 (tgt := 101) rfl ?_
                  refine x_iload C dX8_feed_101 0 rfl ?_
                  refine x_iload_n C dX8_feed_103 2 rfl ?_
                  refine x_icmp_ge C dX8_feed_104 (tgt := 172) rfl (fun q9 => absurd q9 (by decide)) (fun _ => ?_)
                  refine x_aload_n C dX8_feed_107 1 rfl ?_
                  show X _ _ _ _ 108 _
                  refine x_get C inlX8 rfl 11 (by decide) gw_11_1 dX8_feed_108 0 rfl rfl ?_
                  refine x_aload_n C dX8_feed_111 1 rfl ?_
                  refine x_dup C dX8_feed_112 rfl ?_
                  refine x_get C inlX8 rfl 10 (by decide) gw_11_20 dX8_feed_113 0 rfl rfl ?_
                  refine x_dup_x1 C dX8_feed_116 rfl rfl ?_
                  refine x_iconst C dX8_feed_117 (v := 1) rfl ?_
                  refine x_iadd C dX8_feed_118 ?_
                  refine x_topi C (nI (((((tz + 1) + 1) + 1) + 1) + 1)) (q_iadd (a := (((tz + 1) + 1) + 1) + 1) (b := 1) rfl (rfl : (1 : Int32) = nI 1)) ?_
                  refine x_put C inlX8 rfl tyX8 tyX8_ok nmX8 10 (by decide) gw_11_20 rfl dX8_feed_119 0 rfl (rfl) rfl (Nat.le_of_ble_eq_true rfl) ?_
                  show X _ _ [(m, .inr (7, [.ref a_sky, .ref a_kind, .ref a_more, .ref a_strewn, .int (nI tn), .ref a_treeCell, .ref a_treeSort, .ref a_treeLeaves, .int i_raking, .long l_heaps, .int (nI (((((tz + 1) + 1) + 1) + 1) + 1)), .ref a_tape, .int (nI wr), .int (nI lw), .ref a_code, .ref a_begins, .int i_made, .int i_at, .int i_from, .int i_sort, .int i_value, .int i_open, .ref a_stack, .ref a_dry, .ref a_wet, .ref a_covered, .ref a_hangs, .ref a_off, .int i_fell, .int i_fellToday, .int i_rotten, .int i_raked, .int i_cost, .ref a_dryGo, .ref a_wetGo, .ref a_keptSky, .int i_imaged, .int (nI itn), .int i_oldRaking, .long l_oldHeaps, .int (nI ilw), .ref a_oldSky, .ref a_oldCells, .ref a_sheetSort, .ref a_sheetSize, .ref a_items, .ref a_spare])), (a_tape, .inl (cI, 160, .inl (upd (upd (upd (upd tpf tz a) (tz + 1) b) ((tz + 1) + 1) c) (((tz + 1) + 1) + 1) d)))] _ _ _
                  refine x_iload C dX8_feed_122 0 rfl ?_
                  refine x_if_ne C dX8_feed_124 (tgt := 131) rfl (fun _ => ?_) (fun q9 => by first | exact absurd q9 (by decide) | exact absurd (by decide) q9)
                  show X _ _ _ _ 131 _
                  refine x_iload C dX8_feed_131 0 rfl ?_
                  refine x_iconst C dX8_feed_133 (v := 1) rfl ?_
                  refine x_icmp_ne C dX8_feed_134 (tgt := 141) rfl (fun _ => ?_) (fun q9 => by first | exact absurd q9 (by decide) | exact absurd (by decide) q9)
                  refine x_iload C dX8_feed_141 0 rfl ?_
                  refine x_iconst C dX8_feed_143 (v := 2) rfl ?_
                  refine x_icmp_ne C dX8_feed_144 (tgt := 152) rfl (fun _ => ?_) (fun q9 => by first | exact absurd q9 (by decide) | exact absurd (by decide) q9)
                  refine x_iload C dX8_feed_152 0 rfl ?_
                  refine x_iconst C dX8_feed_154 (v := 3) rfl ?_
                  refine x_icmp_ne C dX8_feed_155 (tgt := 163) rfl (fun _ => ?_) (fun q9 => by first | exact absurd q9 (by decide) | exact absurd (by decide) q9)
                  refine x_iload C dX8_feed_163 7 rfl ?_
                  show X _ _ _ _ 165 _
                  refine x_iastore C 0 rfl dX8_feed_165 ((((tz + 1) + 1) + 1) + 1) (q_cl rfl (by omega)) (q_ix rfl (by omega) (by omega)) 1 rfl ?_
                  show X _ _ [(m, .inr (7, [.ref a_sky, .ref a_kind, .ref a_more, .ref a_strewn, .int (nI tn), .ref a_treeCell, .ref a_treeSort, .ref a_treeLeaves, .int i_raking, .long l_heaps, .int (nI (((((tz + 1) + 1) + 1) + 1) + 1)), .ref a_tape, .int (nI wr), .int (nI lw), .ref a_code, .ref a_begins, .int i_made, .int i_at, .int i_from, .int i_sort, .int i_value, .int i_open, .ref a_stack, .ref a_dry, .ref a_wet, .ref a_covered, .ref a_hangs, .ref a_off, .int i_fell, .int i_fellToday, .int i_rotten, .int i_raked, .int i_cost, .ref a_dryGo, .ref a_wetGo, .ref a_keptSky, .int i_imaged, .int (nI itn), .int i_oldRaking, .long l_oldHeaps, .int (nI ilw), .ref a_oldSky, .ref a_oldCells, .ref a_sheetSort, .ref a_sheetSize, .ref a_items, .ref a_spare])), (a_tape, .inl (cI, 160, .inl (upd (upd (upd (upd (upd tpf tz a) (tz + 1) b) ((tz + 1) + 1) c) (((tz + 1) + 1) + 1) d) ((((tz + 1) + 1) + 1) + 1) e)))] _ _ _
                  refine x_iinc C dX8_feed_166 0 rfl (v := 5) (rfl) (by decide) (lv' := [(7, .int 5), (0, .ref m), (1, .int 5), (2, .int a), (3, .int b), (4, .int c), (5, .int d), (6, .int e)]) rfl ?_
                  refine x_goto C dX8_feed_169 (tgt := 101) rfl ?_
                  refine x_iload C dX8_feed_101 0 rfl ?_
                  refine x_iload_n C dX8_feed_103 2 rfl ?_
                  refine x_icmp_ge C dX8_feed_104 (tgt := 172) rfl (fun _ => ?_) (fun q9 => by first | exact absurd q9 (by decide) | exact absurd (by decide) q9)
                  refine x_aload_n C dX8_feed_172 1 rfl ?_
                  refine x_get C inlX8 rfl 10 (by decide) gw_11_20 dX8_feed_173 0 rfl rfl ?_
                  refine E dX8_feed_176 (rfl) ?_
                  exact ⟨(nI (((((tz + 1) + 1) + 1) + 1) + 1)), (((((tz + 1) + 1) + 1) + 1) + 1), (upd (upd (upd (upd (upd tpf tz a) (tz + 1) b) ((tz + 1) + 1) c) (((tz + 1) + 1) + 1) d) ((((tz + 1) + 1) + 1) + 1) e), rfl, rfl, by (unfold o_feed o_feed_n o_feed_f o_fd); (try simp only [hn9]); (repeat (first | rw [if_pos (by first | (rw [if_pos (by decide)]; assumption) | (rw [if_neg (by decide), if_pos (by decide)]; assumption) | (rw [if_neg (by decide), if_neg (by decide)]; assumption) | assumption | decide | omega | exact o_one_t (by assumption) | (rw [o_one_f (by assumption)]; decide) | exact ⟨by assumption, by assumption⟩ | exact fun h9 => absurd h9.1 (by assumption) | exact fun h9 => absurd h9.2 (by assumption))] | rw [if_neg (by first | (rw [if_pos (by decide)]; assumption) | (rw [if_neg (by decide), if_pos (by decide)]; assumption) | (rw [if_neg (by decide), if_neg (by decide)]; assumption) | assumption | decide | omega | exact o_one_t (by assumption) | (rw [o_one_f (by assumption)]; decide) | exact ⟨by assumption, by assumption⟩ | exact fun h9 => absurd h9.1 (by assumption) | exact fun h9 => absurd h9.2 (by assumption))])); all_goals (first | rfl)⟩
                ·
                  have c130 : tz + 5 > 160 := q_le_f (q_iadd (a := tz) (b := 5) rfl (rfl : (5 : Int32) = nI 5)) (rfl : (160 : Int32) = nI 160) (by omega) (by omega) c130
                  refine x_bipush C dX8_feed_95 (v := (-4)) rfl ?_
                  refine E dX8_feed_97 (rfl) ?_
                  exact ⟨(-4), tz, tpf, rfl, rfl, by (unfold o_feed o_feed_n o_feed_f o_fd); (try simp only [hn9]); (repeat (first | rw [if_pos (by first | (rw [if_pos (by decide)]; assumption) | (rw [if_neg (by decide), if_pos (by decide)]; assumption) | (rw [if_neg (by decide), if_neg (by decide)]; assumption) | assumption | decide | omega | exact o_one_t (by assumption) | (rw [o_one_f (by assumption)]; decide) | exact ⟨by assumption, by assumption⟩ | exact fun h9 => absurd h9.1 (by assumption) | exact fun h9 => absurd h9.2 (by assumption))] | rw [if_neg (by first | (rw [if_pos (by decide)]; assumption) | (rw [if_neg (by decide), if_pos (by decide)]; assumption) | (rw [if_neg (by decide), if_neg (by decide)]; assumption) | assumption | decide | omega | exact o_one_t (by assumption) | (rw [o_one_f (by assumption)]; decide) | exact ⟨by assumption, by assumption⟩ | exact fun h9 => absurd h9.1 (by assumption) | exact fun h9 => absurd h9.2 (by assumption))])); all_goals (first | rfl)⟩
              ·
                obtain ⟨rfl, rfl, hf131⟩ := h128
                show X 0 0 [(m, .inr (7, [.ref a_sky, .ref a_kind, .ref a_more, .ref a_strewn, .int (nI tn), .ref a_treeCell, .ref a_treeSort, .ref a_treeLeaves, .int i_raking, .long l_heaps, .int (nI tz), .ref a_tape, .int (nI wr), .int (nI lw), .ref a_code, .ref a_begins, .int i_made, .int i_at, .int i_from, .int i_sort, .int i_value, .int i_open, .ref a_stack, .ref a_dry, .ref a_wet, .ref a_covered, .ref a_hangs, .ref a_off, .int i_fell, .int i_fellToday, .int i_rotten, .int i_raked, .int i_cost, .ref a_dryGo, .ref a_wetGo, .ref a_keptSky, .int i_imaged, .int (nI itn), .int i_oldRaking, .long l_oldHeaps, .int (nI ilw), .ref a_oldSky, .ref a_oldCells, .ref a_sheetSort, .ref a_sheetSize, .ref a_items, .ref a_spare])), (a_tape, .inl (cI, 160, .inl tpf))] [(7, .int 4), (0, .ref m), (1, .int 5), (2, .int a), (3, .int b), (4, .int c), (5, .int d), (6, .int e)] 71 [.int 0]
                refine x_if_ne C dX8_feed_71 (tgt := 77) rfl (fun q9 => absurd q9 (by decide)) (fun _ => ?_)
                refine x_bipush C dX8_feed_74 (v := (-2)) rfl ?_
                refine E dX8_feed_76 (rfl) ?_
                exact ⟨(-2), tz, tpf, rfl, rfl, by (unfold o_feed o_feed_n o_feed_f o_fd); (try simp only [hn9]); (repeat (first | rw [if_pos (by first | (rw [if_pos (by decide)]; assumption) | (rw [if_neg (by decide), if_pos (by decide)]; assumption) | (rw [if_neg (by decide), if_neg (by decide)]; assumption) | assumption | decide | omega | exact o_one_t (by assumption) | (rw [o_one_f (by assumption)]; decide) | exact ⟨by assumption, by assumption⟩ | exact fun h9 => absurd h9.1 (by assumption) | exact fun h9 => absurd h9.2 (by assumption))] | rw [if_neg (by first | (rw [if_pos (by decide)]; assumption) | (rw [if_neg (by decide), if_pos (by decide)]; assumption) | (rw [if_neg (by decide), if_neg (by decide)]; assumption) | assumption | decide | omega | exact o_one_t (by assumption) | (rw [o_one_f (by assumption)]; decide) | exact ⟨by assumption, by assumption⟩ | exact fun h9 => absurd h9.1 (by assumption) | exact fun h9 => absurd h9.2 (by assumption))])); all_goals (first | rfl)⟩
            ·
              obtain ⟨rfl, rfl, hf132⟩ := h124
              show X 0 0 [(m, .inr (7, [.ref a_sky, .ref a_kind, .ref a_more, .ref a_strewn, .int (nI tn), .ref a_treeCell, .ref a_treeSort, .ref a_treeLeaves, .int i_raking, .long l_heaps, .int (nI tz), .ref a_tape, .int (nI wr), .int (nI lw), .ref a_code, .ref a_begins, .int i_made, .int i_at, .int i_from, .int i_sort, .int i_value, .int i_open, .ref a_stack, .ref a_dry, .ref a_wet, .ref a_covered, .ref a_hangs, .ref a_off, .int i_fell, .int i_fellToday, .int i_rotten, .int i_raked, .int i_cost, .ref a_dryGo, .ref a_wetGo, .ref a_keptSky, .int i_imaged, .int (nI itn), .int i_oldRaking, .long l_oldHeaps, .int (nI ilw), .ref a_oldSky, .ref a_oldCells, .ref a_sheetSort, .ref a_sheetSize, .ref a_items, .ref a_spare])), (a_tape, .inl (cI, 160, .inl tpf))] [(7, .int 3), (0, .ref m), (1, .int 5), (2, .int a), (3, .int b), (4, .int c), (5, .int d), (6, .int e)] 71 [.int 0]
              refine x_if_ne C dX8_feed_71 (tgt := 77) rfl (fun q9 => absurd q9 (by decide)) (fun _ => ?_)
              refine x_bipush C dX8_feed_74 (v := (-2)) rfl ?_
              refine E dX8_feed_76 (rfl) ?_
              exact ⟨(-2), tz, tpf, rfl, rfl, by (unfold o_feed o_feed_n o_feed_f o_fd); (try simp only [hn9]); (repeat (first | rw [if_pos (by first | (rw [if_pos (by decide)]; assumption) | (rw [if_neg (by decide), if_pos (by decide)]; assumption) | (rw [if_neg (by decide), if_neg (by decide)]; assumption) | assumption | decide | omega | exact o_one_t (by assumption) | (rw [o_one_f (by assumption)]; decide) | exact ⟨by assumption, by assumption⟩ | exact fun h9 => absurd h9.1 (by assumption) | exact fun h9 => absurd h9.2 (by assumption))] | rw [if_neg (by first | (rw [if_pos (by decide)]; assumption) | (rw [if_neg (by decide), if_pos (by decide)]; assumption) | (rw [if_neg (by decide), if_neg (by decide)]; assumption) | assumption | decide | omega | exact o_one_t (by assumption) | (rw [o_one_f (by assumption)]; decide) | exact ⟨by assumption, by assumption⟩ | exact fun h9 => absurd h9.1 (by assumption) | exact fun h9 => absurd h9.2 (by assumption))])); all_goals (first | rfl)⟩
          ·
            obtain ⟨rfl, rfl, hf133⟩ := h120
            show X 0 0 [(m, .inr (7, [.ref a_sky, .ref a_kind, .ref a_more, .ref a_strewn, .int (nI tn), .ref a_treeCell, .ref a_treeSort, .ref a_treeLeaves, .int i_raking, .long l_heaps, .int (nI tz), .ref a_tape, .int (nI wr), .int (nI lw), .ref a_code, .ref a_begins, .int i_made, .int i_at, .int i_from, .int i_sort, .int i_value, .int i_open, .ref a_stack, .ref a_dry, .ref a_wet, .ref a_covered, .ref a_hangs, .ref a_off, .int i_fell, .int i_fellToday, .int i_rotten, .int i_raked, .int i_cost, .ref a_dryGo, .ref a_wetGo, .ref a_keptSky, .int i_imaged, .int (nI itn), .int i_oldRaking, .long l_oldHeaps, .int (nI ilw), .ref a_oldSky, .ref a_oldCells, .ref a_sheetSort, .ref a_sheetSize, .ref a_items, .ref a_spare])), (a_tape, .inl (cI, 160, .inl tpf))] [(7, .int 2), (0, .ref m), (1, .int 5), (2, .int a), (3, .int b), (4, .int c), (5, .int d), (6, .int e)] 71 [.int 0]
            refine x_if_ne C dX8_feed_71 (tgt := 77) rfl (fun q9 => absurd q9 (by decide)) (fun _ => ?_)
            refine x_bipush C dX8_feed_74 (v := (-2)) rfl ?_
            refine E dX8_feed_76 (rfl) ?_
            exact ⟨(-2), tz, tpf, rfl, rfl, by (unfold o_feed o_feed_n o_feed_f o_fd); (try simp only [hn9]); (repeat (first | rw [if_pos (by first | (rw [if_pos (by decide)]; assumption) | (rw [if_neg (by decide), if_pos (by decide)]; assumption) | (rw [if_neg (by decide), if_neg (by decide)]; assumption) | assumption | decide | omega | exact o_one_t (by assumption) | (rw [o_one_f (by assumption)]; decide) | exact ⟨by assumption, by assumption⟩ | exact fun h9 => absurd h9.1 (by assumption) | exact fun h9 => absurd h9.2 (by assumption))] | rw [if_neg (by first | (rw [if_pos (by decide)]; assumption) | (rw [if_neg (by decide), if_pos (by decide)]; assumption) | (rw [if_neg (by decide), if_neg (by decide)]; assumption) | assumption | decide | omega | exact o_one_t (by assumption) | (rw [o_one_f (by assumption)]; decide) | exact ⟨by assumption, by assumption⟩ | exact fun h9 => absurd h9.1 (by assumption) | exact fun h9 => absurd h9.2 (by assumption))])); all_goals (first | rfl)⟩
        ·
          obtain ⟨rfl, rfl, hf134⟩ := h116
          show X 0 0 [(m, .inr (7, [.ref a_sky, .ref a_kind, .ref a_more, .ref a_strewn, .int (nI tn), .ref a_treeCell, .ref a_treeSort, .ref a_treeLeaves, .int i_raking, .long l_heaps, .int (nI tz), .ref a_tape, .int (nI wr), .int (nI lw), .ref a_code, .ref a_begins, .int i_made, .int i_at, .int i_from, .int i_sort, .int i_value, .int i_open, .ref a_stack, .ref a_dry, .ref a_wet, .ref a_covered, .ref a_hangs, .ref a_off, .int i_fell, .int i_fellToday, .int i_rotten, .int i_raked, .int i_cost, .ref a_dryGo, .ref a_wetGo, .ref a_keptSky, .int i_imaged, .int (nI itn), .int i_oldRaking, .long l_oldHeaps, .int (nI ilw), .ref a_oldSky, .ref a_oldCells, .ref a_sheetSort, .ref a_sheetSize, .ref a_items, .ref a_spare])), (a_tape, .inl (cI, 160, .inl tpf))] [(7, .int 1), (0, .ref m), (1, .int 5), (2, .int a), (3, .int b), (4, .int c), (5, .int d), (6, .int e)] 71 [.int 0]
          refine x_if_ne C dX8_feed_71 (tgt := 77) rfl (fun q9 => absurd q9 (by decide)) (fun _ => ?_)
          refine x_bipush C dX8_feed_74 (v := (-2)) rfl ?_
          refine E dX8_feed_76 (rfl) ?_
          exact ⟨(-2), tz, tpf, rfl, rfl, by (unfold o_feed o_feed_n o_feed_f o_fd); (try simp only [hn9]); (repeat (first | rw [if_pos (by first | (rw [if_pos (by decide)]; assumption) | (rw [if_neg (by decide), if_pos (by decide)]; assumption) | (rw [if_neg (by decide), if_neg (by decide)]; assumption) | assumption | decide | omega | exact o_one_t (by assumption) | (rw [o_one_f (by assumption)]; decide) | exact ⟨by assumption, by assumption⟩ | exact fun h9 => absurd h9.1 (by assumption) | exact fun h9 => absurd h9.2 (by assumption))] | rw [if_neg (by first | (rw [if_pos (by decide)]; assumption) | (rw [if_neg (by decide), if_pos (by decide)]; assumption) | (rw [if_neg (by decide), if_neg (by decide)]; assumption) | assumption | decide | omega | exact o_one_t (by assumption) | (rw [o_one_f (by assumption)]; decide) | exact ⟨by assumption, by assumption⟩ | exact fun h9 => absurd h9.1 (by assumption) | exact fun h9 => absurd h9.2 (by assumption))])); all_goals (first | rfl)⟩
      ·
        obtain ⟨rfl, rfl, hf135⟩ := h112
        show X 0 0 [(m, .inr (7, [.ref a_sky, .ref a_kind, .ref a_more, .ref a_strewn, .int (nI tn), .ref a_treeCell, .ref a_treeSort, .ref a_treeLeaves, .int i_raking, .long l_heaps, .int (nI tz), .ref a_tape, .int (nI wr), .int (nI lw), .ref a_code, .ref a_begins, .int i_made, .int i_at, .int i_from, .int i_sort, .int i_value, .int i_open, .ref a_stack, .ref a_dry, .ref a_wet, .ref a_covered, .ref a_hangs, .ref a_off, .int i_fell, .int i_fellToday, .int i_rotten, .int i_raked, .int i_cost, .ref a_dryGo, .ref a_wetGo, .ref a_keptSky, .int i_imaged, .int (nI itn), .int i_oldRaking, .long l_oldHeaps, .int (nI ilw), .ref a_oldSky, .ref a_oldCells, .ref a_sheetSort, .ref a_sheetSize, .ref a_items, .ref a_spare])), (a_tape, .inl (cI, 160, .inl tpf))] [(7, .int 0), (0, .ref m), (1, .int 5), (2, .int a), (3, .int b), (4, .int c), (5, .int d), (6, .int e)] 71 [.int 0]
        refine x_if_ne C dX8_feed_71 (tgt := 77) rfl (fun q9 => absurd q9 (by decide)) (fun _ => ?_)
        refine x_bipush C dX8_feed_74 (v := (-2)) rfl ?_
        refine E dX8_feed_76 (rfl) ?_
        exact ⟨(-2), tz, tpf, rfl, rfl, by (unfold o_feed o_feed_n o_feed_f o_fd); (try simp only [hn9]); (repeat (first | rw [if_pos (by first | (rw [if_pos (by decide)]; assumption) | (rw [if_neg (by decide), if_pos (by decide)]; assumption) | (rw [if_neg (by decide), if_neg (by decide)]; assumption) | assumption | decide | omega | exact o_one_t (by assumption) | (rw [o_one_f (by assumption)]; decide) | exact ⟨by assumption, by assumption⟩ | exact fun h9 => absurd h9.1 (by assumption) | exact fun h9 => absurd h9.2 (by assumption))] | rw [if_neg (by first | (rw [if_pos (by decide)]; assumption) | (rw [if_neg (by decide), if_pos (by decide)]; assumption) | (rw [if_neg (by decide), if_neg (by decide)]; assumption) | assumption | decide | omega | exact o_one_t (by assumption) | (rw [o_one_f (by assumption)]; decide) | exact ⟨by assumption, by assumption⟩ | exact fun h9 => absurd h9.1 (by assumption) | exact fun h9 => absurd h9.2 (by assumption))])); all_goals (first | rfl)⟩
  ·
    obtain ⟨rfl, rfl, hf136⟩ := h3
    show X 0 0 [(m, .inr (7, [.ref a_sky, .ref a_kind, .ref a_more, .ref a_strewn, .int (nI tn), .ref a_treeCell, .ref a_treeSort, .ref a_treeLeaves, .int i_raking, .long l_heaps, .int (nI tz), .ref a_tape, .int (nI wr), .int (nI lw), .ref a_code, .ref a_begins, .int i_made, .int i_at, .int i_from, .int i_sort, .int i_value, .int i_open, .ref a_stack, .ref a_dry, .ref a_wet, .ref a_covered, .ref a_hangs, .ref a_off, .int i_fell, .int i_fellToday, .int i_rotten, .int i_raked, .int i_cost, .ref a_dryGo, .ref a_wetGo, .ref a_keptSky, .int i_imaged, .int (nI itn), .int i_oldRaking, .long l_oldHeaps, .int (nI ilw), .ref a_oldSky, .ref a_oldCells, .ref a_sheetSort, .ref a_sheetSize, .ref a_items, .ref a_spare])), (a_tape, .inl (cI, 160, .inl tpf))] [(0, .ref m), (1, .int n), (2, .int a), (3, .int b), (4, .int c), (5, .int d), (6, .int e)] 6 [.int 0]
    refine x_if_ne C dX8_feed_6 (tgt := 12) rfl (fun q9 => absurd q9 (by decide)) (fun _ => ?_)
    refine x_bipush C dX8_feed_9 (v := (-2)) rfl ?_
    refine E dX8_feed_11 (rfl) ?_
    exact ⟨(-2), tz, tpf, rfl, rfl, by (unfold o_feed o_feed_n o_feed_f o_fd); (repeat (first | rw [if_pos (by first | (rw [if_pos (by decide)]; assumption) | (rw [if_neg (by decide), if_pos (by decide)]; assumption) | (rw [if_neg (by decide), if_neg (by decide)]; assumption) | assumption | decide | omega | exact o_one_t (by assumption) | (rw [o_one_f (by assumption)]; decide) | exact ⟨by assumption, by assumption⟩ | exact fun h9 => absurd h9.1 (by assumption) | exact fun h9 => absurd h9.2 (by assumption))] | rw [if_neg (by first | (rw [if_pos (by decide)]; assumption) | (rw [if_neg (by decide), if_pos (by decide)]; assumption) | (rw [if_neg (by decide), if_neg (by decide)]; assumption) | assumption | decide | omega | exact o_one_t (by assumption) | (rw [o_one_f (by assumption)]; decide) | exact ⟨by assumption, by assumption⟩ | exact fun h9 => absurd h9.1 (by assumption) | exact fun h9 => absurd h9.2 (by assumption))])); all_goals (first | rfl)⟩
theorem kV_X7_209 : GoodIn GW (wsV RX7 209 yX4_become.cls yX4_become (Cond.code yX4_become cX4_become 3 none :: GW)) := r_gV gw_32_16 gw_32_17 gw_32_18 gw_1_15 gw_32_19
theorem hy_X4_become : yX4_become.cls ≠ "java/lang/invoke/MethodHandle" ∧ yX4_become.cls ≠ "java/lang/invoke/VarHandle" ∧ (parseMethodDescriptor yX4_become.desc).map (fun d => d.parameters.length) = some 1 := ⟨by decide +kernel, by decide +kernel, by decide +kernel⟩
set_option maxHeartbeats 4000000 in
set_option maxRecDepth 100000 in
theorem c_X7_image (l : Launch) (dG : va_G) (cI cM cW cS : ClassId) (x pw uw o hh rd bk pl asd fd : Nat) (wr : Nat) (hi9 : Int32) (tw tsk tkd tmo tlv ttc tts ttl ts0 ts1 ts2 ts3 : Nat) (ttn tlw : Nat) (trg : Int32) (thp : Int64) (tR0 tR1 tR2 tR3 tkf tmf tlf tcf tsf ttf : Nat → Int32) (psk pkd pmo plv ptc pts ptl ps0 ps1 ps2 ps3 : Nat) (ptn plw : Nat) (prg : Int32) (php : Int64) (pR0 pR1 pR2 pR3 pkf pmf plf pcf psf ptf : Nat → Int32)  : rM l yX7_image cX7_image 1 (some .int) ({ frames := 2, cells := 0, slots := 0, locals := 82 } : Room) dG (tY cI cM cW cS) rZ0 [.ref x] [(x, .inr (6, [.ref tw, .ref pw, .ref uw, .ref o, .ref hh, .ref rd, .ref bk, .ref pl, .ref asd, .ref fd, .int (nI wr), .int hi9])), (tw, .inr (3, [.ref tsk, .ref tkd, .ref tmo, .ref tlv, .ref ttc, .ref tts, .ref ttl, .int (nI ttn), .int trg, .long thp, .int (nI tlw)])), (tsk, .inl (cM, 4, .inr (.inr (.inr (.inr (rr4 ts0 ts1 ts2 ts3)))))), (ts0, .inl (cI, 14, .inl tR0)), (ts1, .inl (cI, 14, .inl tR1)), (ts2, .inl (cI, 14, .inl tR2)), (ts3, .inl (cI, 14, .inl tR3)), (tkd, .inl (cI, 36, .inl tkf)), (tmo, .inl (cI, 36, .inl tmf)), (tlv, .inl (cI, 36, .inl tlf)), (ttc, .inl (cI, 4, .inl tcf)), (tts, .inl (cI, 4, .inl tsf)), (ttl, .inl (cI, 4, .inl ttf)), (pw, .inr (3, [.ref psk, .ref pkd, .ref pmo, .ref plv, .ref ptc, .ref pts, .ref ptl, .int (nI ptn), .int prg, .long php, .int (nI plw)])), (psk, .inl (cM, 4, .inr (.inr (.inr (.inr (rr4 ps0 ps1 ps2 ps3)))))), (ps0, .inl (cI, 14, .inl pR0)), (ps1, .inl (cI, 14, .inl pR1)), (ps2, .inl (cI, 14, .inl pR2)), (ps3, .inl (cI, 14, .inl pR3)), (pkd, .inl (cI, 36, .inl pkf)), (pmo, .inl (cI, 36, .inl pmf)), (plv, .inl (cI, 36, .inl plf)), (ptc, .inl (cI, 4, .inl pcf)), (pts, .inl (cI, 4, .inl psf)), (ptl, .inl (cI, 4, .inl ptf))] (fun ov oz => ov = some (.int (nI ttn)) ∧ oz = [(x, .inr (6, [.ref tw, .ref pw, .ref uw, .ref o, .ref hh, .ref rd, .ref bk, .ref pl, .ref asd, .ref fd, .int (nI wr), .int 1])), (tw, .inr (3, [.ref tsk, .ref tkd, .ref tmo, .ref tlv, .ref ttc, .ref tts, .ref ttl, .int (nI ttn), .int trg, .long thp, .int (nI tlw)])), (tsk, .inl (cM, 4, .inr (.inr (.inr (.inr (rr4 ts0 ts1 ts2 ts3)))))), (ts0, .inl (cI, 14, .inl tR0)), (ts1, .inl (cI, 14, .inl tR1)), (ts2, .inl (cI, 14, .inl tR2)), (ts3, .inl (cI, 14, .inl tR3)), (tkd, .inl (cI, 36, .inl tkf)), (tmo, .inl (cI, 36, .inl tmf)), (tlv, .inl (cI, 36, .inl tlf)), (ttc, .inl (cI, 4, .inl tcf)), (tts, .inl (cI, 4, .inl tsf)), (ttl, .inl (cI, 4, .inl ttf)), (pw, .inr (3, [.ref psk, .ref pkd, .ref pmo, .ref plv, .ref ptc, .ref pts, .ref ptl, .int (nI ttn), .int trg, .long thp, .int (nI tlw)])), (psk, .inl (cM, 4, .inr (.inr (.inr (.inr (rr4 ps0 ps1 ps2 ps3)))))), (ps0, .inl (cI, 14, .inl tR0)), (ps1, .inl (cI, 14, .inl tR1)), (ps2, .inl (cI, 14, .inl tR2)), (ps3, .inl (cI, 14, .inl tR3)), (pkd, .inl (cI, 36, .inl tkf)), (pmo, .inl (cI, 36, .inl tmf)), (plv, .inl (cI, 36, .inl tlf)), (ptc, .inl (cI, 4, .inl tcf)), (pts, .inl (cI, 4, .inl tsf)), (ptl, .inl (cI, 4, .inl ttf))] ∧ True) := by
  refine rM_ofI rfl (Nat.le_of_ble_eq_true rfl) rfl (fun X C E => ?_)
  show X 0 0 [(x, .inr (6, [.ref tw, .ref pw, .ref uw, .ref o, .ref hh, .ref rd, .ref bk, .ref pl, .ref asd, .ref fd, .int (nI wr), .int hi9])), (tw, .inr (3, [.ref tsk, .ref tkd, .ref tmo, .ref tlv, .ref ttc, .ref tts, .ref ttl, .int (nI ttn), .int trg, .long thp, .int (nI tlw)])), (tsk, .inl (cM, 4, .inr (.inr (.inr (.inr (rr4 ts0 ts1 ts2 ts3)))))), (ts0, .inl (cI, 14, .inl tR0)), (ts1, .inl (cI, 14, .inl tR1)), (ts2, .inl (cI, 14, .inl tR2)), (ts3, .inl (cI, 14, .inl tR3)), (tkd, .inl (cI, 36, .inl tkf)), (tmo, .inl (cI, 36, .inl tmf)), (tlv, .inl (cI, 36, .inl tlf)), (ttc, .inl (cI, 4, .inl tcf)), (tts, .inl (cI, 4, .inl tsf)), (ttl, .inl (cI, 4, .inl ttf)), (pw, .inr (3, [.ref psk, .ref pkd, .ref pmo, .ref plv, .ref ptc, .ref pts, .ref ptl, .int (nI ptn), .int prg, .long php, .int (nI plw)])), (psk, .inl (cM, 4, .inr (.inr (.inr (.inr (rr4 ps0 ps1 ps2 ps3)))))), (ps0, .inl (cI, 14, .inl pR0)), (ps1, .inl (cI, 14, .inl pR1)), (ps2, .inl (cI, 14, .inl pR2)), (ps3, .inl (cI, 14, .inl pR3)), (pkd, .inl (cI, 36, .inl pkf)), (pmo, .inl (cI, 36, .inl pmf)), (plv, .inl (cI, 36, .inl plf)), (ptc, .inl (cI, 4, .inl pcf)), (pts, .inl (cI, 4, .inl psf)), (ptl, .inl (cI, 4, .inl ptf))] [(0, .ref x)] 0 []
  refine x_aload_n C dX7_image_0 0 rfl ?_
  refine x_get C inlX7 rfl 1 (by decide) gw_1_17 dX7_image_1 0 rfl rfl ?_
  refine x_aload_n C dX7_image_4 0 rfl ?_
  refine x_get C inlX7 rfl 0 (by decide) gw_1_16 dX7_image_5 0 rfl rfl ?_
  refine x_callV C (As := [.ref tw]) (st := []) (wc := [(pw, .inr (3, [.ref psk, .ref pkd, .ref pmo, .ref plv, .ref ptc, .ref pts, .ref ptl, .int (nI ptn), .int prg, .long php, .int (nI plw)])), (psk, .inl (cM, 4, .inr (.inr (.inr (.inr (rr4 ps0 ps1 ps2 ps3)))))), (ps0, .inl (cI, 14, .inl pR0)), (ps1, .inl (cI, 14, .inl pR1)), (ps2, .inl (cI, 14, .inl pR2)), (ps3, .inl (cI, 14, .inl pR3)), (pkd, .inl (cI, 36, .inl pkf)), (pmo, .inl (cI, 36, .inl pmf)), (plv, .inl (cI, 36, .inl plf)), (ptc, .inl (cI, 4, .inl pcf)), (pts, .inl (cI, 4, .inl psf)), (ptl, .inl (cI, 4, .inl ptf)), (tw, .inr (3, [.ref tsk, .ref tkd, .ref tmo, .ref tlv, .ref ttc, .ref tts, .ref ttl, .int (nI ttn), .int trg, .long thp, .int (nI tlw)])), (tsk, .inl (cM, 4, .inr (.inr (.inr (.inr (rr4 ts0 ts1 ts2 ts3)))))), (ts0, .inl (cI, 14, .inl tR0)), (ts1, .inl (cI, 14, .inl tR1)), (ts2, .inl (cI, 14, .inl tR2)), (ts3, .inl (cI, 14, .inl tR3)), (tkd, .inl (cI, 36, .inl tkf)), (tmo, .inl (cI, 36, .inl tmf)), (tlv, .inl (cI, 36, .inl tlf)), (ttc, .inl (cI, 4, .inl tcf)), (tts, .inl (cI, 4, .inl tsf)), (ttl, .inl (cI, 4, .inl ttf))]) (wr := [(x, .inr (6, [.ref tw, .ref pw, .ref uw, .ref o, .ref hh, .ref rd, .ref bk, .ref pl, .ref asd, .ref fd, .int (nI wr), .int hi9]))]) (c_X4_become l dG cI cM cW cS pw psk pkd pmo plv ptc pts ptl ps0 ps1 ps2 ps3 ptn plw prg php pR0 pR1 pR2 pR3 pkf pmf plf pcf psf ptf tw tsk tkd tmo tlv ttc tts ttl ts0 ts1 ts2 ts3 ttn tlw trg thp tR0 tR1 tR2 tR3 tkf tmf tlf tcf tsf ttf ) rZ0_ok (fun _ _ _ _ => trivial) kV_X7_209 ⟨rfl, hy_X4_become⟩ ⟨Nat.le_of_ble_eq_true rfl, Nat.le_of_ble_eq_true rfl⟩ ⟨Nat.le_of_ble_eq_true rfl, Nat.le_of_ble_eq_true rfl⟩ dX7_image_8 13 rfl rfl [13, 14, 15, 16, 17, 18, 19, 20, 21, 22, 23, 24, 1, 2, 3, 4, 5, 6, 7, 8, 9, 10, 11, 12] [0] rfl rfl rfl rfl (by decide) rfl (Nat.le_of_ble_eq_true rfl) ?_
  intro v1 w2 h3
  obtain ⟨rfl, rfl, hf4⟩ := h3
  show X 0 0 [(x, .inr (6, [.ref tw, .ref pw, .ref uw, .ref o, .ref hh, .ref rd, .ref bk, .ref pl, .ref asd, .ref fd, .int (nI wr), .int hi9])), (pw, .inr (3, [.ref psk, .ref pkd, .ref pmo, .ref plv, .ref ptc, .ref pts, .ref ptl, .int (nI ttn), .int trg, .long thp, .int (nI tlw)])), (psk, .inl (cM, 4, .inr (.inr (.inr (.inr (rr4 ps0 ps1 ps2 ps3)))))), (ps0, .inl (cI, 14, .inl tR0)), (ps1, .inl (cI, 14, .inl tR1)), (ps2, .inl (cI, 14, .inl tR2)), (ps3, .inl (cI, 14, .inl tR3)), (pkd, .inl (cI, 36, .inl tkf)), (pmo, .inl (cI, 36, .inl tmf)), (plv, .inl (cI, 36, .inl tlf)), (ptc, .inl (cI, 4, .inl tcf)), (pts, .inl (cI, 4, .inl tsf)), (ptl, .inl (cI, 4, .inl ttf)), (tw, .inr (3, [.ref tsk, .ref tkd, .ref tmo, .ref tlv, .ref ttc, .ref tts, .ref ttl, .int (nI ttn), .int trg, .long thp, .int (nI tlw)])), (tsk, .inl (cM, 4, .inr (.inr (.inr (.inr (rr4 ts0 ts1 ts2 ts3)))))), (ts0, .inl (cI, 14, .inl tR0)), (ts1, .inl (cI, 14, .inl tR1)), (ts2, .inl (cI, 14, .inl tR2)), (ts3, .inl (cI, 14, .inl tR3)), (tkd, .inl (cI, 36, .inl tkf)), (tmo, .inl (cI, 36, .inl tmf)), (tlv, .inl (cI, 36, .inl tlf)), (ttc, .inl (cI, 4, .inl tcf)), (tts, .inl (cI, 4, .inl tsf)), (ttl, .inl (cI, 4, .inl ttf))] [(0, .ref x)] 11 []
  refine x_aload_n C dX7_image_11 0 rfl ?_
  refine x_iconst C dX7_image_12 (v := 1) rfl ?_
  refine x_put C inlX7 rfl tyX7 tyX7_ok nmX7 11 (by decide) gw_21_12 rfl dX7_image_13 0 rfl (rfl) rfl (Nat.le_of_ble_eq_true rfl) ?_
  show X _ _ [(x, .inr (6, [.ref tw, .ref pw, .ref uw, .ref o, .ref hh, .ref rd, .ref bk, .ref pl, .ref asd, .ref fd, .int (nI wr), .int 1])), (pw, .inr (3, [.ref psk, .ref pkd, .ref pmo, .ref plv, .ref ptc, .ref pts, .ref ptl, .int (nI ttn), .int trg, .long thp, .int (nI tlw)])), (psk, .inl (cM, 4, .inr (.inr (.inr (.inr (rr4 ps0 ps1 ps2 ps3)))))), (ps0, .inl (cI, 14, .inl tR0)), (ps1, .inl (cI, 14, .inl tR1)), (ps2, .inl (cI, 14, .inl tR2)), (ps3, .inl (cI, 14, .inl tR3)), (pkd, .inl (cI, 36, .inl tkf)), (pmo, .inl (cI, 36, .inl tmf)), (plv, .inl (cI, 36, .inl tlf)), (ptc, .inl (cI, 4, .inl tcf)), (pts, .inl (cI, 4, .inl tsf)), (ptl, .inl (cI, 4, .inl ttf)), (tw, .inr (3, [.ref tsk, .ref tkd, .ref tmo, .ref tlv, .ref ttc, .ref tts, .ref ttl, .int (nI ttn), .int trg, .long thp, .int (nI tlw)])), (tsk, .inl (cM, 4, .inr (.inr (.inr (.inr (rr4 ts0 ts1 ts2 ts3)))))), (ts0, .inl (cI, 14, .inl tR0)), (ts1, .inl (cI, 14, .inl tR1)), (ts2, .inl (cI, 14, .inl tR2)), (ts3, .inl (cI, 14, .inl tR3)), (tkd, .inl (cI, 36, .inl tkf)), (tmo, .inl (cI, 36, .inl tmf)), (tlv, .inl (cI, 36, .inl tlf)), (ttc, .inl (cI, 4, .inl tcf)), (tts, .inl (cI, 4, .inl tsf)), (ttl, .inl (cI, 4, .inl ttf))] _ _ _
  refine x_aload_n C dX7_image_16 0 rfl ?_
  refine x_get C inlX7 rfl 0 (by decide) gw_1_16 dX7_image_17 0 rfl rfl ?_
  show X _ _ _ _ 20 _
  refine x_getN C inlX4 rfl 7 (by decide) nw_X7_104 dX7_image_20 13 rfl rfl ?_
  refine x_sub C [0, 13, 14, 15, 16, 17, 18, 19, 20, 21, 22, 23, 24, 1, 2, 3, 4, 5, 6, 7, 8, 9, 10, 11, 12] (ws' := [(x, .inr (6, [.ref tw, .ref pw, .ref uw, .ref o, .ref hh, .ref rd, .ref bk, .ref pl, .ref asd, .ref fd, .int (nI wr), .int 1])), (tw, .inr (3, [.ref tsk, .ref tkd, .ref tmo, .ref tlv, .ref ttc, .ref tts, .ref ttl, .int (nI ttn), .int trg, .long thp, .int (nI tlw)])), (tsk, .inl (cM, 4, .inr (.inr (.inr (.inr (rr4 ts0 ts1 ts2 ts3)))))), (ts0, .inl (cI, 14, .inl tR0)), (ts1, .inl (cI, 14, .inl tR1)), (ts2, .inl (cI, 14, .inl tR2)), (ts3, .inl (cI, 14, .inl tR3)), (tkd, .inl (cI, 36, .inl tkf)), (tmo, .inl (cI, 36, .inl tmf)), (tlv, .inl (cI, 36, .inl tlf)), (ttc, .inl (cI, 4, .inl tcf)), (tts, .inl (cI, 4, .inl tsf)), (ttl, .inl (cI, 4, .inl ttf)), (pw, .inr (3, [.ref psk, .ref pkd, .ref pmo, .ref plv, .ref ptc, .ref pts, .ref ptl, .int (nI ttn), .int trg, .long thp, .int (nI tlw)])), (psk, .inl (cM, 4, .inr (.inr (.inr (.inr (rr4 ps0 ps1 ps2 ps3)))))), (ps0, .inl (cI, 14, .inl tR0)), (ps1, .inl (cI, 14, .inl tR1)), (ps2, .inl (cI, 14, .inl tR2)), (ps3, .inl (cI, 14, .inl tR3)), (pkd, .inl (cI, 36, .inl tkf)), (pmo, .inl (cI, 36, .inl tmf)), (plv, .inl (cI, 36, .inl tlf)), (ptc, .inl (cI, 4, .inl tcf)), (pts, .inl (cI, 4, .inl tsf)), (ptl, .inl (cI, 4, .inl ttf))]) rfl rfl ?_
  refine E dX7_image_23 (rfl) ?_
  exact ⟨rfl, rfl, by trivial⟩
set_option maxHeartbeats 4000000 in
set_option maxRecDepth 100000 in
theorem c_X7_back (l : Launch) (dG : va_G) (cI cM cW cS : ClassId) (x pw uw o hh rd bk pl asd fd : Nat) (wr : Nat) (hi9 : Int32) (tw tsk tkd tmo tlv ttc tts ttl ts0 ts1 ts2 ts3 : Nat) (ttn tlw : Nat) (trg : Int32) (thp : Int64) (tR0 tR1 tR2 tR3 tkf tmf tlf tcf tsf ttf : Nat → Int32) (psk pkd pmo plv ptc pts ptl ps0 ps1 ps2 ps3 : Nat) (ptn plw : Nat) (prg : Int32) (php : Int64) (pR0 pR1 pR2 pR3 pkf pmf plf pcf psf ptf : Nat → Int32)  : rM l yX7_back cX7_back 1 (some .int) ({ frames := 2, cells := 0, slots := 0, locals := 82 } : Room) dG (tY cI cM cW cS) rZ0 [.ref x] [(x, .inr (6, [.ref tw, .ref pw, .ref uw, .ref o, .ref hh, .ref rd, .ref bk, .ref pl, .ref asd, .ref fd, .int (nI wr), .int hi9])), (tw, .inr (3, [.ref tsk, .ref tkd, .ref tmo, .ref tlv, .ref ttc, .ref tts, .ref ttl, .int (nI ttn), .int trg, .long thp, .int (nI tlw)])), (tsk, .inl (cM, 4, .inr (.inr (.inr (.inr (rr4 ts0 ts1 ts2 ts3)))))), (ts0, .inl (cI, 14, .inl tR0)), (ts1, .inl (cI, 14, .inl tR1)), (ts2, .inl (cI, 14, .inl tR2)), (ts3, .inl (cI, 14, .inl tR3)), (tkd, .inl (cI, 36, .inl tkf)), (tmo, .inl (cI, 36, .inl tmf)), (tlv, .inl (cI, 36, .inl tlf)), (ttc, .inl (cI, 4, .inl tcf)), (tts, .inl (cI, 4, .inl tsf)), (ttl, .inl (cI, 4, .inl ttf)), (pw, .inr (3, [.ref psk, .ref pkd, .ref pmo, .ref plv, .ref ptc, .ref pts, .ref ptl, .int (nI ptn), .int prg, .long php, .int (nI plw)])), (psk, .inl (cM, 4, .inr (.inr (.inr (.inr (rr4 ps0 ps1 ps2 ps3)))))), (ps0, .inl (cI, 14, .inl pR0)), (ps1, .inl (cI, 14, .inl pR1)), (ps2, .inl (cI, 14, .inl pR2)), (ps3, .inl (cI, 14, .inl pR3)), (pkd, .inl (cI, 36, .inl pkf)), (pmo, .inl (cI, 36, .inl pmf)), (plv, .inl (cI, 36, .inl plf)), (ptc, .inl (cI, 4, .inl pcf)), (pts, .inl (cI, 4, .inl psf)), (ptl, .inl (cI, 4, .inl ptf))] (fun ov oz => (ov = some (.int (-3)) ∧ oz = [(x, .inr (6, [.ref tw, .ref pw, .ref uw, .ref o, .ref hh, .ref rd, .ref bk, .ref pl, .ref asd, .ref fd, .int (nI wr), .int hi9])), (tw, .inr (3, [.ref tsk, .ref tkd, .ref tmo, .ref tlv, .ref ttc, .ref tts, .ref ttl, .int (nI ttn), .int trg, .long thp, .int (nI tlw)])), (tsk, .inl (cM, 4, .inr (.inr (.inr (.inr (rr4 ts0 ts1 ts2 ts3)))))), (ts0, .inl (cI, 14, .inl tR0)), (ts1, .inl (cI, 14, .inl tR1)), (ts2, .inl (cI, 14, .inl tR2)), (ts3, .inl (cI, 14, .inl tR3)), (tkd, .inl (cI, 36, .inl tkf)), (tmo, .inl (cI, 36, .inl tmf)), (tlv, .inl (cI, 36, .inl tlf)), (ttc, .inl (cI, 4, .inl tcf)), (tts, .inl (cI, 4, .inl tsf)), (ttl, .inl (cI, 4, .inl ttf)), (pw, .inr (3, [.ref psk, .ref pkd, .ref pmo, .ref plv, .ref ptc, .ref pts, .ref ptl, .int (nI ptn), .int prg, .long php, .int (nI plw)])), (psk, .inl (cM, 4, .inr (.inr (.inr (.inr (rr4 ps0 ps1 ps2 ps3)))))), (ps0, .inl (cI, 14, .inl pR0)), (ps1, .inl (cI, 14, .inl pR1)), (ps2, .inl (cI, 14, .inl pR2)), (ps3, .inl (cI, 14, .inl pR3)), (pkd, .inl (cI, 36, .inl pkf)), (pmo, .inl (cI, 36, .inl pmf)), (plv, .inl (cI, 36, .inl plf)), (ptc, .inl (cI, 4, .inl pcf)), (pts, .inl (cI, 4, .inl psf)), (ptl, .inl (cI, 4, .inl ptf))] ∧ hi9 = 0) ∨ (ov = some (.int (nI ptn)) ∧ oz = [(x, .inr (6, [.ref tw, .ref pw, .ref uw, .ref o, .ref hh, .ref rd, .ref bk, .ref pl, .ref asd, .ref fd, .int (nI wr), .int hi9])), (tw, .inr (3, [.ref tsk, .ref tkd, .ref tmo, .ref tlv, .ref ttc, .ref tts, .ref ttl, .int (nI ptn), .int prg, .long php, .int (nI plw)])), (tsk, .inl (cM, 4, .inr (.inr (.inr (.inr (rr4 ts0 ts1 ts2 ts3)))))), (ts0, .inl (cI, 14, .inl pR0)), (ts1, .inl (cI, 14, .inl pR1)), (ts2, .inl (cI, 14, .inl pR2)), (ts3, .inl (cI, 14, .inl pR3)), (tkd, .inl (cI, 36, .inl pkf)), (tmo, .inl (cI, 36, .inl pmf)), (tlv, .inl (cI, 36, .inl plf)), (ttc, .inl (cI, 4, .inl pcf)), (tts, .inl (cI, 4, .inl psf)), (ttl, .inl (cI, 4, .inl ptf)), (pw, .inr (3, [.ref psk, .ref pkd, .ref pmo, .ref plv, .ref ptc, .ref pts, .ref ptl, .int (nI ptn), .int prg, .long php, .int (nI plw)])), (psk, .inl (cM, 4, .inr (.inr (.inr (.inr (rr4 ps0 ps1 ps2 ps3)))))), (ps0, .inl (cI, 14, .inl pR0)), (ps1, .inl (cI, 14, .inl pR1)), (ps2, .inl (cI, 14, .inl pR2)), (ps3, .inl (cI, 14, .inl pR3)), (pkd, .inl (cI, 36, .inl pkf)), (pmo, .inl (cI, 36, .inl pmf)), (plv, .inl (cI, 36, .inl plf)), (ptc, .inl (cI, 4, .inl pcf)), (pts, .inl (cI, 4, .inl psf)), (ptl, .inl (cI, 4, .inl ptf))] ∧ ¬ hi9 = 0)) := by
  refine rM_ofI rfl (Nat.le_of_ble_eq_true rfl) rfl (fun X C E => ?_)
  show X 0 0 [(x, .inr (6, [.ref tw, .ref pw, .ref uw, .ref o, .ref hh, .ref rd, .ref bk, .ref pl, .ref asd, .ref fd, .int (nI wr), .int hi9])), (tw, .inr (3, [.ref tsk, .ref tkd, .ref tmo, .ref tlv, .ref ttc, .ref tts, .ref ttl, .int (nI ttn), .int trg, .long thp, .int (nI tlw)])), (tsk, .inl (cM, 4, .inr (.inr (.inr (.inr (rr4 ts0 ts1 ts2 ts3)))))), (ts0, .inl (cI, 14, .inl tR0)), (ts1, .inl (cI, 14, .inl tR1)), (ts2, .inl (cI, 14, .inl tR2)), (ts3, .inl (cI, 14, .inl tR3)), (tkd, .inl (cI, 36, .inl tkf)), (tmo, .inl (cI, 36, .inl tmf)), (tlv, .inl (cI, 36, .inl tlf)), (ttc, .inl (cI, 4, .inl tcf)), (tts, .inl (cI, 4, .inl tsf)), (ttl, .inl (cI, 4, .inl ttf)), (pw, .inr (3, [.ref psk, .ref pkd, .ref pmo, .ref plv, .ref ptc, .ref pts, .ref ptl, .int (nI ptn), .int prg, .long php, .int (nI plw)])), (psk, .inl (cM, 4, .inr (.inr (.inr (.inr (rr4 ps0 ps1 ps2 ps3)))))), (ps0, .inl (cI, 14, .inl pR0)), (ps1, .inl (cI, 14, .inl pR1)), (ps2, .inl (cI, 14, .inl pR2)), (ps3, .inl (cI, 14, .inl pR3)), (pkd, .inl (cI, 36, .inl pkf)), (pmo, .inl (cI, 36, .inl pmf)), (plv, .inl (cI, 36, .inl plf)), (ptc, .inl (cI, 4, .inl pcf)), (pts, .inl (cI, 4, .inl psf)), (ptl, .inl (cI, 4, .inl ptf))] [(0, .ref x)] 0 []
  refine x_aload_n C dX7_back_0 0 rfl ?_
  refine x_get C inlX7 rfl 11 (by decide) gw_21_12 dX7_back_1 0 rfl rfl ?_
  refine x_if_ne C dX7_back_4 (tgt := 10) rfl (fun c1 => ?_) (fun c1 => ?_)
  ·
    refine x_aload_n C dX7_back_10 0 rfl ?_
    refine x_get C inlX7 rfl 0 (by decide) gw_1_16 dX7_back_11 0 rfl rfl ?_
    refine x_aload_n C dX7_back_14 0 rfl ?_
    refine x_get C inlX7 rfl 1 (by decide) gw_1_17 dX7_back_15 0 rfl rfl ?_
    refine x_callV C (As := [.ref pw]) (st := []) (wc := [(tw, .inr (3, [.ref tsk, .ref tkd, .ref tmo, .ref tlv, .ref ttc, .ref tts, .ref ttl, .int (nI ttn), .int trg, .long thp, .int (nI tlw)])), (tsk, .inl (cM, 4, .inr (.inr (.inr (.inr (rr4 ts0 ts1 ts2 ts3)))))), (ts0, .inl (cI, 14, .inl tR0)), (ts1, .inl (cI, 14, .inl tR1)), (ts2, .inl (cI, 14, .inl tR2)), (ts3, .inl (cI, 14, .inl tR3)), (tkd, .inl (cI, 36, .inl tkf)), (tmo, .inl (cI, 36, .inl tmf)), (tlv, .inl (cI, 36, .inl tlf)), (ttc, .inl (cI, 4, .inl tcf)), (tts, .inl (cI, 4, .inl tsf)), (ttl, .inl (cI, 4, .inl ttf)), (pw, .inr (3, [.ref psk, .ref pkd, .ref pmo, .ref plv, .ref ptc, .ref pts, .ref ptl, .int (nI ptn), .int prg, .long php, .int (nI plw)])), (psk, .inl (cM, 4, .inr (.inr (.inr (.inr (rr4 ps0 ps1 ps2 ps3)))))), (ps0, .inl (cI, 14, .inl pR0)), (ps1, .inl (cI, 14, .inl pR1)), (ps2, .inl (cI, 14, .inl pR2)), (ps3, .inl (cI, 14, .inl pR3)), (pkd, .inl (cI, 36, .inl pkf)), (pmo, .inl (cI, 36, .inl pmf)), (plv, .inl (cI, 36, .inl plf)), (ptc, .inl (cI, 4, .inl pcf)), (pts, .inl (cI, 4, .inl psf)), (ptl, .inl (cI, 4, .inl ptf))]) (wr := [(x, .inr (6, [.ref tw, .ref pw, .ref uw, .ref o, .ref hh, .ref rd, .ref bk, .ref pl, .ref asd, .ref fd, .int (nI wr), .int hi9]))]) (c_X4_become l dG cI cM cW cS tw tsk tkd tmo tlv ttc tts ttl ts0 ts1 ts2 ts3 ttn tlw trg thp tR0 tR1 tR2 tR3 tkf tmf tlf tcf tsf ttf pw psk pkd pmo plv ptc pts ptl ps0 ps1 ps2 ps3 ptn plw prg php pR0 pR1 pR2 pR3 pkf pmf plf pcf psf ptf ) rZ0_ok (fun _ _ _ _ => trivial) kV_X7_209 ⟨rfl, hy_X4_become⟩ ⟨Nat.le_of_ble_eq_true rfl, Nat.le_of_ble_eq_true rfl⟩ ⟨Nat.le_of_ble_eq_true rfl, Nat.le_of_ble_eq_true rfl⟩ dX7_back_18 1 rfl rfl [1, 2, 3, 4, 5, 6, 7, 8, 9, 10, 11, 12, 13, 14, 15, 16, 17, 18, 19, 20, 21, 22, 23, 24] [0] rfl rfl rfl rfl (by decide) rfl (Nat.le_of_ble_eq_true rfl) ?_
    intro v2 w3 h4
    obtain ⟨rfl, rfl, hf5⟩ := h4
    show X 0 0 [(x, .inr (6, [.ref tw, .ref pw, .ref uw, .ref o, .ref hh, .ref rd, .ref bk, .ref pl, .ref asd, .ref fd, .int (nI wr), .int hi9])), (tw, .inr (3, [.ref tsk, .ref tkd, .ref tmo, .ref tlv, .ref ttc, .ref tts, .ref ttl, .int (nI ptn), .int prg, .long php, .int (nI plw)])), (tsk, .inl (cM, 4, .inr (.inr (.inr (.inr (rr4 ts0 ts1 ts2 ts3)))))), (ts0, .inl (cI, 14, .inl pR0)), (ts1, .inl (cI, 14, .inl pR1)), (ts2, .inl (cI, 14, .inl pR2)), (ts3, .inl (cI, 14, .inl pR3)), (tkd, .inl (cI, 36, .inl pkf)), (tmo, .inl (cI, 36, .inl pmf)), (tlv, .inl (cI, 36, .inl plf)), (ttc, .inl (cI, 4, .inl pcf)), (tts, .inl (cI, 4, .inl psf)), (ttl, .inl (cI, 4, .inl ptf)), (pw, .inr (3, [.ref psk, .ref pkd, .ref pmo, .ref plv, .ref ptc, .ref pts, .ref ptl, .int (nI ptn), .int prg, .long php, .int (nI plw)])), (psk, .inl (cM, 4, .inr (.inr (.inr (.inr (rr4 ps0 ps1 ps2 ps3)))))), (ps0, .inl (cI, 14, .inl pR0)), (ps1, .inl (cI, 14, .inl pR1)), (ps2, .inl (cI, 14, .inl pR2)), (ps3, .inl (cI, 14, .inl pR3)), (pkd, .inl (cI, 36, .inl pkf)), (pmo, .inl (cI, 36, .inl pmf)), (plv, .inl (cI, 36, .inl plf)), (ptc, .inl (cI, 4, .inl pcf)), (pts, .inl (cI, 4, .inl psf)), (ptl, .inl (cI, 4, .inl ptf))] [(0, .ref x)] 21 []
    refine x_aload_n C dX7_back_21 0 rfl ?_
    refine x_get C inlX7 rfl 0 (by decide) gw_1_16 dX7_back_22 0 rfl rfl ?_
    refine x_getN C inlX4 rfl 7 (by decide) nw_X7_104 dX7_back_25 1 rfl rfl ?_
    refine E dX7_back_28 (rfl) ?_
    exact Or.inr (⟨rfl, rfl, by assumption⟩)
  ·
    refine x_bipush C dX7_back_7 (v := (-3)) rfl ?_
    refine E dX7_back_9 (rfl) ?_
    exact Or.inl ⟨rfl, rfl, by assumption⟩
set_option maxHeartbeats 4000000 in
set_option maxRecDepth 100000 in
theorem c_X8_image (l : Launch) (dG : va_G) (cI cM cW cS : ClassId) (m a_sky a_kind a_more a_strewn a_treeCell a_treeSort a_treeLeaves a_tape a_code a_begins a_stack a_dry a_wet a_covered a_hangs a_off a_dryGo a_wetGo a_keptSky a_oldSky a_oldCells a_sheetSort a_sheetSize a_items a_spare : Nat) (tn tz wr lw itn ilw : Nat) (i_raking i_made i_at i_from i_sort i_value i_open i_fell i_fellToday i_rotten i_raked i_cost i_imaged i_oldRaking : Int32) (l_heaps l_oldHeaps : Int64) (skf osf kf mf lf ocf : Nat → Int32)  : rM l yX8_image cX8_image 2 (some .int) ({ frames := 0, cells := 0, slots := 0, locals := 0 } : Room) dG (tY cI cM cW cS) rZ0 [.ref m] [(m, .inr (7, [.ref a_sky, .ref a_kind, .ref a_more, .ref a_strewn, .int (nI tn), .ref a_treeCell, .ref a_treeSort, .ref a_treeLeaves, .int i_raking, .long l_heaps, .int (nI tz), .ref a_tape, .int (nI wr), .int (nI lw), .ref a_code, .ref a_begins, .int i_made, .int i_at, .int i_from, .int i_sort, .int i_value, .int i_open, .ref a_stack, .ref a_dry, .ref a_wet, .ref a_covered, .ref a_hangs, .ref a_off, .int i_fell, .int i_fellToday, .int i_rotten, .int i_raked, .int i_cost, .ref a_dryGo, .ref a_wetGo, .ref a_keptSky, .int i_imaged, .int (nI itn), .int i_oldRaking, .long l_oldHeaps, .int (nI ilw), .ref a_oldSky, .ref a_oldCells, .ref a_sheetSort, .ref a_sheetSize, .ref a_items, .ref a_spare])), (a_sky, .inl (cI, 56, .inl skf)), (a_oldSky, .inl (cI, 56, .inl osf)), (a_kind, .inl (cI, 36, .inl kf)), (a_more, .inl (cI, 36, .inl mf)), (a_strewn, .inl (cI, 36, .inl lf)), (a_oldCells, .inl (cI, 108, .inl ocf))] (fun ov oz => ov = some (.int (nI tn)) ∧ oz = [(m, .inr (7, [.ref a_sky, .ref a_kind, .ref a_more, .ref a_strewn, .int (nI tn), .ref a_treeCell, .ref a_treeSort, .ref a_treeLeaves, .int i_raking, .long l_heaps, .int (nI tz), .ref a_tape, .int (nI wr), .int (nI lw), .ref a_code, .ref a_begins, .int i_made, .int i_at, .int i_from, .int i_sort, .int i_value, .int i_open, .ref a_stack, .ref a_dry, .ref a_wet, .ref a_covered, .ref a_hangs, .ref a_off, .int i_fell, .int i_fellToday, .int i_rotten, .int i_raked, .int i_cost, .ref a_dryGo, .ref a_wetGo, .ref a_keptSky, .int 1, .int (nI tn), .int i_raking, .long l_heaps, .int (nI lw), .ref a_oldSky, .ref a_oldCells, .ref a_sheetSort, .ref a_sheetSize, .ref a_items, .ref a_spare])), (a_sky, .inl (cI, 56, .inl skf)), (a_oldSky, .inl (cI, 56, .inl skf)), (a_kind, .inl (cI, 36, .inl kf)), (a_more, .inl (cI, 36, .inl mf)), (a_strewn, .inl (cI, 36, .inl lf)), (a_oldCells, .inl (cI, 108, .inl (o_cells kf mf lf)))] ∧ True) := by
  refine rM_ofI rfl (Nat.le_of_ble_eq_true rfl) rfl (fun X C E => ?_)
  show X 0 0 [(m, .inr (7, [.ref a_sky, .ref a_kind, .ref a_more, .ref a_strewn, .int (nI tn), .ref a_treeCell, .ref a_treeSort, .ref a_treeLeaves, .int i_raking, .long l_heaps, .int (nI tz), .ref a_tape, .int (nI wr), .int (nI lw), .ref a_code, .ref a_begins, .int i_made, .int i_at, .int i_from, .int i_sort, .int i_value, .int i_open, .ref a_stack, .ref a_dry, .ref a_wet, .ref a_covered, .ref a_hangs, .ref a_off, .int i_fell, .int i_fellToday, .int i_rotten, .int i_raked, .int i_cost, .ref a_dryGo, .ref a_wetGo, .ref a_keptSky, .int i_imaged, .int (nI itn), .int i_oldRaking, .long l_oldHeaps, .int (nI ilw), .ref a_oldSky, .ref a_oldCells, .ref a_sheetSort, .ref a_sheetSize, .ref a_items, .ref a_spare])), (a_sky, .inl (cI, 56, .inl skf)), (a_oldSky, .inl (cI, 56, .inl osf)), (a_kind, .inl (cI, 36, .inl kf)), (a_more, .inl (cI, 36, .inl mf)), (a_strewn, .inl (cI, 36, .inl lf)), (a_oldCells, .inl (cI, 108, .inl ocf))] [(0, .ref m)] 0 []
  refine x_aload_n C dX8_image_0 0 rfl ?_
  refine x_iconst C dX8_image_1 (v := 1) rfl ?_
  refine x_put C inlX8 rfl tyX8 tyX8_ok nmX8 36 (by decide) gw_21_18 rfl dX8_image_2 0 rfl (rfl) rfl (Nat.le_of_ble_eq_true rfl) ?_
  show X _ _ [(m, .inr (7, [.ref a_sky, .ref a_kind, .ref a_more, .ref a_strewn, .int (nI tn), .ref a_treeCell, .ref a_treeSort, .ref a_treeLeaves, .int i_raking, .long l_heaps, .int (nI tz), .ref a_tape, .int (nI wr), .int (nI lw), .ref a_code, .ref a_begins, .int i_made, .int i_at, .int i_from, .int i_sort, .int i_value, .int i_open, .ref a_stack, .ref a_dry, .ref a_wet, .ref a_covered, .ref a_hangs, .ref a_off, .int i_fell, .int i_fellToday, .int i_rotten, .int i_raked, .int i_cost, .ref a_dryGo, .ref a_wetGo, .ref a_keptSky, .int 1, .int (nI itn), .int i_oldRaking, .long l_oldHeaps, .int (nI ilw), .ref a_oldSky, .ref a_oldCells, .ref a_sheetSort, .ref a_sheetSize, .ref a_items, .ref a_spare])), (a_sky, .inl (cI, 56, .inl skf)), (a_oldSky, .inl (cI, 56, .inl osf)), (a_kind, .inl (cI, 36, .inl kf)), (a_more, .inl (cI, 36, .inl mf)), (a_strewn, .inl (cI, 36, .inl lf)), (a_oldCells, .inl (cI, 108, .inl ocf))] _ _ _
  refine x_aload_n C dX8_image_5 0 rfl ?_
  refine x_aload_n C dX8_image_6 0 rfl ?_
  refine x_get C inlX8 rfl 4 (by decide) gw_16_4 dX8_image_7 0 rfl rfl ?_
  refine x_put C inlX8 rfl tyX8 tyX8_ok nmX8 37 (by decide) gw_21_17 rfl dX8_image_10 0 rfl (rfl) rfl (Nat.le_of_ble_eq_true rfl) ?_
  show X _ _ [(m, .inr (7, [.ref a_sky, .ref a_kind, .ref a_more, .ref a_strewn, .int (nI tn), .ref a_treeCell, .ref a_treeSort, .ref a_treeLeaves, .int i_raking, .long l_heaps, .int (nI tz), .ref a_tape, .int (nI wr), .int (nI lw), .ref a_code, .ref a_begins, .int i_made, .int i_at, .int i_from, .int i_sort, .int i_value, .int i_open, .ref a_stack, .ref a_dry, .ref a_wet, .ref a_covered, .ref a_hangs, .ref a_off, .int i_fell, .int i_fellToday, .int i_rotten, .int i_raked, .int i_cost, .ref a_dryGo, .ref a_wetGo, .ref a_keptSky, .int 1, .int (nI tn), .int i_oldRaking, .long l_oldHeaps, .int (nI ilw), .ref a_oldSky, .ref a_oldCells, .ref a_sheetSort, .ref a_sheetSize, .ref a_items, .ref a_spare])), (a_sky, .inl (cI, 56, .inl skf)), (a_oldSky, .inl (cI, 56, .inl osf)), (a_kind, .inl (cI, 36, .inl kf)), (a_more, .inl (cI, 36, .inl mf)), (a_strewn, .inl (cI, 36, .inl lf)), (a_oldCells, .inl (cI, 108, .inl ocf))] _ _ _
  refine x_aload_n C dX8_image_13 0 rfl ?_
  refine x_aload_n C dX8_image_14 0 rfl ?_
  refine x_get C inlX8 rfl 8 (by decide) gw_16_5 dX8_image_15 0 rfl rfl ?_
  show X _ _ _ _ 18 _
  refine x_put C inlX8 rfl tyX8 tyX8_ok nmX8 38 (by decide) gw_41_11 rfl dX8_image_18 0 rfl (rfl) rfl (Nat.le_of_ble_eq_true rfl) ?_
  show X _ _ [(m, .inr (7, [.ref a_sky, .ref a_kind, .ref a_more, .ref a_strewn, .int (nI tn), .ref a_treeCell, .ref a_treeSort, .ref a_treeLeaves, .int i_raking, .long l_heaps, .int (nI tz), .ref a_tape, .int (nI wr), .int (nI lw), .ref a_code, .ref a_begins, .int i_made, .int i_at, .int i_from, .int i_sort, .int i_value, .int i_open, .ref a_stack, .ref a_dry, .ref a_wet, .ref a_covered, .ref a_hangs, .ref a_off, .int i_fell, .int i_fellToday, .int i_rotten, .int i_raked, .int i_cost, .ref a_dryGo, .ref a_wetGo, .ref a_keptSky, .int 1, .int (nI tn), .int i_raking, .long l_oldHeaps, .int (nI ilw), .ref a_oldSky, .ref a_oldCells, .ref a_sheetSort, .ref a_sheetSize, .ref a_items, .ref a_spare])), (a_sky, .inl (cI, 56, .inl skf)), (a_oldSky, .inl (cI, 56, .inl osf)), (a_kind, .inl (cI, 36, .inl kf)), (a_more, .inl (cI, 36, .inl mf)), (a_strewn, .inl (cI, 36, .inl lf)), (a_oldCells, .inl (cI, 108, .inl ocf))] _ _ _
  refine x_aload_n C dX8_image_21 0 rfl ?_
  refine x_aload_n C dX8_image_22 0 rfl ?_
  refine x_get C inlX8 rfl 9 (by decide) gw_11_19 dX8_image_23 0 rfl rfl ?_
  refine x_put C inlX8 rfl tyX8 tyX8_ok nmX8 39 (by decide) gw_41_12 rfl dX8_image_26 0 rfl (rfl) rfl (Nat.le_of_ble_eq_true rfl) ?_
  show X _ _ [(m, .inr (7, [.ref a_sky, .ref a_kind, .ref a_more, .ref a_strewn, .int (nI tn), .ref a_treeCell, .ref a_treeSort, .ref a_treeLeaves, .int i_raking, .long l_heaps, .int (nI tz), .ref a_tape, .int (nI wr), .int (nI lw), .ref a_code, .ref a_begins, .int i_made, .int i_at, .int i_from, .int i_sort, .int i_value, .int i_open, .ref a_stack, .ref a_dry, .ref a_wet, .ref a_covered, .ref a_hangs, .ref a_off, .int i_fell, .int i_fellToday, .int i_rotten, .int i_raked, .int i_cost, .ref a_dryGo, .ref a_wetGo, .ref a_keptSky, .int 1, .int (nI tn), .int i_raking, .long l_heaps, .int (nI ilw), .ref a_oldSky, .ref a_oldCells, .ref a_sheetSort, .ref a_sheetSize, .ref a_items, .ref a_spare])), (a_sky, .inl (cI, 56, .inl skf)), (a_oldSky, .inl (cI, 56, .inl osf)), (a_kind, .inl (cI, 36, .inl kf)), (a_more, .inl (cI, 36, .inl mf)), (a_strewn, .inl (cI, 36, .inl lf)), (a_oldCells, .inl (cI, 108, .inl ocf))] _ _ _
  refine x_aload_n C dX8_image_29 0 rfl ?_
  refine x_aload_n C dX8_image_30 0 rfl ?_
  refine x_get C inlX8 rfl 13 (by decide) gw_16_6 dX8_image_31 0 rfl rfl ?_
  refine x_put C inlX8 rfl tyX8 tyX8_ok nmX8 40 (by decide) gw_41_13 rfl dX8_image_34 0 rfl (rfl) rfl (Nat.le_of_ble_eq_true rfl) ?_
  show X _ _ [(m, .inr (7, [.ref a_sky, .ref a_kind, .ref a_more, .ref a_strewn, .int (nI tn), .ref a_treeCell, .ref a_treeSort, .ref a_treeLeaves, .int i_raking, .long l_heaps, .int (nI tz), .ref a_tape, .int (nI wr), .int (nI lw), .ref a_code, .ref a_begins, .int i_made, .int i_at, .int i_from, .int i_sort, .int i_value, .int i_open, .ref a_stack, .ref a_dry, .ref a_wet, .ref a_covered, .ref a_hangs, .ref a_off, .int i_fell, .int i_fellToday, .int i_rotten, .int i_raked, .int i_cost, .ref a_dryGo, .ref a_wetGo, .ref a_keptSky, .int 1, .int (nI tn), .int i_raking, .long l_heaps, .int (nI lw), .ref a_oldSky, .ref a_oldCells, .ref a_sheetSort, .ref a_sheetSize, .ref a_items, .ref a_spare])), (a_sky, .inl (cI, 56, .inl skf)), (a_oldSky, .inl (cI, 56, .inl osf)), (a_kind, .inl (cI, 36, .inl kf)), (a_more, .inl (cI, 36, .inl mf)), (a_strewn, .inl (cI, 36, .inl lf)), (a_oldCells, .inl (cI, 108, .inl ocf))] _ _ _
  refine x_iconst C dX8_image_37 (v := 0) rfl ?_
  show X _ _ _ _ 38 _
  refine x_istore_n C dX8_image_38 (by decide) (lv' := [(1, .int 0), (0, .ref m)]) rfl ?_
  have L39_0 : ∀ (fuel : Nat) (i : Nat) (g : Nat → Int32), (hi : i ≤ 56) → (h0 : ∀ j, g j = if j < i then skf j else osf j) → 56 - i < fuel → X 0 0 [(m, .inr (7, [.ref a_sky, .ref a_kind, .ref a_more, .ref a_strewn, .int (nI tn), .ref a_treeCell, .ref a_treeSort, .ref a_treeLeaves, .int i_raking, .long l_heaps, .int (nI tz), .ref a_tape, .int (nI wr), .int (nI lw), .ref a_code, .ref a_begins, .int i_made, .int i_at, .int i_from, .int i_sort, .int i_value, .int i_open, .ref a_stack, .ref a_dry, .ref a_wet, .ref a_covered, .ref a_hangs, .ref a_off, .int i_fell, .int i_fellToday, .int i_rotten, .int i_raked, .int i_cost, .ref a_dryGo, .ref a_wetGo, .ref a_keptSky, .int 1, .int (nI tn), .int i_raking, .long l_heaps, .int (nI lw), .ref a_oldSky, .ref a_oldCells, .ref a_sheetSort, .ref a_sheetSize, .ref a_items, .ref a_spare])), (a_sky, .inl (cI, 56, .inl skf)), (a_oldSky, .inl (cI, 56, .inl g)), (a_kind, .inl (cI, 36, .inl kf)), (a_more, .inl (cI, 36, .inl mf)), (a_strewn, .inl (cI, 36, .inl lf)), (a_oldCells, .inl (cI, 108, .inl ocf))] [(1, .int (nI i)), (0, .ref m)] 39 [] := by
    intro fuel
    induction fuel with
    | zero => intros; omega
    | succ fuel ihL39_0 =>
      intro i g hi h0 hfu
      refine x_iload_n C dX8_image_39 0 rfl ?_
      refine x_bipush C dX8_image_40 (v := 56) rfl ?_
      refine x_icmp_ge C dX8_image_42 (tgt := 63) rfl (fun c2 => ?_) (fun c2 => ?_)
      ·
        have c2 : i ≥ 56 := q_ge_t rfl (rfl : (56 : Int32) = nI 56) (by omega) (by omega) c2
        obtain rfl : i = 56 := by omega
        refine x_arr C 2 rfl skf (q_end h0) ?_
        show X _ _ [(m, .inr (7, [.ref a_sky, .ref a_kind, .ref a_more, .ref a_strewn, .int (nI tn), .ref a_treeCell, .ref a_treeSort, .ref a_treeLeaves, .int i_raking, .long l_heaps, .int (nI tz), .ref a_tape, .int (nI wr), .int (nI lw), .ref a_code, .ref a_begins, .int i_made, .int i_at, .int i_from, .int i_sort, .int i_value, .int i_open, .ref a_stack, .ref a_dry, .ref a_wet, .ref a_covered, .ref a_hangs, .ref a_off, .int i_fell, .int i_fellToday, .int i_rotten, .int i_raked, .int i_cost, .ref a_dryGo, .ref a_wetGo, .ref a_keptSky, .int 1, .int (nI tn), .int i_raking, .long l_heaps, .int (nI lw), .ref a_oldSky, .ref a_oldCells, .ref a_sheetSort, .ref a_sheetSize, .ref a_items, .ref a_spare])), (a_sky, .inl (cI, 56, .inl skf)), (a_oldSky, .inl (cI, 56, .inl skf)), (a_kind, .inl (cI, 36, .inl kf)), (a_more, .inl (cI, 36, .inl mf)), (a_strewn, .inl (cI, 36, .inl lf)), (a_oldCells, .inl (cI, 108, .inl ocf))] _ _ _
        refine x_iconst C dX8_image_63 (v := 0) rfl ?_
        refine x_istore_n C dX8_image_64 (by decide) (lv' := [(1, .int 0), (0, .ref m)]) rfl ?_
        have L65_2 : ∀ (fuel : Nat) (c : Nat) (g : Nat → Int32), (hc : c ≤ 36) → (h1 : ∀ j, g j = o_cel kf mf lf ocf c j) → 36 - c < fuel → X 0 0 [(m, .inr (7, [.ref a_sky, .ref a_kind, .ref a_more, .ref a_strewn, .int (nI tn), .ref a_treeCell, .ref a_treeSort, .ref a_treeLeaves, .int i_raking, .long l_heaps, .int (nI tz), .ref a_tape, .int (nI wr), .int (nI lw), .ref a_code, .ref a_begins, .int i_made, .int i_at, .int i_from, .int i_sort, .int i_value, .int i_open, .ref a_stack, .ref a_dry, .ref a_wet, .ref a_covered, .ref a_hangs, .ref a_off, .int i_fell, .int i_fellToday, .int i_rotten, .int i_raked, .int i_cost, .ref a_dryGo, .ref a_wetGo, .ref a_keptSky, .int 1, .int (nI tn), .int i_raking, .long l_heaps, .int (nI lw), .ref a_oldSky, .ref a_oldCells, .ref a_sheetSort, .ref a_sheetSize, .ref a_items, .ref a_spare])), (a_sky, .inl (cI, 56, .inl skf)), (a_oldSky, .inl (cI, 56, .inl skf)), (a_kind, .inl (cI, 36, .inl kf)), (a_more, .inl (cI, 36, .inl mf)), (a_strewn, .inl (cI, 36, .inl lf)), (a_oldCells, .inl (cI, 108, .inl g))] [(1, .int (nI c)), (0, .ref m)] 65 [] := by
          intro fuel
          induction fuel with
          | zero => intros; omega
          | succ fuel ihL65_2 =>
            intro c g hc h1 hfu
            refine x_iload_n C dX8_image_65 0 rfl ?_
            refine x_bipush C dX8_image_66 (v := 36) rfl ?_
            refine x_icmp_ge C dX8_image_68 (tgt := 119) rfl (fun c4 => ?_) (fun c4 => ?_)
            ·
              have c4 : c ≥ 36 := q_ge_t rfl (rfl : (36 : Int32) = nI 36) (by omega) (by omega) c4
              obtain rfl : c = 36 := by omega
              refine x_arr C 6 rfl (o_cells kf mf lf) (q_cells_e h1) ?_
              show X _ _ [(m, .inr (7, [.ref a_sky, .ref a_kind, .ref a_more, .ref a_strewn, .int (nI tn), .ref a_treeCell, .ref a_treeSort, .ref a_treeLeaves, .int i_raking, .long l_heaps, .int (nI tz), .ref a_tape, .int (nI wr), .int (nI lw), .ref a_code, .ref a_begins, .int i_made, .int i_at, .int i_from, .int i_sort, .int i_value, .int i_open, .ref a_stack, .ref a_dry, .ref a_wet, .ref a_covered, .ref a_hangs, .ref a_off, .int i_fell, .int i_fellToday, .int i_rotten, .int i_raked, .int i_cost, .ref a_dryGo, .ref a_wetGo, .ref a_keptSky, .int 1, .int (nI tn), .int i_raking, .long l_heaps, .int (nI lw), .ref a_oldSky, .ref a_oldCells, .ref a_sheetSort, .ref a_sheetSize, .ref a_items, .ref a_spare])), (a_sky, .inl (cI, 56, .inl skf)), (a_oldSky, .inl (cI, 56, .inl skf)), (a_kind, .inl (cI, 36, .inl kf)), (a_more, .inl (cI, 36, .inl mf)), (a_strewn, .inl (cI, 36, .inl lf)), (a_oldCells, .inl (cI, 108, .inl (o_cells kf mf lf)))] _ _ _
              refine x_aload_n C dX8_image_119 1 rfl ?_
              refine x_get C inlX8 rfl 4 (by decide) gw_16_4 dX8_image_120 0 rfl rfl ?_
              refine E dX8_image_123 (rfl) ?_
              exact ⟨rfl, rfl, by trivial⟩
            ·
              have c4 : c < 36 := q_ge_f rfl (rfl : (36 : Int32) = nI 36) (by omega) (by omega) c4
              refine x_aload_n C dX8_image_71 1 rfl ?_
              refine x_get C inlX8 rfl 42 (by decide) gw_11_14 dX8_image_72 0 rfl rfl ?_
              refine x_iload_n C dX8_image_75 0 rfl ?_
              refine x_aload_n C dX8_image_76 1 rfl ?_
              refine x_get C inlX8 rfl 1 (by decide) gw_10_19 dX8_image_77 0 rfl rfl ?_
              refine x_iload_n C dX8_image_80 0 rfl ?_
              refine x_iaload C 0 rfl dX8_image_81 c (q_cl rfl (by omega)) (q_ix rfl (by omega) (by omega)) 3 rfl ?_
              refine x_iastore C 0 rfl dX8_image_82 c (q_cl rfl (by omega)) (q_ix rfl (by omega) (by omega)) 6 rfl ?_
              show X _ _ [(m, .inr (7, [.ref a_sky, .ref a_kind, .ref a_more, .ref a_strewn, .int (nI tn), .ref a_treeCell, .ref a_treeSort, .ref a_treeLeaves, .int i_raking, .long l_heaps, .int (nI tz), .ref a_tape, .int (nI wr), .int (nI lw), .ref a_code, .ref a_begins, .int i_made, .int i_at, .int i_from, .int i_sort, .int i_value, .int i_open, .ref a_stack, .ref a_dry, .ref a_wet, .ref a_covered, .ref a_hangs, .ref a_off, .int i_fell, .int i_fellToday, .int i_rotten, .int i_raked, .int i_cost, .ref a_dryGo, .ref a_wetGo, .ref a_keptSky, .int 1, .int (nI tn), .int i_raking, .long l_heaps, .int (nI lw), .ref a_oldSky, .ref a_oldCells, .ref a_sheetSort, .ref a_sheetSize, .ref a_items, .ref a_spare])), (a_sky, .inl (cI, 56, .inl skf)), (a_oldSky, .inl (cI, 56, .inl skf)), (a_kind, .inl (cI, 36, .inl kf)), (a_more, .inl (cI, 36, .inl mf)), (a_strewn, .inl (cI, 36, .inl lf)), (a_oldCells, .inl (cI, 108, .inl (upd g c (kf c))))] _ _ _
              refine x_aload_n C dX8_image_83 1 rfl ?_
              refine x_get C inlX8 rfl 42 (by decide) gw_11_14 dX8_image_84 0 rfl rfl ?_
              show X _ _ _ _ 87 _
              refine x_bipush C dX8_image_87 (v := 36) rfl ?_
              refine x_iload_n C dX8_image_89 0 rfl ?_
              refine x_iadd C dX8_image_90 ?_
              refine x_aload_n C dX8_image_91 1 rfl ?_
              refine x_get C inlX8 rfl 2 (by decide) gw_10_20 dX8_image_92 0 rfl rfl ?_
              refine x_iload_n C dX8_image_95 0 rfl ?_
              refine x_iaload C 0 rfl dX8_image_96 c (q_cl rfl (by omega)) (q_ix rfl (by omega) (by omega)) 4 rfl ?_
              refine x_iastore C 0 rfl dX8_image_97 (36 + c) (q_cl (q_iadd (a := 36) (b := c) (rfl : (36 : Int32) = nI 36) rfl) (by omega)) (q_ix (q_iadd (a := 36) (b := c) (rfl : (36 : Int32) = nI 36) rfl) (by omega) (by omega)) 6 rfl ?_
              show X _ _ [(m, .inr (7, [.ref a_sky, .ref a_kind, .ref a_more, .ref a_strewn, .int (nI tn), .ref a_treeCell, .ref a_treeSort, .ref a_treeLeaves, .int i_raking, .long l_heaps, .int (nI tz), .ref a_tape, .int (nI wr), .int (nI lw), .ref a_code, .ref a_begins, .int i_made, .int i_at, .int i_from, .int i_sort, .int i_value, .int i_open, .ref a_stack, .ref a_dry, .ref a_wet, .ref a_covered, .ref a_hangs, .ref a_off, .int i_fell, .int i_fellToday, .int i_rotten, .int i_raked, .int i_cost, .ref a_dryGo, .ref a_wetGo, .ref a_keptSky, .int 1, .int (nI tn), .int i_raking, .long l_heaps, .int (nI lw), .ref a_oldSky, .ref a_oldCells, .ref a_sheetSort, .ref a_sheetSize, .ref a_items, .ref a_spare])), (a_sky, .inl (cI, 56, .inl skf)), (a_oldSky, .inl (cI, 56, .inl skf)), (a_kind, .inl (cI, 36, .inl kf)), (a_more, .inl (cI, 36, .inl mf)), (a_strewn, .inl (cI, 36, .inl lf)), (a_oldCells, .inl (cI, 108, .inl (upd (upd g c (kf c)) (36 + c) (mf c))))] _ _ _
              refine x_aload_n C dX8_image_98 1 rfl ?_
              refine x_get C inlX8 rfl 42 (by decide) gw_11_14 dX8_image_99 0 rfl rfl ?_
              show X _ _ _ _ 102 _
              refine x_bipush C dX8_image_102 (v := 72) rfl ?_
              refine x_iload_n C dX8_image_104 0 rfl ?_
              refine x_iadd C dX8_image_105 ?_
              refine x_aload_n C dX8_image_106 1 rfl ?_
              refine x_get C inlX8 rfl 3 (by decide) gw_10_21 dX8_image_107 0 rfl rfl ?_
              refine x_iload_n C dX8_image_110 0 rfl ?_
              refine x_iaload C 0 rfl dX8_image_111 c (q_cl rfl (by omega)) (q_ix rfl (by omega) (by omega)) 5 rfl ?_
              refine x_iastore C 0 rfl dX8_image_112 (72 + c) (q_cl (q_iadd (a := 72) (b := c) (rfl : (72 : Int32) = nI 72) rfl) (by omega)) (q_ix (q_iadd (a := 72) (b := c) (rfl : (72 : Int32) = nI 72) rfl) (by omega) (by omega)) 6 rfl ?_
              show X _ _ [(m, .inr (7, [.ref a_sky, .ref a_kind, .ref a_more, .ref a_strewn, .int (nI tn), .ref a_treeCell, .ref a_treeSort, .ref a_treeLeaves, .int i_raking, .long l_heaps, .int (nI tz), .ref a_tape, .int (nI wr), .int (nI lw), .ref a_code, .ref a_begins, .int i_made, .int i_at, .int i_from, .int i_sort, .int i_value, .int i_open, .ref a_stack, .ref a_dry, .ref a_wet, .ref a_covered, .ref a_hangs, .ref a_off, .int i_fell, .int i_fellToday, .int i_rotten, .int i_raked, .int i_cost, .ref a_dryGo, .ref a_wetGo, .ref a_keptSky, .int 1, .int (nI tn), .int i_raking, .long l_heaps, .int (nI lw), .ref a_oldSky, .ref a_oldCells, .ref a_sheetSort, .ref a_sheetSize, .ref a_items, .ref a_spare])), (a_sky, .inl (cI, 56, .inl skf)), (a_oldSky, .inl (cI, 56, .inl skf)), (a_kind, .inl (cI, 36, .inl kf)), (a_more, .inl (cI, 36, .inl mf)), (a_strewn, .inl (cI, 36, .inl lf)), (a_oldCells, .inl (cI, 108, .inl (upd (upd (upd g c (kf c)) (36 + c) (mf c)) (72 + c) (lf c))))] _ _ _
              refine x_iinc C dX8_image_113 0 rfl (v := nI (c + 1)) (nI_1 _) (by decide) (lv' := [(1, .int (nI (c + 1))), (0, .ref m)]) rfl ?_
              refine x_goto C dX8_image_116 (tgt := 65) rfl ?_
              exact ihL65_2 (c + 1) (upd (upd (upd g c (kf c)) (36 + c) (mf c)) (72 + c) (lf c)) (by omega) (q_cells_s (by omega) h1) (by omega)
        show X 0 0 [(m, .inr (7, [.ref a_sky, .ref a_kind, .ref a_more, .ref a_strewn, .int (nI tn), .ref a_treeCell, .ref a_treeSort, .ref a_treeLeaves, .int i_raking, .long l_heaps, .int (nI tz), .ref a_tape, .int (nI wr), .int (nI lw), .ref a_code, .ref a_begins, .int i_made, .int i_at, .int i_from, .int i_sort, .int i_value, .int i_open, .ref a_stack, .ref a_dry, .ref a_wet, .ref a_covered, .ref a_hangs, .ref a_off, .int i_fell, .int i_fellToday, .int i_rotten, .int i_raked, .int i_cost, .ref a_dryGo, .ref a_wetGo, .ref a_keptSky, .int 1, .int (nI tn), .int i_raking, .long l_heaps, .int (nI lw), .ref a_oldSky, .ref a_oldCells, .ref a_sheetSort, .ref a_sheetSize, .ref a_items, .ref a_spare])), (a_sky, .inl (cI, 56, .inl skf)), (a_oldSky, .inl (cI, 56, .inl skf)), (a_kind, .inl (cI, 36, .inl kf)), (a_more, .inl (cI, 36, .inl mf)), (a_strewn, .inl (cI, 36, .inl lf)), (a_oldCells, .inl (cI, 108, .inl ocf))] [(1, .int (nI 0)), (0, .ref m)] 65 []
        exact L65_2 ((36 - 0) + 1) 0 ocf (by omega) (q_cells_0) (Nat.lt_succ_self _)
      ·
        have c2 : i < 56 := q_ge_f rfl (rfl : (56 : Int32) = nI 56) (by omega) (by omega) c2
        refine x_aload_n C dX8_image_45 1 rfl ?_
        refine x_get C inlX8 rfl 41 (by decide) gw_11_13 dX8_image_46 0 rfl rfl ?_
        refine x_iload_n C dX8_image_49 0 rfl ?_
        refine x_aload_n C dX8_image_50 1 rfl ?_
        refine x_get C inlX8 rfl 0 (by decide) gw_10_18 dX8_image_51 0 rfl rfl ?_
        refine x_iload_n C dX8_image_54 0 rfl ?_
        refine x_iaload C 0 rfl dX8_image_55 i (q_cl rfl (by omega)) (q_ix rfl (by omega) (by omega)) 1 rfl ?_
        refine x_iastore C 0 rfl dX8_image_56 i (q_cl rfl (by omega)) (q_ix rfl (by omega) (by omega)) 2 rfl ?_
        show X _ _ [(m, .inr (7, [.ref a_sky, .ref a_kind, .ref a_more, .ref a_strewn, .int (nI tn), .ref a_treeCell, .ref a_treeSort, .ref a_treeLeaves, .int i_raking, .long l_heaps, .int (nI tz), .ref a_tape, .int (nI wr), .int (nI lw), .ref a_code, .ref a_begins, .int i_made, .int i_at, .int i_from, .int i_sort, .int i_value, .int i_open, .ref a_stack, .ref a_dry, .ref a_wet, .ref a_covered, .ref a_hangs, .ref a_off, .int i_fell, .int i_fellToday, .int i_rotten, .int i_raked, .int i_cost, .ref a_dryGo, .ref a_wetGo, .ref a_keptSky, .int 1, .int (nI tn), .int i_raking, .long l_heaps, .int (nI lw), .ref a_oldSky, .ref a_oldCells, .ref a_sheetSort, .ref a_sheetSize, .ref a_items, .ref a_spare])), (a_sky, .inl (cI, 56, .inl skf)), (a_oldSky, .inl (cI, 56, .inl (upd g i (skf i)))), (a_kind, .inl (cI, 36, .inl kf)), (a_more, .inl (cI, 36, .inl mf)), (a_strewn, .inl (cI, 36, .inl lf)), (a_oldCells, .inl (cI, 108, .inl ocf))] _ _ _
        refine x_iinc C dX8_image_57 0 rfl (v := nI (i + 1)) (nI_1 _) (by decide) (lv' := [(1, .int (nI (i + 1))), (0, .ref m)]) rfl ?_
        refine x_goto C dX8_image_60 (tgt := 39) rfl ?_
        exact ihL39_0 (i + 1) (upd g i (skf i)) (by omega) (q_up h0 rfl) (by omega)
  show X 0 0 [(m, .inr (7, [.ref a_sky, .ref a_kind, .ref a_more, .ref a_strewn, .int (nI tn), .ref a_treeCell, .ref a_treeSort, .ref a_treeLeaves, .int i_raking, .long l_heaps, .int (nI tz), .ref a_tape, .int (nI wr), .int (nI lw), .ref a_code, .ref a_begins, .int i_made, .int i_at, .int i_from, .int i_sort, .int i_value, .int i_open, .ref a_stack, .ref a_dry, .ref a_wet, .ref a_covered, .ref a_hangs, .ref a_off, .int i_fell, .int i_fellToday, .int i_rotten, .int i_raked, .int i_cost, .ref a_dryGo, .ref a_wetGo, .ref a_keptSky, .int 1, .int (nI tn), .int i_raking, .long l_heaps, .int (nI lw), .ref a_oldSky, .ref a_oldCells, .ref a_sheetSort, .ref a_sheetSize, .ref a_items, .ref a_spare])), (a_sky, .inl (cI, 56, .inl skf)), (a_oldSky, .inl (cI, 56, .inl osf)), (a_kind, .inl (cI, 36, .inl kf)), (a_more, .inl (cI, 36, .inl mf)), (a_strewn, .inl (cI, 36, .inl lf)), (a_oldCells, .inl (cI, 108, .inl ocf))] [(1, .int (nI 0)), (0, .ref m)] 39 []
  exact L39_0 ((56 - 0) + 1) 0 osf (by omega) (q_0) (Nat.lt_succ_self _)
set_option maxHeartbeats 4000000 in
set_option maxRecDepth 100000 in
theorem c_X8_back (l : Launch) (dG : va_G) (cI cM cW cS : ClassId) (m a_sky a_kind a_more a_strewn a_treeCell a_treeSort a_treeLeaves a_tape a_code a_begins a_stack a_dry a_wet a_covered a_hangs a_off a_dryGo a_wetGo a_keptSky a_oldSky a_oldCells a_sheetSort a_sheetSize a_items a_spare : Nat) (tn tz wr lw itn ilw : Nat) (i_raking i_made i_at i_from i_sort i_value i_open i_fell i_fellToday i_rotten i_raked i_cost i_imaged i_oldRaking : Int32) (l_heaps l_oldHeaps : Int64) (skf osf kf mf lf ocf : Nat → Int32) (pk pm pl : Nat → Int32) (hocf : ocf = o_cells pk pm pl) : rM l yX8_back cX8_back 2 (some .int) ({ frames := 0, cells := 0, slots := 0, locals := 0 } : Room) dG (tY cI cM cW cS) rZ0 [.ref m] [(m, .inr (7, [.ref a_sky, .ref a_kind, .ref a_more, .ref a_strewn, .int (nI tn), .ref a_treeCell, .ref a_treeSort, .ref a_treeLeaves, .int i_raking, .long l_heaps, .int (nI tz), .ref a_tape, .int (nI wr), .int (nI lw), .ref a_code, .ref a_begins, .int i_made, .int i_at, .int i_from, .int i_sort, .int i_value, .int i_open, .ref a_stack, .ref a_dry, .ref a_wet, .ref a_covered, .ref a_hangs, .ref a_off, .int i_fell, .int i_fellToday, .int i_rotten, .int i_raked, .int i_cost, .ref a_dryGo, .ref a_wetGo, .ref a_keptSky, .int i_imaged, .int (nI itn), .int i_oldRaking, .long l_oldHeaps, .int (nI ilw), .ref a_oldSky, .ref a_oldCells, .ref a_sheetSort, .ref a_sheetSize, .ref a_items, .ref a_spare])), (a_sky, .inl (cI, 56, .inl skf)), (a_oldSky, .inl (cI, 56, .inl osf)), (a_kind, .inl (cI, 36, .inl kf)), (a_more, .inl (cI, 36, .inl mf)), (a_strewn, .inl (cI, 36, .inl lf)), (a_oldCells, .inl (cI, 108, .inl ocf))] (fun ov oz => (ov = some (.int (-3)) ∧ oz = [(m, .inr (7, [.ref a_sky, .ref a_kind, .ref a_more, .ref a_strewn, .int (nI tn), .ref a_treeCell, .ref a_treeSort, .ref a_treeLeaves, .int i_raking, .long l_heaps, .int (nI tz), .ref a_tape, .int (nI wr), .int (nI lw), .ref a_code, .ref a_begins, .int i_made, .int i_at, .int i_from, .int i_sort, .int i_value, .int i_open, .ref a_stack, .ref a_dry, .ref a_wet, .ref a_covered, .ref a_hangs, .ref a_off, .int i_fell, .int i_fellToday, .int i_rotten, .int i_raked, .int i_cost, .ref a_dryGo, .ref a_wetGo, .ref a_keptSky, .int i_imaged, .int (nI itn), .int i_oldRaking, .long l_oldHeaps, .int (nI ilw), .ref a_oldSky, .ref a_oldCells, .ref a_sheetSort, .ref a_sheetSize, .ref a_items, .ref a_spare])), (a_sky, .inl (cI, 56, .inl skf)), (a_oldSky, .inl (cI, 56, .inl osf)), (a_kind, .inl (cI, 36, .inl kf)), (a_more, .inl (cI, 36, .inl mf)), (a_strewn, .inl (cI, 36, .inl lf)), (a_oldCells, .inl (cI, 108, .inl ocf))] ∧ i_imaged = 0) ∨ (ov = some (.int (nI itn)) ∧ oz = [(m, .inr (7, [.ref a_sky, .ref a_kind, .ref a_more, .ref a_strewn, .int (nI itn), .ref a_treeCell, .ref a_treeSort, .ref a_treeLeaves, .int i_oldRaking, .long l_oldHeaps, .int (nI tz), .ref a_tape, .int (nI wr), .int (nI ilw), .ref a_code, .ref a_begins, .int i_made, .int i_at, .int i_from, .int i_sort, .int i_value, .int i_open, .ref a_stack, .ref a_dry, .ref a_wet, .ref a_covered, .ref a_hangs, .ref a_off, .int i_fell, .int i_fellToday, .int i_rotten, .int i_raked, .int i_cost, .ref a_dryGo, .ref a_wetGo, .ref a_keptSky, .int i_imaged, .int (nI itn), .int i_oldRaking, .long l_oldHeaps, .int (nI ilw), .ref a_oldSky, .ref a_oldCells, .ref a_sheetSort, .ref a_sheetSize, .ref a_items, .ref a_spare])), (a_sky, .inl (cI, 56, .inl osf)), (a_oldSky, .inl (cI, 56, .inl osf)), (a_kind, .inl (cI, 36, .inl pk)), (a_more, .inl (cI, 36, .inl pm)), (a_strewn, .inl (cI, 36, .inl pl)), (a_oldCells, .inl (cI, 108, .inl ocf))] ∧ ¬ i_imaged = 0)) := by
  refine rM_ofI rfl (Nat.le_of_ble_eq_true rfl) rfl (fun X C E => ?_)
  show X 0 0 [(m, .inr (7, [.ref a_sky, .ref a_kind, .ref a_more, .ref a_strewn, .int (nI tn), .ref a_treeCell, .ref a_treeSort, .ref a_treeLeaves, .int i_raking, .long l_heaps, .int (nI tz), .ref a_tape, .int (nI wr), .int (nI lw), .ref a_code, .ref a_begins, .int i_made, .int i_at, .int i_from, .int i_sort, .int i_value, .int i_open, .ref a_stack, .ref a_dry, .ref a_wet, .ref a_covered, .ref a_hangs, .ref a_off, .int i_fell, .int i_fellToday, .int i_rotten, .int i_raked, .int i_cost, .ref a_dryGo, .ref a_wetGo, .ref a_keptSky, .int i_imaged, .int (nI itn), .int i_oldRaking, .long l_oldHeaps, .int (nI ilw), .ref a_oldSky, .ref a_oldCells, .ref a_sheetSort, .ref a_sheetSize, .ref a_items, .ref a_spare])), (a_sky, .inl (cI, 56, .inl skf)), (a_oldSky, .inl (cI, 56, .inl osf)), (a_kind, .inl (cI, 36, .inl kf)), (a_more, .inl (cI, 36, .inl mf)), (a_strewn, .inl (cI, 36, .inl lf)), (a_oldCells, .inl (cI, 108, .inl ocf))] [(0, .ref m)] 0 []
  refine x_aload_n C dX8_back_0 0 rfl ?_
  refine x_get C inlX8 rfl 36 (by decide) gw_21_18 dX8_back_1 0 rfl rfl ?_
  refine x_if_ne C dX8_back_4 (tgt := 10) rfl (fun c1 => ?_) (fun c1 => ?_)
  ·
    refine x_aload_n C dX8_back_10 0 rfl ?_
    refine x_aload_n C dX8_back_11 0 rfl ?_
    refine x_get C inlX8 rfl 37 (by decide) gw_21_17 dX8_back_12 0 rfl rfl ?_
    refine x_put C inlX8 rfl tyX8 tyX8_ok nmX8 4 (by decide) gw_16_4 rfl dX8_back_15 0 rfl (rfl) rfl (Nat.le_of_ble_eq_true rfl) ?_
    show X _ _ [(m, .inr (7, [.ref a_sky, .ref a_kind, .ref a_more, .ref a_strewn, .int (nI itn), .ref a_treeCell, .ref a_treeSort, .ref a_treeLeaves, .int i_raking, .long l_heaps, .int (nI tz), .ref a_tape, .int (nI wr), .int (nI lw), .ref a_code, .ref a_begins, .int i_made, .int i_at, .int i_from, .int i_sort, .int i_value, .int i_open, .ref a_stack, .ref a_dry, .ref a_wet, .ref a_covered, .ref a_hangs, .ref a_off, .int i_fell, .int i_fellToday, .int i_rotten, .int i_raked, .int i_cost, .ref a_dryGo, .ref a_wetGo, .ref a_keptSky, .int i_imaged, .int (nI itn), .int i_oldRaking, .long l_oldHeaps, .int (nI ilw), .ref a_oldSky, .ref a_oldCells, .ref a_sheetSort, .ref a_sheetSize, .ref a_items, .ref a_spare])), (a_sky, .inl (cI, 56, .inl skf)), (a_oldSky, .inl (cI, 56, .inl osf)), (a_kind, .inl (cI, 36, .inl kf)), (a_more, .inl (cI, 36, .inl mf)), (a_strewn, .inl (cI, 36, .inl lf)), (a_oldCells, .inl (cI, 108, .inl ocf))] _ _ _
    refine x_aload_n C dX8_back_18 0 rfl ?_
    refine x_aload_n C dX8_back_19 0 rfl ?_
    refine x_get C inlX8 rfl 38 (by decide) gw_41_11 dX8_back_20 0 rfl rfl ?_
    refine x_put C inlX8 rfl tyX8 tyX8_ok nmX8 8 (by decide) gw_16_5 rfl dX8_back_23 0 rfl (rfl) rfl (Nat.le_of_ble_eq_true rfl) ?_
    show X _ _ [(m, .inr (7, [.ref a_sky, .ref a_kind, .ref a_more, .ref a_strewn, .int (nI itn), .ref a_treeCell, .ref a_treeSort, .ref a_treeLeaves, .int i_oldRaking, .long l_heaps, .int (nI tz), .ref a_tape, .int (nI wr), .int (nI lw), .ref a_code, .ref a_begins, .int i_made, .int i_at, .int i_from, .int i_sort, .int i_value, .int i_open, .ref a_stack, .ref a_dry, .ref a_wet, .ref a_covered, .ref a_hangs, .ref a_off, .int i_fell, .int i_fellToday, .int i_rotten, .int i_raked, .int i_cost, .ref a_dryGo, .ref a_wetGo, .ref a_keptSky, .int i_imaged, .int (nI itn), .int i_oldRaking, .long l_oldHeaps, .int (nI ilw), .ref a_oldSky, .ref a_oldCells, .ref a_sheetSort, .ref a_sheetSize, .ref a_items, .ref a_spare])), (a_sky, .inl (cI, 56, .inl skf)), (a_oldSky, .inl (cI, 56, .inl osf)), (a_kind, .inl (cI, 36, .inl kf)), (a_more, .inl (cI, 36, .inl mf)), (a_strewn, .inl (cI, 36, .inl lf)), (a_oldCells, .inl (cI, 108, .inl ocf))] _ _ _
    refine x_aload_n C dX8_back_26 0 rfl ?_
    refine x_aload_n C dX8_back_27 0 rfl ?_
    show X _ _ _ _ 28 _
    refine x_get C inlX8 rfl 39 (by decide) gw_41_12 dX8_back_28 0 rfl rfl ?_
    refine x_put C inlX8 rfl tyX8 tyX8_ok nmX8 9 (by decide) gw_11_19 rfl dX8_back_31 0 rfl (rfl) rfl (Nat.le_of_ble_eq_true rfl) ?_
    show X _ _ [(m, .inr (7, [.ref a_sky, .ref a_kind, .ref a_more, .ref a_strewn, .int (nI itn), .ref a_treeCell, .ref a_treeSort, .ref a_treeLeaves, .int i_oldRaking, .long l_oldHeaps, .int (nI tz), .ref a_tape, .int (nI wr), .int (nI lw), .ref a_code, .ref a_begins, .int i_made, .int i_at, .int i_from, .int i_sort, .int i_value, .int i_open, .ref a_stack, .ref a_dry, .ref a_wet, .ref a_covered, .ref a_hangs, .ref a_off, .int i_fell, .int i_fellToday, .int i_rotten, .int i_raked, .int i_cost, .ref a_dryGo, .ref a_wetGo, .ref a_keptSky, .int i_imaged, .int (nI itn), .int i_oldRaking, .long l_oldHeaps, .int (nI ilw), .ref a_oldSky, .ref a_oldCells, .ref a_sheetSort, .ref a_sheetSize, .ref a_items, .ref a_spare])), (a_sky, .inl (cI, 56, .inl skf)), (a_oldSky, .inl (cI, 56, .inl osf)), (a_kind, .inl (cI, 36, .inl kf)), (a_more, .inl (cI, 36, .inl mf)), (a_strewn, .inl (cI, 36, .inl lf)), (a_oldCells, .inl (cI, 108, .inl ocf))] _ _ _
    refine x_aload_n C dX8_back_34 0 rfl ?_
    refine x_aload_n C dX8_back_35 0 rfl ?_
    refine x_get C inlX8 rfl 40 (by decide) gw_41_13 dX8_back_36 0 rfl rfl ?_
    refine x_put C inlX8 rfl tyX8 tyX8_ok nmX8 13 (by decide) gw_16_6 rfl dX8_back_39 0 rfl (rfl) rfl (Nat.le_of_ble_eq_true rfl) ?_
    show X _ _ [(m, .inr (7, [.ref a_sky, .ref a_kind, .ref a_more, .ref a_strewn, .int (nI itn), .ref a_treeCell, .ref a_treeSort, .ref a_treeLeaves, .int i_oldRaking, .long l_oldHeaps, .int (nI tz), .ref a_tape, .int (nI wr), .int (nI ilw), .ref a_code, .ref a_begins, .int i_made, .int i_at, .int i_from, .int i_sort, .int i_value, .int i_open, .ref a_stack, .ref a_dry, .ref a_wet, .ref a_covered, .ref a_hangs, .ref a_off, .int i_fell, .int i_fellToday, .int i_rotten, .int i_raked, .int i_cost, .ref a_dryGo, .ref a_wetGo, .ref a_keptSky, .int i_imaged, .int (nI itn), .int i_oldRaking, .long l_oldHeaps, .int (nI ilw), .ref a_oldSky, .ref a_oldCells, .ref a_sheetSort, .ref a_sheetSize, .ref a_items, .ref a_spare])), (a_sky, .inl (cI, 56, .inl skf)), (a_oldSky, .inl (cI, 56, .inl osf)), (a_kind, .inl (cI, 36, .inl kf)), (a_more, .inl (cI, 36, .inl mf)), (a_strewn, .inl (cI, 36, .inl lf)), (a_oldCells, .inl (cI, 108, .inl ocf))] _ _ _
    refine x_iconst C dX8_back_42 (v := 0) rfl ?_
    refine x_istore_n C dX8_back_43 (by decide) (lv' := [(1, .int 0), (0, .ref m)]) rfl ?_
    have L44_1 : ∀ (fuel : Nat) (i : Nat) (g : Nat → Int32), (hi : i ≤ 56) → (h0 : ∀ j, g j = if j < i then osf j else skf j) → 56 - i < fuel → X 0 0 [(m, .inr (7, [.ref a_sky, .ref a_kind, .ref a_more, .ref a_strewn, .int (nI itn), .ref a_treeCell, .ref a_treeSort, .ref a_treeLeaves, .int i_oldRaking, .long l_oldHeaps, .int (nI tz), .ref a_tape, .int (nI wr), .int (nI ilw), .ref a_code, .ref a_begins, .int i_made, .int i_at, .int i_from, .int i_sort, .int i_value, .int i_open, .ref a_stack, .ref a_dry, .ref a_wet, .ref a_covered, .ref a_hangs, .ref a_off, .int i_fell, .int i_fellToday, .int i_rotten, .int i_raked, .int i_cost, .ref a_dryGo, .ref a_wetGo, .ref a_keptSky, .int i_imaged, .int (nI itn), .int i_oldRaking, .long l_oldHeaps, .int (nI ilw), .ref a_oldSky, .ref a_oldCells, .ref a_sheetSort, .ref a_sheetSize, .ref a_items, .ref a_spare])), (a_sky, .inl (cI, 56, .inl g)), (a_oldSky, .inl (cI, 56, .inl osf)), (a_kind, .inl (cI, 36, .inl kf)), (a_more, .inl (cI, 36, .inl mf)), (a_strewn, .inl (cI, 36, .inl lf)), (a_oldCells, .inl (cI, 108, .inl ocf))] [(1, .int (nI i)), (0, .ref m)] 44 [] := by
      intro fuel
      induction fuel with
      | zero => intros; omega
      | succ fuel ihL44_1 =>
        intro i g hi h0 hfu
        refine x_iload_n C dX8_back_44 0 rfl ?_
        refine x_bipush C dX8_back_45 (v := 56) rfl ?_
        refine x_icmp_ge C dX8_back_47 (tgt := 68) rfl (fun c3 => ?_) (fun c3 => ?_)
        ·
          have c3 : i ≥ 56 := q_ge_t rfl (rfl : (56 : Int32) = nI 56) (by omega) (by omega) c3
          obtain rfl : i = 56 := by omega
          refine x_arr C 1 rfl osf (q_end h0) ?_
          show X _ _ [(m, .inr (7, [.ref a_sky, .ref a_kind, .ref a_more, .ref a_strewn, .int (nI itn), .ref a_treeCell, .ref a_treeSort, .ref a_treeLeaves, .int i_oldRaking, .long l_oldHeaps, .int (nI tz), .ref a_tape, .int (nI wr), .int (nI ilw), .ref a_code, .ref a_begins, .int i_made, .int i_at, .int i_from, .int i_sort, .int i_value, .int i_open, .ref a_stack, .ref a_dry, .ref a_wet, .ref a_covered, .ref a_hangs, .ref a_off, .int i_fell, .int i_fellToday, .int i_rotten, .int i_raked, .int i_cost, .ref a_dryGo, .ref a_wetGo, .ref a_keptSky, .int i_imaged, .int (nI itn), .int i_oldRaking, .long l_oldHeaps, .int (nI ilw), .ref a_oldSky, .ref a_oldCells, .ref a_sheetSort, .ref a_sheetSize, .ref a_items, .ref a_spare])), (a_sky, .inl (cI, 56, .inl osf)), (a_oldSky, .inl (cI, 56, .inl osf)), (a_kind, .inl (cI, 36, .inl kf)), (a_more, .inl (cI, 36, .inl mf)), (a_strewn, .inl (cI, 36, .inl lf)), (a_oldCells, .inl (cI, 108, .inl ocf))] _ _ _
          refine x_iconst C dX8_back_68 (v := 0) rfl ?_
          refine x_istore_n C dX8_back_69 (by decide) (lv' := [(1, .int 0), (0, .ref m)]) rfl ?_
          have L70_3 : ∀ (fuel : Nat) (c : Nat) (g1 g2 g3 : Nat → Int32), (hc : c ≤ 36) → (h1 : ∀ j, g1 j = if j < c then pk j else kf j) → (h2 : ∀ j, g2 j = if j < c then pm j else mf j) → (h3 : ∀ j, g3 j = if j < c then pl j else lf j) → 36 - c < fuel → X 0 0 [(m, .inr (7, [.ref a_sky, .ref a_kind, .ref a_more, .ref a_strewn, .int (nI itn), .ref a_treeCell, .ref a_treeSort, .ref a_treeLeaves, .int i_oldRaking, .long l_oldHeaps, .int (nI tz), .ref a_tape, .int (nI wr), .int (nI ilw), .ref a_code, .ref a_begins, .int i_made, .int i_at, .int i_from, .int i_sort, .int i_value, .int i_open, .ref a_stack, .ref a_dry, .ref a_wet, .ref a_covered, .ref a_hangs, .ref a_off, .int i_fell, .int i_fellToday, .int i_rotten, .int i_raked, .int i_cost, .ref a_dryGo, .ref a_wetGo, .ref a_keptSky, .int i_imaged, .int (nI itn), .int i_oldRaking, .long l_oldHeaps, .int (nI ilw), .ref a_oldSky, .ref a_oldCells, .ref a_sheetSort, .ref a_sheetSize, .ref a_items, .ref a_spare])), (a_sky, .inl (cI, 56, .inl osf)), (a_oldSky, .inl (cI, 56, .inl osf)), (a_kind, .inl (cI, 36, .inl g1)), (a_more, .inl (cI, 36, .inl g2)), (a_strewn, .inl (cI, 36, .inl g3)), (a_oldCells, .inl (cI, 108, .inl ocf))] [(1, .int (nI c)), (0, .ref m)] 70 [] := by
            intro fuel
            induction fuel with
            | zero => intros; omega
            | succ fuel ihL70_3 =>
              intro c g1 g2 g3 hc h1 h2 h3 hfu
              refine x_iload_n C dX8_back_70 0 rfl ?_
              refine x_bipush C dX8_back_71 (v := 36) rfl ?_
              refine x_icmp_ge C dX8_back_73 (tgt := 124) rfl (fun c5 => ?_) (fun c5 => ?_)
              ·
                have c5 : c ≥ 36 := q_ge_t rfl (rfl : (36 : Int32) = nI 36) (by omega) (by omega) c5
                obtain rfl : c = 36 := by omega
                refine x_arr C 3 rfl pk (q_end h1) ?_
                show X _ _ [(m, .inr (7, [.ref a_sky, .ref a_kind, .ref a_more, .ref a_strewn, .int (nI itn), .ref a_treeCell, .ref a_treeSort, .ref a_treeLeaves, .int i_oldRaking, .long l_oldHeaps, .int (nI tz), .ref a_tape, .int (nI wr), .int (nI ilw), .ref a_code, .ref a_begins, .int i_made, .int i_at, .int i_from, .int i_sort, .int i_value, .int i_open, .ref a_stack, .ref a_dry, .ref a_wet, .ref a_covered, .ref a_hangs, .ref a_off, .int i_fell, .int i_fellToday, .int i_rotten, .int i_raked, .int i_cost, .ref a_dryGo, .ref a_wetGo, .ref a_keptSky, .int i_imaged, .int (nI itn), .int i_oldRaking, .long l_oldHeaps, .int (nI ilw), .ref a_oldSky, .ref a_oldCells, .ref a_sheetSort, .ref a_sheetSize, .ref a_items, .ref a_spare])), (a_sky, .inl (cI, 56, .inl osf)), (a_oldSky, .inl (cI, 56, .inl osf)), (a_kind, .inl (cI, 36, .inl pk)), (a_more, .inl (cI, 36, .inl g2)), (a_strewn, .inl (cI, 36, .inl g3)), (a_oldCells, .inl (cI, 108, .inl ocf))] _ _ _
                refine x_arr C 4 rfl pm (q_end h2) ?_
                show X _ _ [(m, .inr (7, [.ref a_sky, .ref a_kind, .ref a_more, .ref a_strewn, .int (nI itn), .ref a_treeCell, .ref a_treeSort, .ref a_treeLeaves, .int i_oldRaking, .long l_oldHeaps, .int (nI tz), .ref a_tape, .int (nI wr), .int (nI ilw), .ref a_code, .ref a_begins, .int i_made, .int i_at, .int i_from, .int i_sort, .int i_value, .int i_open, .ref a_stack, .ref a_dry, .ref a_wet, .ref a_covered, .ref a_hangs, .ref a_off, .int i_fell, .int i_fellToday, .int i_rotten, .int i_raked, .int i_cost, .ref a_dryGo, .ref a_wetGo, .ref a_keptSky, .int i_imaged, .int (nI itn), .int i_oldRaking, .long l_oldHeaps, .int (nI ilw), .ref a_oldSky, .ref a_oldCells, .ref a_sheetSort, .ref a_sheetSize, .ref a_items, .ref a_spare])), (a_sky, .inl (cI, 56, .inl osf)), (a_oldSky, .inl (cI, 56, .inl osf)), (a_kind, .inl (cI, 36, .inl pk)), (a_more, .inl (cI, 36, .inl pm)), (a_strewn, .inl (cI, 36, .inl g3)), (a_oldCells, .inl (cI, 108, .inl ocf))] _ _ _
                refine x_arr C 5 rfl pl (q_end h3) ?_
                show X _ _ [(m, .inr (7, [.ref a_sky, .ref a_kind, .ref a_more, .ref a_strewn, .int (nI itn), .ref a_treeCell, .ref a_treeSort, .ref a_treeLeaves, .int i_oldRaking, .long l_oldHeaps, .int (nI tz), .ref a_tape, .int (nI wr), .int (nI ilw), .ref a_code, .ref a_begins, .int i_made, .int i_at, .int i_from, .int i_sort, .int i_value, .int i_open, .ref a_stack, .ref a_dry, .ref a_wet, .ref a_covered, .ref a_hangs, .ref a_off, .int i_fell, .int i_fellToday, .int i_rotten, .int i_raked, .int i_cost, .ref a_dryGo, .ref a_wetGo, .ref a_keptSky, .int i_imaged, .int (nI itn), .int i_oldRaking, .long l_oldHeaps, .int (nI ilw), .ref a_oldSky, .ref a_oldCells, .ref a_sheetSort, .ref a_sheetSize, .ref a_items, .ref a_spare])), (a_sky, .inl (cI, 56, .inl osf)), (a_oldSky, .inl (cI, 56, .inl osf)), (a_kind, .inl (cI, 36, .inl pk)), (a_more, .inl (cI, 36, .inl pm)), (a_strewn, .inl (cI, 36, .inl pl)), (a_oldCells, .inl (cI, 108, .inl ocf))] _ _ _
                refine x_aload_n C dX8_back_124 1 rfl ?_
                refine x_get C inlX8 rfl 4 (by decide) gw_16_4 dX8_back_125 0 rfl rfl ?_
                refine E dX8_back_128 (rfl) ?_
                exact Or.inr (⟨rfl, rfl, by assumption⟩)
              ·
                have c5 : c < 36 := q_ge_f rfl (rfl : (36 : Int32) = nI 36) (by omega) (by omega) c5
                refine x_aload_n C dX8_back_76 1 rfl ?_
                refine x_get C inlX8 rfl 1 (by decide) gw_10_19 dX8_back_77 0 rfl rfl ?_
                refine x_iload_n C dX8_back_80 0 rfl ?_
                refine x_aload_n C dX8_back_81 1 rfl ?_
                refine x_get C inlX8 rfl 42 (by decide) gw_11_14 dX8_back_82 0 rfl rfl ?_
                refine x_iload_n C dX8_back_85 0 rfl ?_
                refine x_iaload C 0 rfl dX8_back_86 c (q_cl rfl (by omega)) (q_ix rfl (by omega) (by omega)) 6 rfl ?_
                refine x_iastore C 0 rfl dX8_back_87 c (q_cl rfl (by omega)) (q_ix rfl (by omega) (by omega)) 3 rfl ?_
                show X _ _ [(m, .inr (7, [.ref a_sky, .ref a_kind, .ref a_more, .ref a_strewn, .int (nI itn), .ref a_treeCell, .ref a_treeSort, .ref a_treeLeaves, .int i_oldRaking, .long l_oldHeaps, .int (nI tz), .ref a_tape, .int (nI wr), .int (nI ilw), .ref a_code, .ref a_begins, .int i_made, .int i_at, .int i_from, .int i_sort, .int i_value, .int i_open, .ref a_stack, .ref a_dry, .ref a_wet, .ref a_covered, .ref a_hangs, .ref a_off, .int i_fell, .int i_fellToday, .int i_rotten, .int i_raked, .int i_cost, .ref a_dryGo, .ref a_wetGo, .ref a_keptSky, .int i_imaged, .int (nI itn), .int i_oldRaking, .long l_oldHeaps, .int (nI ilw), .ref a_oldSky, .ref a_oldCells, .ref a_sheetSort, .ref a_sheetSize, .ref a_items, .ref a_spare])), (a_sky, .inl (cI, 56, .inl osf)), (a_oldSky, .inl (cI, 56, .inl osf)), (a_kind, .inl (cI, 36, .inl (upd g1 c (ocf c)))), (a_more, .inl (cI, 36, .inl g2)), (a_strewn, .inl (cI, 36, .inl g3)), (a_oldCells, .inl (cI, 108, .inl ocf))] _ _ _
                refine x_aload_n C dX8_back_88 1 rfl ?_
                refine x_get C inlX8 rfl 2 (by decide) gw_10_20 dX8_back_89 0 rfl rfl ?_
                show X _ _ _ _ 92 _
                refine x_iload_n C dX8_back_92 0 rfl ?_
                refine x_aload_n C dX8_back_93 1 rfl ?_
                refine x_get C inlX8 rfl 42 (by decide) gw_11_14 dX8_back_94 0 rfl rfl ?_
                refine x_bipush C dX8_back_97 (v := 36) rfl ?_
                refine x_iload_n C dX8_back_99 0 rfl ?_
                refine x_iadd C dX8_back_100 ?_
                refine x_iaload C 0 rfl dX8_back_101 (36 + c) (q_cl (q_iadd (a := 36) (b := c) (rfl : (36 : Int32) = nI 36) rfl) (by omega)) (q_ix (q_iadd (a := 36) (b := c) (rfl : (36 : Int32) = nI 36) rfl) (by omega) (by omega)) 6 rfl ?_
                refine x_iastore C 0 rfl dX8_back_102 c (q_cl rfl (by omega)) (q_ix rfl (by omega) (by omega)) 4 rfl ?_
                show X _ _ [(m, .inr (7, [.ref a_sky, .ref a_kind, .ref a_more, .ref a_strewn, .int (nI itn), .ref a_treeCell, .ref a_treeSort, .ref a_treeLeaves, .int i_oldRaking, .long l_oldHeaps, .int (nI tz), .ref a_tape, .int (nI wr), .int (nI ilw), .ref a_code, .ref a_begins, .int i_made, .int i_at, .int i_from, .int i_sort, .int i_value, .int i_open, .ref a_stack, .ref a_dry, .ref a_wet, .ref a_covered, .ref a_hangs, .ref a_off, .int i_fell, .int i_fellToday, .int i_rotten, .int i_raked, .int i_cost, .ref a_dryGo, .ref a_wetGo, .ref a_keptSky, .int i_imaged, .int (nI itn), .int i_oldRaking, .long l_oldHeaps, .int (nI ilw), .ref a_oldSky, .ref a_oldCells, .ref a_sheetSort, .ref a_sheetSize, .ref a_items, .ref a_spare])), (a_sky, .inl (cI, 56, .inl osf)), (a_oldSky, .inl (cI, 56, .inl osf)), (a_kind, .inl (cI, 36, .inl (upd g1 c (ocf c)))), (a_more, .inl (cI, 36, .inl (upd g2 c (ocf (36 + c))))), (a_strewn, .inl (cI, 36, .inl g3)), (a_oldCells, .inl (cI, 108, .inl ocf))] _ _ _
                refine x_aload_n C dX8_back_103 1 rfl ?_
                refine x_get C inlX8 rfl 3 (by decide) gw_10_21 dX8_back_104 0 rfl rfl ?_
                show X _ _ _ _ 107 _
                refine x_iload_n C dX8_back_107 0 rfl ?_
                refine x_aload_n C dX8_back_108 1 rfl ?_
                refine x_get C inlX8 rfl 42 (by decide) gw_11_14 dX8_back_109 0 rfl rfl ?_
                refine x_bipush C dX8_back_112 (v := 72) rfl ?_
                refine x_iload_n C dX8_back_114 0 rfl ?_
                refine x_iadd C dX8_back_115 ?_
                refine x_iaload C 0 rfl dX8_back_116 (72 + c) (q_cl (q_iadd (a := 72) (b := c) (rfl : (72 : Int32) = nI 72) rfl) (by omega)) (q_ix (q_iadd (a := 72) (b := c) (rfl : (72 : Int32) = nI 72) rfl) (by omega) (by omega)) 6 rfl ?_
                refine x_iastore C 0 rfl dX8_back_117 c (q_cl rfl (by omega)) (q_ix rfl (by omega) (by omega)) 5 rfl ?_
                show X _ _ [(m, .inr (7, [.ref a_sky, .ref a_kind, .ref a_more, .ref a_strewn, .int (nI itn), .ref a_treeCell, .ref a_treeSort, .ref a_treeLeaves, .int i_oldRaking, .long l_oldHeaps, .int (nI tz), .ref a_tape, .int (nI wr), .int (nI ilw), .ref a_code, .ref a_begins, .int i_made, .int i_at, .int i_from, .int i_sort, .int i_value, .int i_open, .ref a_stack, .ref a_dry, .ref a_wet, .ref a_covered, .ref a_hangs, .ref a_off, .int i_fell, .int i_fellToday, .int i_rotten, .int i_raked, .int i_cost, .ref a_dryGo, .ref a_wetGo, .ref a_keptSky, .int i_imaged, .int (nI itn), .int i_oldRaking, .long l_oldHeaps, .int (nI ilw), .ref a_oldSky, .ref a_oldCells, .ref a_sheetSort, .ref a_sheetSize, .ref a_items, .ref a_spare])), (a_sky, .inl (cI, 56, .inl osf)), (a_oldSky, .inl (cI, 56, .inl osf)), (a_kind, .inl (cI, 36, .inl (upd g1 c (ocf c)))), (a_more, .inl (cI, 36, .inl (upd g2 c (ocf (36 + c))))), (a_strewn, .inl (cI, 36, .inl (upd g3 c (ocf (72 + c))))), (a_oldCells, .inl (cI, 108, .inl ocf))] _ _ _
                refine x_iinc C dX8_back_118 0 rfl (v := nI (c + 1)) (nI_1 _) (by decide) (lv' := [(1, .int (nI (c + 1))), (0, .ref m)]) rfl ?_
                refine x_goto C dX8_back_121 (tgt := 70) rfl ?_
                exact ihL70_3 (c + 1) (upd g1 c (ocf c)) (upd g2 c (ocf (36 + c))) (upd g3 c (ocf (72 + c))) (by omega) (q_up h1 (by rw [hocf]; exact q_cells_1 (by omega))) (q_up h2 (by rw [hocf]; exact q_cells_2 (by omega))) (q_up h3 (by rw [hocf]; exact q_cells_3 (by omega))) (by omega)
          show X 0 0 [(m, .inr (7, [.ref a_sky, .ref a_kind, .ref a_more, .ref a_strewn, .int (nI itn), .ref a_treeCell, .ref a_treeSort, .ref a_treeLeaves, .int i_oldRaking, .long l_oldHeaps, .int (nI tz), .ref a_tape, .int (nI wr), .int (nI ilw), .ref a_code, .ref a_begins, .int i_made, .int i_at, .int i_from, .int i_sort, .int i_value, .int i_open, .ref a_stack, .ref a_dry, .ref a_wet, .ref a_covered, .ref a_hangs, .ref a_off, .int i_fell, .int i_fellToday, .int i_rotten, .int i_raked, .int i_cost, .ref a_dryGo, .ref a_wetGo, .ref a_keptSky, .int i_imaged, .int (nI itn), .int i_oldRaking, .long l_oldHeaps, .int (nI ilw), .ref a_oldSky, .ref a_oldCells, .ref a_sheetSort, .ref a_sheetSize, .ref a_items, .ref a_spare])), (a_sky, .inl (cI, 56, .inl osf)), (a_oldSky, .inl (cI, 56, .inl osf)), (a_kind, .inl (cI, 36, .inl kf)), (a_more, .inl (cI, 36, .inl mf)), (a_strewn, .inl (cI, 36, .inl lf)), (a_oldCells, .inl (cI, 108, .inl ocf))] [(1, .int (nI 0)), (0, .ref m)] 70 []
          exact L70_3 ((36 - 0) + 1) 0 kf mf lf (by omega) (q_0) (q_0) (q_0) (Nat.lt_succ_self _)
        ·
          have c3 : i < 56 := q_ge_f rfl (rfl : (56 : Int32) = nI 56) (by omega) (by omega) c3
          refine x_aload_n C dX8_back_50 1 rfl ?_
          refine x_get C inlX8 rfl 0 (by decide) gw_10_18 dX8_back_51 0 rfl rfl ?_
          refine x_iload_n C dX8_back_54 0 rfl ?_
          refine x_aload_n C dX8_back_55 1 rfl ?_
          refine x_get C inlX8 rfl 41 (by decide) gw_11_13 dX8_back_56 0 rfl rfl ?_
          refine x_iload_n C dX8_back_59 0 rfl ?_
          refine x_iaload C 0 rfl dX8_back_60 i (q_cl rfl (by omega)) (q_ix rfl (by omega) (by omega)) 2 rfl ?_
          refine x_iastore C 0 rfl dX8_back_61 i (q_cl rfl (by omega)) (q_ix rfl (by omega) (by omega)) 1 rfl ?_
          show X _ _ [(m, .inr (7, [.ref a_sky, .ref a_kind, .ref a_more, .ref a_strewn, .int (nI itn), .ref a_treeCell, .ref a_treeSort, .ref a_treeLeaves, .int i_oldRaking, .long l_oldHeaps, .int (nI tz), .ref a_tape, .int (nI wr), .int (nI ilw), .ref a_code, .ref a_begins, .int i_made, .int i_at, .int i_from, .int i_sort, .int i_value, .int i_open, .ref a_stack, .ref a_dry, .ref a_wet, .ref a_covered, .ref a_hangs, .ref a_off, .int i_fell, .int i_fellToday, .int i_rotten, .int i_raked, .int i_cost, .ref a_dryGo, .ref a_wetGo, .ref a_keptSky, .int i_imaged, .int (nI itn), .int i_oldRaking, .long l_oldHeaps, .int (nI ilw), .ref a_oldSky, .ref a_oldCells, .ref a_sheetSort, .ref a_sheetSize, .ref a_items, .ref a_spare])), (a_sky, .inl (cI, 56, .inl (upd g i (osf i)))), (a_oldSky, .inl (cI, 56, .inl osf)), (a_kind, .inl (cI, 36, .inl kf)), (a_more, .inl (cI, 36, .inl mf)), (a_strewn, .inl (cI, 36, .inl lf)), (a_oldCells, .inl (cI, 108, .inl ocf))] _ _ _
          refine x_iinc C dX8_back_62 0 rfl (v := nI (i + 1)) (nI_1 _) (by decide) (lv' := [(1, .int (nI (i + 1))), (0, .ref m)]) rfl ?_
          refine x_goto C dX8_back_65 (tgt := 44) rfl ?_
          exact ihL44_1 (i + 1) (upd g i (osf i)) (by omega) (q_up h0 rfl) (by omega)
    show X 0 0 [(m, .inr (7, [.ref a_sky, .ref a_kind, .ref a_more, .ref a_strewn, .int (nI itn), .ref a_treeCell, .ref a_treeSort, .ref a_treeLeaves, .int i_oldRaking, .long l_oldHeaps, .int (nI tz), .ref a_tape, .int (nI wr), .int (nI ilw), .ref a_code, .ref a_begins, .int i_made, .int i_at, .int i_from, .int i_sort, .int i_value, .int i_open, .ref a_stack, .ref a_dry, .ref a_wet, .ref a_covered, .ref a_hangs, .ref a_off, .int i_fell, .int i_fellToday, .int i_rotten, .int i_raked, .int i_cost, .ref a_dryGo, .ref a_wetGo, .ref a_keptSky, .int i_imaged, .int (nI itn), .int i_oldRaking, .long l_oldHeaps, .int (nI ilw), .ref a_oldSky, .ref a_oldCells, .ref a_sheetSort, .ref a_sheetSize, .ref a_items, .ref a_spare])), (a_sky, .inl (cI, 56, .inl skf)), (a_oldSky, .inl (cI, 56, .inl osf)), (a_kind, .inl (cI, 36, .inl kf)), (a_more, .inl (cI, 36, .inl mf)), (a_strewn, .inl (cI, 36, .inl lf)), (a_oldCells, .inl (cI, 108, .inl ocf))] [(1, .int (nI 0)), (0, .ref m)] 44 []
    exact L44_1 ((56 - 0) + 1) 0 skf (by omega) (q_0) (Nat.lt_succ_self _)
  ·
    refine x_bipush C dX8_back_7 (v := (-3)) rfl ?_
    refine E dX8_back_9 (rfl) ?_
    exact Or.inl ⟨rfl, rfl, by assumption⟩
theorem kS_X7_259 : GoodIn GW (va_wsS RX7 259 yX7_isSheet (Cond.code yX7_isSheet cX7_isSheet 1 (some .boolean) :: GW)) := r_gS gw_37_12 gw_37_13 gw_1_2 gw_37_14
theorem hy_X7_isSheet : yX7_isSheet.cls ≠ "java/lang/invoke/MethodHandle" ∧ yX7_isSheet.cls ≠ "java/lang/invoke/VarHandle" ∧ (parseMethodDescriptor yX7_isSheet.desc).map (fun d => d.parameters.length) = some 1 := ⟨by decide +kernel, by decide +kernel, by decide +kernel⟩
theorem kV_X7_262 : GoodIn GW (wsV RX7 262 yX6_become.cls yX6_become (Cond.code yX6_become cX6_become 3 none :: GW)) := r_gV gw_39_7 gw_39_8 gw_39_9 gw_2_17 gw_39_10
theorem hy_X6_become : yX6_become.cls ≠ "java/lang/invoke/MethodHandle" ∧ yX6_become.cls ≠ "java/lang/invoke/VarHandle" ∧ (parseMethodDescriptor yX6_become.desc).map (fun d => d.parameters.length) = some 2 := ⟨by decide +kernel, by decide +kernel, by decide +kernel⟩
set_option maxHeartbeats 4000000 in
set_option maxRecDepth 100000 in
theorem c_X7_sheet (l : Launch) (dG : va_G) (cI cM cW cS : ClassId) (x pw uw o hh rd bk pl asd fd : Nat) (wr : Nat) (hi9 : Int32) (tw : Nat) (plf : Nat → Option Nat) (sh ra : Nat) (so9 : Int32) (nz : Nat) (g : Nat → Int32) (s t n : Int32) (hsh : ∀ j, j < 4 → s = nI j → plf j = some sh) : rM l yX7_sheet cX7_sheet 5 (some .int) ({ frames := 2, cells := 0, slots := 0, locals := 45 } : Room) dG (tY cI cM cW cS) rZ0 [.ref x, .int s, .int t, .int n] [(x, .inr (6, [.ref tw, .ref pw, .ref uw, .ref o, .ref hh, .ref rd, .ref bk, .ref pl, .ref asd, .ref fd, .int (nI wr), .int hi9])), (pl, .inl (cS, 4, .inr (.inr (.inr (.inr plf))))), (sh, .inr (5, [.ref ra, .int so9, .int (nI nz)])), (ra, .inl (cI, 40, .inl g))] (fun ov oz => ∃ (r : Int32) (so' : Int32) (sz' : Int32) (g' : Nat → Int32), ov = some (.int r) ∧ oz = [(x, .inr (6, [.ref tw, .ref pw, .ref uw, .ref o, .ref hh, .ref rd, .ref bk, .ref pl, .ref asd, .ref fd, .int (nI wr), .int hi9])), (pl, .inl (cS, 4, .inr (.inr (.inr (.inr plf))))), (sh, .inr (5, [.ref ra, .int so', .int sz'])), (ra, .inl (cI, 40, .inl g'))] ∧ (r, so', sz', g') = (o_sheet s t n, o_sheet_so so9 s t n, o_sheet_sz (nI nz) s t n, o_sheet_g g s t n)) := by
  refine rM_ofI rfl (Nat.le_of_ble_eq_true rfl) rfl (fun X C E => ?_)
  show X 0 0 [(x, .inr (6, [.ref tw, .ref pw, .ref uw, .ref o, .ref hh, .ref rd, .ref bk, .ref pl, .ref asd, .ref fd, .int (nI wr), .int hi9])), (pl, .inl (cS, 4, .inr (.inr (.inr (.inr plf))))), (sh, .inr (5, [.ref ra, .int so9, .int (nI nz)])), (ra, .inl (cI, 40, .inl g))] [(0, .ref x), (1, .int s), (2, .int t), (3, .int n)] 0 []
  refine x_iload_n C dX7_sheet_0 1 rfl ?_
  refine x_callS C (As := [.int s]) (st := []) (wc := []) (wr := [(x, .inr (6, [.ref tw, .ref pw, .ref uw, .ref o, .ref hh, .ref rd, .ref bk, .ref pl, .ref asd, .ref fd, .int (nI wr), .int hi9])), (pl, .inl (cS, 4, .inr (.inr (.inr (.inr plf))))), (sh, .inr (5, [.ref ra, .int so9, .int (nI nz)])), (ra, .inl (cI, 40, .inl g))]) (c_X7_isSheet l dG cI cM cW cS s ) rZ0_ok (fun _ _ _ _ => trivial) kS_X7_259 hy_X7_isSheet ⟨Nat.le_of_ble_eq_true rfl, Nat.le_of_ble_eq_true rfl⟩ ⟨Nat.le_of_ble_eq_true rfl, Nat.le_of_ble_eq_true rfl⟩ dX7_sheet_1 [] [0, 1, 2, 3] rfl rfl rfl rfl (by decide) rfl (Nat.le_of_ble_eq_true rfl) ?_
  intro v1 w2 h3
  rcases h3 with h3 | h3
  ·
    obtain ⟨rfl, rfl, hf4⟩ := h3
    show X 0 0 [(x, .inr (6, [.ref tw, .ref pw, .ref uw, .ref o, .ref hh, .ref rd, .ref bk, .ref pl, .ref asd, .ref fd, .int (nI wr), .int hi9])), (pl, .inl (cS, 4, .inr (.inr (.inr (.inr plf))))), (sh, .inr (5, [.ref ra, .int so9, .int (nI nz)])), (ra, .inl (cI, 40, .inl g))] [(0, .ref x), (1, .int s), (2, .int t), (3, .int n)] 4 [.int 1]
    have hr5 := hf4
    obtain ⟨j, hj, rfl⟩ := q_w (n := 3) rfl (by decide) hf4
    have hnj : o_n (nI j) = j := o_n_nI (by omega)
    refine x_if_eq C dX7_sheet_4 (tgt := 16) rfl (fun q9 => absurd q9 (by decide)) (fun _ => ?_)
    refine x_iload_n C dX7_sheet_7 2 rfl ?_
    refine x_iconst C dX7_sheet_8 (v := (-1)) rfl ?_
    refine x_iconst C dX7_sheet_9 (v := 2) rfl ?_
    refine x_callS C (As := [.int t, .int (-1), .int 2]) (st := []) (wc := []) (wr := [(x, .inr (6, [.ref tw, .ref pw, .ref uw, .ref o, .ref hh, .ref rd, .ref bk, .ref pl, .ref asd, .ref fd, .int (nI wr), .int hi9])), (pl, .inl (cS, 4, .inr (.inr (.inr (.inr plf))))), (sh, .inr (5, [.ref ra, .int so9, .int (nI nz)])), (ra, .inl (cI, 40, .inl g))]) (c_X7_within l dG cI cM cW cS t (-1) 2 ) rZ0_ok (fun _ _ _ _ => trivial) kS_X7_92 hy_X7_within ⟨Nat.le_of_ble_eq_true rfl, Nat.le_of_ble_eq_true rfl⟩ ⟨Nat.le_of_ble_eq_true rfl, Nat.le_of_ble_eq_true rfl⟩ dX7_sheet_10 [] [0, 1, 2, 3] rfl rfl rfl rfl (by decide) rfl (Nat.le_of_ble_eq_true rfl) ?_
    intro v6 w7 h8
    rcases h8 with h8 | h8
    ·
      obtain ⟨rfl, rfl, hf9⟩ := h8
      show X 0 0 [(x, .inr (6, [.ref tw, .ref pw, .ref uw, .ref o, .ref hh, .ref rd, .ref bk, .ref pl, .ref asd, .ref fd, .int (nI wr), .int hi9])), (pl, .inl (cS, 4, .inr (.inr (.inr (.inr plf))))), (sh, .inr (5, [.ref ra, .int so9, .int (nI nz)])), (ra, .inl (cI, 40, .inl g))] [(0, .ref x), (1, .int (nI j)), (2, .int t), (3, .int n)] 13 [.int 1]
      refine x_if_ne C dX7_sheet_13 (tgt := 19) rfl (fun _ => ?_) (fun q9 => by first | exact absurd q9 (by decide) | exact absurd (by decide) q9)
      refine x_iload_n C dX7_sheet_19 2 rfl ?_
      refine x_iconst C dX7_sheet_20 (v := (-1)) rfl ?_
      refine x_icmp_ne C dX7_sheet_21 (tgt := 28) rfl (fun c10 => ?_) (fun c10 => ?_)
      ·
        refine x_iload_n C dX7_sheet_28 3 rfl ?_
        refine x_istore C dX7_sheet_29 (by decide) (lv' := [(4, .int n), (0, .ref x), (1, .int (nI j)), (2, .int t), (3, .int n)]) rfl ?_
        refine x_iload C dX7_sheet_31 0 rfl ?_
        refine x_bipush C dX7_sheet_33 (v := 40) rfl ?_
        refine x_icmp_le C dX7_sheet_35 (tgt := 41) rfl (fun c11 => ?_) (fun c11 => ?_)
        ·
          refine x_iload C dX7_sheet_41 0 rfl ?_
          refine x_if_ge C dX7_sheet_43 (tgt := 49) rfl (fun c12 => ?_) (fun c12 => ?_)
          ·
            refine x_aload_n C dX7_sheet_49 1 rfl ?_
            refine x_get C inlX7 rfl 7 (by decide) gw_2_10 dX7_sheet_50 0 rfl rfl ?_
            refine x_iload_n C dX7_sheet_53 2 rfl ?_
            refine x_aaload C 3 rfl dX7_sheet_54 j (q_cl rfl (by omega)) (q_ix rfl (by omega) (by omega)) 1 rfl (hsh j (by omega) rfl) ?_
            refine x_iload_n C dX7_sheet_55 3 rfl ?_
            refine x_iload C dX7_sheet_56 0 rfl ?_
            refine x_callV C (As := [.int t, .int n]) (st := []) (wc := [(sh, .inr (5, [.ref ra, .int so9, .int (nI nz)])), (ra, .inl (cI, 40, .inl g))]) (wr := [(x, .inr (6, [.ref tw, .ref pw, .ref uw, .ref o, .ref hh, .ref rd, .ref bk, .ref pl, .ref asd, .ref fd, .int (nI wr), .int hi9])), (pl, .inl (cS, 4, .inr (.inr (.inr (.inr plf)))))]) (c_X6_become l dG cI cM cW cS sh ra so9 (nI nz) g t n ) rZ0_ok (fun _ _ _ _ => trivial) kV_X7_262 ⟨rfl, hy_X6_become⟩ ⟨Nat.le_of_ble_eq_true rfl, Nat.le_of_ble_eq_true rfl⟩ ⟨Nat.le_of_ble_eq_true rfl, Nat.le_of_ble_eq_true rfl⟩ dX7_sheet_58 2 rfl rfl [2, 3] [0, 1] rfl rfl rfl rfl (by decide) rfl (Nat.le_of_ble_eq_true rfl) ?_
            intro v13 w14 h15
            obtain ⟨rfl, rfl, hf16⟩ := h15
            show X 0 0 [(x, .inr (6, [.ref tw, .ref pw, .ref uw, .ref o, .ref hh, .ref rd, .ref bk, .ref pl, .ref asd, .ref fd, .int (nI wr), .int hi9])), (pl, .inl (cS, 4, .inr (.inr (.inr (.inr plf))))), (sh, .inr (5, [.ref ra, .int t, .int n])), (ra, .inl (cI, 40, .inl (fun _ => 0)))] [(4, .int n), (0, .ref x), (1, .int (nI j)), (2, .int t), (3, .int n)] 61 []
            refine x_iconst C dX7_sheet_61 (v := 1) rfl ?_
            refine E dX7_sheet_62 (rfl) ?_
            exact ⟨1, t, n, (fun _ => 0), rfl, rfl, by (unfold o_sheet o_sheet_so o_sheet_sz o_sheet_g); (try simp only [hnj]); (repeat (first | rw [if_pos (by first | (rw [if_pos (by decide)]; assumption) | (rw [if_neg (by decide), if_pos (by decide)]; assumption) | (rw [if_neg (by decide), if_neg (by decide)]; assumption) | assumption | decide | omega | exact o_one_t (by assumption) | (rw [o_one_f (by assumption)]; decide) | exact ⟨by assumption, by assumption⟩ | exact fun h9 => absurd h9.1 (by assumption) | exact fun h9 => absurd h9.2 (by assumption))] | rw [if_neg (by first | (rw [if_pos (by decide)]; assumption) | (rw [if_neg (by decide), if_pos (by decide)]; assumption) | (rw [if_neg (by decide), if_neg (by decide)]; assumption) | assumption | decide | omega | exact o_one_t (by assumption) | (rw [o_one_f (by assumption)]; decide) | exact ⟨by assumption, by assumption⟩ | exact fun h9 => absurd h9.1 (by assumption) | exact fun h9 => absurd h9.2 (by assumption))])); all_goals (first | rfl)⟩
          ·
            refine x_bipush C dX7_sheet_46 (v := (-14)) rfl ?_
            refine E dX7_sheet_48 (rfl) ?_
            exact ⟨(-14), so9, (nI nz), g, rfl, rfl, by (unfold o_sheet o_sheet_so o_sheet_sz o_sheet_g); (try simp only [hnj]); (repeat (first | rw [if_pos (by first | (rw [if_pos (by decide)]; assumption) | (rw [if_neg (by decide), if_pos (by decide)]; assumption) | (rw [if_neg (by decide), if_neg (by decide)]; assumption) | assumption | decide | omega | exact o_one_t (by assumption) | (rw [o_one_f (by assumption)]; decide) | exact ⟨by assumption, by assumption⟩ | exact fun h9 => absurd h9.1 (by assumption) | exact fun h9 => absurd h9.2 (by assumption))] | rw [if_neg (by first | (rw [if_pos (by decide)]; assumption) | (rw [if_neg (by decide), if_pos (by decide)]; assumption) | (rw [if_neg (by decide), if_neg (by decide)]; assumption) | assumption | decide | omega | exact o_one_t (by assumption) | (rw [o_one_f (by assumption)]; decide) | exact ⟨by assumption, by assumption⟩ | exact fun h9 => absurd h9.1 (by assumption) | exact fun h9 => absurd h9.2 (by assumption))])); all_goals (first | rfl)⟩
        ·
          refine x_bipush C dX7_sheet_38 (v := (-2)) rfl ?_
          refine E dX7_sheet_40 (rfl) ?_
          exact ⟨(-2), so9, (nI nz), g, rfl, rfl, by (unfold o_sheet o_sheet_so o_sheet_sz o_sheet_g); (try simp only [hnj]); (repeat (first | rw [if_pos (by first | (rw [if_pos (by decide)]; assumption) | (rw [if_neg (by decide), if_pos (by decide)]; assumption) | (rw [if_neg (by decide), if_neg (by decide)]; assumption) | assumption | decide | omega | exact o_one_t (by assumption) | (rw [o_one_f (by assumption)]; decide) | exact ⟨by assumption, by assumption⟩ | exact fun h9 => absurd h9.1 (by assumption) | exact fun h9 => absurd h9.2 (by assumption))] | rw [if_neg (by first | (rw [if_pos (by decide)]; assumption) | (rw [if_neg (by decide), if_pos (by decide)]; assumption) | (rw [if_neg (by decide), if_neg (by decide)]; assumption) | assumption | decide | omega | exact o_one_t (by assumption) | (rw [o_one_f (by assumption)]; decide) | exact ⟨by assumption, by assumption⟩ | exact fun h9 => absurd h9.1 (by assumption) | exact fun h9 => absurd h9.2 (by assumption))])); all_goals (first | rfl)⟩
      ·
        refine x_iconst C dX7_sheet_24 (v := 0) rfl ?_
        refine x_goto C dX7_sheet_25 (tgt := 29) rfl ?_
        refine x_istore C dX7_sheet_29 (by decide) (lv' := [(4, .int 0), (0, .ref x), (1, .int (nI j)), (2, .int t), (3, .int n)]) rfl ?_
        refine x_iload C dX7_sheet_31 0 rfl ?_
        refine x_bipush C dX7_sheet_33 (v := 40) rfl ?_
        refine x_icmp_le C dX7_sheet_35 (tgt := 41) rfl (fun _ => ?_) (fun q9 => by first | exact absurd q9 (by decide) | exact absurd (by decide) q9)
        refine x_iload C dX7_sheet_41 0 rfl ?_
        refine x_if_ge C dX7_sheet_43 (tgt := 49) rfl (fun _ => ?_) (fun q9 => by first | exact absurd q9 (by decide) | exact absurd (by decide) q9)
        refine x_aload_n C dX7_sheet_49 1 rfl ?_
        refine x_get C inlX7 rfl 7 (by decide) gw_2_10 dX7_sheet_50 0 rfl rfl ?_
        show X _ _ _ _ 53 _
        refine x_iload_n C dX7_sheet_53 2 rfl ?_
        refine x_aaload C 3 rfl dX7_sheet_54 j (q_cl rfl (by omega)) (q_ix rfl (by omega) (by omega)) 1 rfl (hsh j (by omega) rfl) ?_
        refine x_iload_n C dX7_sheet_55 3 rfl ?_
        refine x_iload C dX7_sheet_56 0 rfl ?_
        refine x_callV C (As := [.int t, .int 0]) (st := []) (wc := [(sh, .inr (5, [.ref ra, .int so9, .int (nI nz)])), (ra, .inl (cI, 40, .inl g))]) (wr := [(x, .inr (6, [.ref tw, .ref pw, .ref uw, .ref o, .ref hh, .ref rd, .ref bk, .ref pl, .ref asd, .ref fd, .int (nI wr), .int hi9])), (pl, .inl (cS, 4, .inr (.inr (.inr (.inr plf)))))]) (c_X6_become l dG cI cM cW cS sh ra so9 (nI nz) g t 0 ) rZ0_ok (fun _ _ _ _ => trivial) kV_X7_262 ⟨rfl, hy_X6_become⟩ ⟨Nat.le_of_ble_eq_true rfl, Nat.le_of_ble_eq_true rfl⟩ ⟨Nat.le_of_ble_eq_true rfl, Nat.le_of_ble_eq_true rfl⟩ dX7_sheet_58 2 rfl rfl [2, 3] [0, 1] rfl rfl rfl rfl (by decide) rfl (Nat.le_of_ble_eq_true rfl) ?_
        intro v17 w18 h19
        obtain ⟨rfl, rfl, hf20⟩ := h19
        show X 0 0 [(x, .inr (6, [.ref tw, .ref pw, .ref uw, .ref o, .ref hh, .ref rd, .ref bk, .ref pl, .ref asd, .ref fd, .int (nI wr), .int hi9])), (pl, .inl (cS, 4, .inr (.inr (.inr (.inr plf))))), (sh, .inr (5, [.ref ra, .int t, .int 0])), (ra, .inl (cI, 40, .inl (fun _ => 0)))] [(4, .int 0), (0, .ref x), (1, .int (nI j)), (2, .int t), (3, .int n)] 61 []
        refine x_iconst C dX7_sheet_61 (v := 1) rfl ?_
        refine E dX7_sheet_62 (rfl) ?_
        exact ⟨1, t, 0, (fun _ => 0), rfl, rfl, by (unfold o_sheet o_sheet_so o_sheet_sz o_sheet_g); (try simp only [hnj]); (repeat (first | rw [if_pos (by first | (rw [if_pos (by decide)]; assumption) | (rw [if_neg (by decide), if_pos (by decide)]; assumption) | (rw [if_neg (by decide), if_neg (by decide)]; assumption) | assumption | decide | omega | exact o_one_t (by assumption) | (rw [o_one_f (by assumption)]; decide) | exact ⟨by assumption, by assumption⟩ | exact fun h9 => absurd h9.1 (by assumption) | exact fun h9 => absurd h9.2 (by assumption))] | rw [if_neg (by first | (rw [if_pos (by decide)]; assumption) | (rw [if_neg (by decide), if_pos (by decide)]; assumption) | (rw [if_neg (by decide), if_neg (by decide)]; assumption) | assumption | decide | omega | exact o_one_t (by assumption) | (rw [o_one_f (by assumption)]; decide) | exact ⟨by assumption, by assumption⟩ | exact fun h9 => absurd h9.1 (by assumption) | exact fun h9 => absurd h9.2 (by assumption))])); all_goals (first | rfl)⟩
    ·
      obtain ⟨rfl, rfl, hf21⟩ := h8
      show X 0 0 [(x, .inr (6, [.ref tw, .ref pw, .ref uw, .ref o, .ref hh, .ref rd, .ref bk, .ref pl, .ref asd, .ref fd, .int (nI wr), .int hi9])), (pl, .inl (cS, 4, .inr (.inr (.inr (.inr plf))))), (sh, .inr (5, [.ref ra, .int so9, .int (nI nz)])), (ra, .inl (cI, 40, .inl g))] [(0, .ref x), (1, .int (nI j)), (2, .int t), (3, .int n)] 13 [.int 0]
      refine x_if_ne C dX7_sheet_13 (tgt := 19) rfl (fun q9 => absurd q9 (by decide)) (fun _ => ?_)
      refine x_bipush C dX7_sheet_16 (v := (-2)) rfl ?_
      refine E dX7_sheet_18 (rfl) ?_
      exact ⟨(-2), so9, (nI nz), g, rfl, rfl, by (unfold o_sheet o_sheet_so o_sheet_sz o_sheet_g); (try simp only [hnj]); (repeat (first | rw [if_pos (by first | (rw [if_pos (by decide)]; assumption) | (rw [if_neg (by decide), if_pos (by decide)]; assumption) | (rw [if_neg (by decide), if_neg (by decide)]; assumption) | assumption | decide | omega | exact o_one_t (by assumption) | (rw [o_one_f (by assumption)]; decide) | exact ⟨by assumption, by assumption⟩ | exact fun h9 => absurd h9.1 (by assumption) | exact fun h9 => absurd h9.2 (by assumption))] | rw [if_neg (by first | (rw [if_pos (by decide)]; assumption) | (rw [if_neg (by decide), if_pos (by decide)]; assumption) | (rw [if_neg (by decide), if_neg (by decide)]; assumption) | assumption | decide | omega | exact o_one_t (by assumption) | (rw [o_one_f (by assumption)]; decide) | exact ⟨by assumption, by assumption⟩ | exact fun h9 => absurd h9.1 (by assumption) | exact fun h9 => absurd h9.2 (by assumption))])); all_goals (first | rfl)⟩
  ·
    obtain ⟨rfl, rfl, hf22⟩ := h3
    show X 0 0 [(x, .inr (6, [.ref tw, .ref pw, .ref uw, .ref o, .ref hh, .ref rd, .ref bk, .ref pl, .ref asd, .ref fd, .int (nI wr), .int hi9])), (pl, .inl (cS, 4, .inr (.inr (.inr (.inr plf))))), (sh, .inr (5, [.ref ra, .int so9, .int (nI nz)])), (ra, .inl (cI, 40, .inl g))] [(0, .ref x), (1, .int s), (2, .int t), (3, .int n)] 4 [.int 0]
    refine x_if_eq C dX7_sheet_4 (tgt := 16) rfl (fun _ => ?_) (fun q9 => by first | exact absurd q9 (by decide) | exact absurd (by decide) q9)
    refine x_bipush C dX7_sheet_16 (v := (-2)) rfl ?_
    refine E dX7_sheet_18 (rfl) ?_
    exact ⟨(-2), so9, (nI nz), g, rfl, rfl, by (unfold o_sheet o_sheet_so o_sheet_sz o_sheet_g); (repeat (first | rw [if_pos (by first | (rw [if_pos (by decide)]; assumption) | (rw [if_neg (by decide), if_pos (by decide)]; assumption) | (rw [if_neg (by decide), if_neg (by decide)]; assumption) | assumption | decide | omega | exact o_one_t (by assumption) | (rw [o_one_f (by assumption)]; decide) | exact ⟨by assumption, by assumption⟩ | exact fun h9 => absurd h9.1 (by assumption) | exact fun h9 => absurd h9.2 (by assumption))] | rw [if_neg (by first | (rw [if_pos (by decide)]; assumption) | (rw [if_neg (by decide), if_pos (by decide)]; assumption) | (rw [if_neg (by decide), if_neg (by decide)]; assumption) | assumption | decide | omega | exact o_one_t (by assumption) | (rw [o_one_f (by assumption)]; decide) | exact ⟨by assumption, by assumption⟩ | exact fun h9 => absurd h9.1 (by assumption) | exact fun h9 => absurd h9.2 (by assumption))])); all_goals (first | rfl)⟩
theorem kV_X7_269 : GoodIn GW (wsV RX7 269 yX6_isMissing.cls yX6_isMissing (Cond.code yX6_isMissing cX6_isMissing 1 (some .boolean) :: GW)) := r_gV gw_37_15 gw_37_16 gw_37_17 gw_2_17 gw_37_18
theorem hy_X6_isMissing : yX6_isMissing.cls ≠ "java/lang/invoke/MethodHandle" ∧ yX6_isMissing.cls ≠ "java/lang/invoke/VarHandle" ∧ (parseMethodDescriptor yX6_isMissing.desc).map (fun d => d.parameters.length) = some 0 := ⟨by decide +kernel, by decide +kernel, by decide +kernel⟩
theorem nw_X7_273 : (RX7, 273, "LeavesBeforeWind$Sheet", "size", "I", "LeavesBeforeWind") ∈ NWF := List.mem_of_getElem? (i := 19) rfl
theorem kV_X7_274 : GoodIn GW (wsV RX7 274 yX6_put.cls yX6_put (Cond.code yX6_put cX6_put 3 none :: GW)) := r_gV gw_42_10 gw_42_11 gw_42_12 gw_2_17 gw_42_13
theorem hy_X6_put : yX6_put.cls ≠ "java/lang/invoke/MethodHandle" ∧ yX6_put.cls ≠ "java/lang/invoke/VarHandle" ∧ (parseMethodDescriptor yX6_put.desc).map (fun d => d.parameters.length) = some 2 := ⟨by decide +kernel, by decide +kernel, by decide +kernel⟩
set_option maxHeartbeats 4000000 in
set_option maxRecDepth 100000 in
theorem c_X7_cell (l : Launch) (dG : va_G) (cI cM cW cS : ClassId) (x pw uw o hh rd bk pl asd fd : Nat) (wr : Nat) (hi9 : Int32) (tw : Nat) (plf : Nat → Option Nat) (sh ra : Nat) (so9 : Int32) (nz : Nat) (g : Nat → Int32) (s i v : Int32) (hsh : ∀ j, j < 4 → s = nI j → plf j = some sh) (hnz : nz ≤ 40) : rM l yX7_cell cX7_cell 5 (some .int) ({ frames := 2, cells := 0, slots := 0, locals := 42 } : Room) dG (tY cI cM cW cS) rZ0 [.ref x, .int s, .int i, .int v] [(x, .inr (6, [.ref tw, .ref pw, .ref uw, .ref o, .ref hh, .ref rd, .ref bk, .ref pl, .ref asd, .ref fd, .int (nI wr), .int hi9])), (pl, .inl (cS, 4, .inr (.inr (.inr (.inr plf))))), (sh, .inr (5, [.ref ra, .int so9, .int (nI nz)])), (ra, .inl (cI, 40, .inl g))] (fun ov oz => ∃ (r : Int32) (g' : Nat → Int32), ov = some (.int r) ∧ oz = [(x, .inr (6, [.ref tw, .ref pw, .ref uw, .ref o, .ref hh, .ref rd, .ref bk, .ref pl, .ref asd, .ref fd, .int (nI wr), .int hi9])), (pl, .inl (cS, 4, .inr (.inr (.inr (.inr plf))))), (sh, .inr (5, [.ref ra, .int so9, .int (nI nz)])), (ra, .inl (cI, 40, .inl g'))] ∧ (r, g') = (o_cell so9 nz s i v, o_cell_g g so9 nz s i v)) := by
  refine rM_ofI rfl (Nat.le_of_ble_eq_true rfl) rfl (fun X C E => ?_)
  show X 0 0 [(x, .inr (6, [.ref tw, .ref pw, .ref uw, .ref o, .ref hh, .ref rd, .ref bk, .ref pl, .ref asd, .ref fd, .int (nI wr), .int hi9])), (pl, .inl (cS, 4, .inr (.inr (.inr (.inr plf))))), (sh, .inr (5, [.ref ra, .int so9, .int (nI nz)])), (ra, .inl (cI, 40, .inl g))] [(0, .ref x), (1, .int s), (2, .int i), (3, .int v)] 0 []
  refine x_iload_n C dX7_cell_0 1 rfl ?_
  refine x_callS C (As := [.int s]) (st := []) (wc := []) (wr := [(x, .inr (6, [.ref tw, .ref pw, .ref uw, .ref o, .ref hh, .ref rd, .ref bk, .ref pl, .ref asd, .ref fd, .int (nI wr), .int hi9])), (pl, .inl (cS, 4, .inr (.inr (.inr (.inr plf))))), (sh, .inr (5, [.ref ra, .int so9, .int (nI nz)])), (ra, .inl (cI, 40, .inl g))]) (c_X7_isSheet l dG cI cM cW cS s ) rZ0_ok (fun _ _ _ _ => trivial) kS_X7_259 hy_X7_isSheet ⟨Nat.le_of_ble_eq_true rfl, Nat.le_of_ble_eq_true rfl⟩ ⟨Nat.le_of_ble_eq_true rfl, Nat.le_of_ble_eq_true rfl⟩ dX7_cell_1 [] [0, 1, 2, 3] rfl rfl rfl rfl (by decide) rfl (Nat.le_of_ble_eq_true rfl) ?_
  intro v1 w2 h3
  rcases h3 with h3 | h3
  ·
    obtain ⟨rfl, rfl, hf4⟩ := h3
    show X 0 0 [(x, .inr (6, [.ref tw, .ref pw, .ref uw, .ref o, .ref hh, .ref rd, .ref bk, .ref pl, .ref asd, .ref fd, .int (nI wr), .int hi9])), (pl, .inl (cS, 4, .inr (.inr (.inr (.inr plf))))), (sh, .inr (5, [.ref ra, .int so9, .int (nI nz)])), (ra, .inl (cI, 40, .inl g))] [(0, .ref x), (1, .int s), (2, .int i), (3, .int v)] 4 [.int 1]
    have hr5 := hf4
    obtain ⟨j, hj, rfl⟩ := q_w (n := 3) rfl (by decide) hf4
    have hnj : o_n (nI j) = j := o_n_nI (by omega)
    refine x_if_ne C dX7_cell_4 (tgt := 10) rfl (fun _ => ?_) (fun q9 => by first | exact absurd q9 (by decide) | exact absurd (by decide) q9)
    refine x_aload_n C dX7_cell_10 0 rfl ?_
    refine x_get C inlX7 rfl 7 (by decide) gw_2_10 dX7_cell_11 0 rfl rfl ?_
    refine x_iload_n C dX7_cell_14 1 rfl ?_
    refine x_aaload C 3 rfl dX7_cell_15 j (q_cl rfl (by omega)) (q_ix rfl (by omega) (by omega)) 1 rfl (hsh j (by omega) rfl) ?_
    refine x_astore C dX7_cell_16 (by decide) (lv' := [(4, .ref sh), (0, .ref x), (1, .int (nI j)), (2, .int i), (3, .int v)]) rfl ?_
    refine x_aload C dX7_cell_18 0 rfl ?_
    refine x_callV C (As := []) (st := []) (wc := [(sh, .inr (5, [.ref ra, .int so9, .int (nI nz)]))]) (wr := [(x, .inr (6, [.ref tw, .ref pw, .ref uw, .ref o, .ref hh, .ref rd, .ref bk, .ref pl, .ref asd, .ref fd, .int (nI wr), .int hi9])), (pl, .inl (cS, 4, .inr (.inr (.inr (.inr plf))))), (ra, .inl (cI, 40, .inl g))]) (c_X6_isMissing l dG cI cM cW cS sh ra so9 (nI nz) g ) rZ0_ok (fun _ _ _ _ => trivial) kV_X7_269 ⟨rfl, hy_X6_isMissing⟩ ⟨Nat.le_of_ble_eq_true rfl, Nat.le_of_ble_eq_true rfl⟩ ⟨Nat.le_of_ble_eq_true rfl, Nat.le_of_ble_eq_true rfl⟩ dX7_cell_20 2 rfl rfl [2] [0, 1, 3] rfl rfl rfl rfl (by decide) rfl (Nat.le_of_ble_eq_true rfl) ?_
    intro v6 w7 h8
    rcases h8 with h8 | h8
    ·
      obtain ⟨rfl, rfl, hf9⟩ := h8
      show X 0 0 [(x, .inr (6, [.ref tw, .ref pw, .ref uw, .ref o, .ref hh, .ref rd, .ref bk, .ref pl, .ref asd, .ref fd, .int (nI wr), .int hi9])), (pl, .inl (cS, 4, .inr (.inr (.inr (.inr plf))))), (ra, .inl (cI, 40, .inl g)), (sh, .inr (5, [.ref ra, .int so9, .int (nI nz)]))] [(4, .ref sh), (0, .ref x), (1, .int (nI j)), (2, .int i), (3, .int v)] 23 [.int 1]
      refine x_if_eq C dX7_cell_23 (tgt := 29) rfl (fun q9 => absurd q9 (by decide)) (fun _ => ?_)
      refine x_bipush C dX7_cell_26 (v := (-11)) rfl ?_
      refine x_sub C [0, 1, 3, 2] (ws' := [(x, .inr (6, [.ref tw, .ref pw, .ref uw, .ref o, .ref hh, .ref rd, .ref bk, .ref pl, .ref asd, .ref fd, .int (nI wr), .int hi9])), (pl, .inl (cS, 4, .inr (.inr (.inr (.inr plf))))), (sh, .inr (5, [.ref ra, .int so9, .int (nI nz)])), (ra, .inl (cI, 40, .inl g))]) rfl rfl ?_
      refine E dX7_cell_28 (rfl) ?_
      exact ⟨(-11), g, rfl, rfl, by (unfold o_cell o_cell_g); (try simp only [hnj]); (repeat (first | rw [if_pos (by first | (rw [if_pos (by decide)]; assumption) | (rw [if_neg (by decide), if_pos (by decide)]; assumption) | (rw [if_neg (by decide), if_neg (by decide)]; assumption) | assumption | decide | omega | exact o_one_t (by assumption) | (rw [o_one_f (by assumption)]; decide) | exact ⟨by assumption, by assumption⟩ | exact fun h9 => absurd h9.1 (by assumption) | exact fun h9 => absurd h9.2 (by assumption))] | rw [if_neg (by first | (rw [if_pos (by decide)]; assumption) | (rw [if_neg (by decide), if_pos (by decide)]; assumption) | (rw [if_neg (by decide), if_neg (by decide)]; assumption) | assumption | decide | omega | exact o_one_t (by assumption) | (rw [o_one_f (by assumption)]; decide) | exact ⟨by assumption, by assumption⟩ | exact fun h9 => absurd h9.1 (by assumption) | exact fun h9 => absurd h9.2 (by assumption))])); all_goals (first | rfl | (rw [hf9]) | (simp only [*]; done))⟩
    ·
      obtain ⟨rfl, rfl, hf10⟩ := h8
      show X 0 0 [(x, .inr (6, [.ref tw, .ref pw, .ref uw, .ref o, .ref hh, .ref rd, .ref bk, .ref pl, .ref asd, .ref fd, .int (nI wr), .int hi9])), (pl, .inl (cS, 4, .inr (.inr (.inr (.inr plf))))), (ra, .inl (cI, 40, .inl g)), (sh, .inr (5, [.ref ra, .int so9, .int (nI nz)]))] [(4, .ref sh), (0, .ref x), (1, .int (nI j)), (2, .int i), (3, .int v)] 23 [.int 0]
      refine x_if_eq C dX7_cell_23 (tgt := 29) rfl (fun _ => ?_) (fun q9 => by first | exact absurd q9 (by decide) | exact absurd (by decide) q9)
      refine x_iload_n C dX7_cell_29 3 rfl ?_
      refine x_iconst C dX7_cell_30 (v := 0) rfl ?_
      refine x_aload C dX7_cell_31 0 rfl ?_
      refine x_getN C inlX6 rfl 2 (by decide) nw_X7_273 dX7_cell_33 3 rfl rfl ?_
      refine x_iconst C dX7_cell_36 (v := 1) rfl ?_
      refine x_isub C dX7_cell_37 ?_
      refine x_callS C (As := [.int i, .int 0, .int ((nI nz) - 1)]) (st := []) (wc := []) (wr := [(x, .inr (6, [.ref tw, .ref pw, .ref uw, .ref o, .ref hh, .ref rd, .ref bk, .ref pl, .ref asd, .ref fd, .int (nI wr), .int hi9])), (pl, .inl (cS, 4, .inr (.inr (.inr (.inr plf))))), (ra, .inl (cI, 40, .inl g)), (sh, .inr (5, [.ref ra, .int so9, .int (nI nz)]))]) (c_X7_within l dG cI cM cW cS i 0 ((nI nz) - 1) ) rZ0_ok (fun _ _ _ _ => trivial) kS_X7_92 hy_X7_within ⟨Nat.le_of_ble_eq_true rfl, Nat.le_of_ble_eq_true rfl⟩ ⟨Nat.le_of_ble_eq_true rfl, Nat.le_of_ble_eq_true rfl⟩ dX7_cell_38 [] [0, 1, 2, 3] rfl rfl rfl rfl (by decide) rfl (Nat.le_of_ble_eq_true rfl) ?_
      intro v11 w12 h13
      rcases h13 with h13 | h13
      ·
        obtain ⟨rfl, rfl, hf14⟩ := h13
        show X 0 0 [(x, .inr (6, [.ref tw, .ref pw, .ref uw, .ref o, .ref hh, .ref rd, .ref bk, .ref pl, .ref asd, .ref fd, .int (nI wr), .int hi9])), (pl, .inl (cS, 4, .inr (.inr (.inr (.inr plf))))), (ra, .inl (cI, 40, .inl g)), (sh, .inr (5, [.ref ra, .int so9, .int (nI nz)]))] [(4, .ref sh), (0, .ref x), (1, .int (nI j)), (2, .int i), (3, .int v)] 41 [.int 1]
        have hr9 := hf14
        obtain ⟨y, hy, rfl⟩ := q_size hnz hf14
        have hny : o_n (nI y) = y := o_n_nI (by omega)
        refine x_if_ne C dX7_cell_41 (tgt := 47) rfl (fun _ => ?_) (fun q9 => by first | exact absurd q9 (by decide) | exact absurd (by decide) q9)
        refine x_aload C dX7_cell_47 0 rfl ?_
        refine x_iload_n C dX7_cell_49 3 rfl ?_
        refine x_iload_n C dX7_cell_50 4 rfl ?_
        refine x_callV C (As := [.int (nI y), .int v]) (st := []) (wc := [(sh, .inr (5, [.ref ra, .int so9, .int (nI nz)])), (ra, .inl (cI, 40, .inl g))]) (wr := [(x, .inr (6, [.ref tw, .ref pw, .ref uw, .ref o, .ref hh, .ref rd, .ref bk, .ref pl, .ref asd, .ref fd, .int (nI wr), .int hi9])), (pl, .inl (cS, 4, .inr (.inr (.inr (.inr plf)))))]) (c_X6_put l dG cI cM cW cS sh ra so9 (nI nz) g y v (by first | assumption | omega | decide)) rZ0_ok (fun _ _ _ _ => trivial) kV_X7_274 ⟨rfl, hy_X6_put⟩ ⟨Nat.le_of_ble_eq_true rfl, Nat.le_of_ble_eq_true rfl⟩ ⟨Nat.le_of_ble_eq_true rfl, Nat.le_of_ble_eq_true rfl⟩ dX7_cell_51 3 rfl rfl [3, 2] [0, 1] rfl rfl rfl rfl (by decide) rfl (Nat.le_of_ble_eq_true rfl) ?_
        intro v15 w16 h17
        obtain ⟨g_18, rfl, rfl, hf19⟩ := h17
        show X 0 0 [(x, .inr (6, [.ref tw, .ref pw, .ref uw, .ref o, .ref hh, .ref rd, .ref bk, .ref pl, .ref asd, .ref fd, .int (nI wr), .int hi9])), (pl, .inl (cS, 4, .inr (.inr (.inr (.inr plf))))), (sh, .inr (5, [.ref ra, .int so9, .int (nI nz)])), (ra, .inl (cI, 40, .inl g_18))] [(4, .ref sh), (0, .ref x), (1, .int (nI j)), (2, .int (nI y)), (3, .int v)] 54 []
        refine x_iconst C dX7_cell_54 (v := 1) rfl ?_
        refine E dX7_cell_55 (rfl) ?_
        exact ⟨1, g_18, rfl, rfl, by (unfold o_cell o_cell_g); (try simp only [hnj, hny]); (repeat (first | rw [if_pos (by first | (rw [if_pos (by decide)]; assumption) | (rw [if_neg (by decide), if_pos (by decide)]; assumption) | (rw [if_neg (by decide), if_neg (by decide)]; assumption) | assumption | decide | omega | exact o_one_t (by assumption) | (rw [o_one_f (by assumption)]; decide) | exact ⟨by assumption, by assumption⟩ | exact fun h9 => absurd h9.1 (by assumption) | exact fun h9 => absurd h9.2 (by assumption))] | rw [if_neg (by first | (rw [if_pos (by decide)]; assumption) | (rw [if_neg (by decide), if_pos (by decide)]; assumption) | (rw [if_neg (by decide), if_neg (by decide)]; assumption) | assumption | decide | omega | exact o_one_t (by assumption) | (rw [o_one_f (by assumption)]; decide) | exact ⟨by assumption, by assumption⟩ | exact fun h9 => absurd h9.1 (by assumption) | exact fun h9 => absurd h9.2 (by assumption))])); all_goals (first | rfl | (rw [hf19]) | (simp only [*]; done))⟩
      ·
        obtain ⟨rfl, rfl, hf20⟩ := h13
        show X 0 0 [(x, .inr (6, [.ref tw, .ref pw, .ref uw, .ref o, .ref hh, .ref rd, .ref bk, .ref pl, .ref asd, .ref fd, .int (nI wr), .int hi9])), (pl, .inl (cS, 4, .inr (.inr (.inr (.inr plf))))), (ra, .inl (cI, 40, .inl g)), (sh, .inr (5, [.ref ra, .int so9, .int (nI nz)]))] [(4, .ref sh), (0, .ref x), (1, .int (nI j)), (2, .int i), (3, .int v)] 41 [.int 0]
        refine x_if_ne C dX7_cell_41 (tgt := 47) rfl (fun q9 => absurd q9 (by decide)) (fun _ => ?_)
        refine x_bipush C dX7_cell_44 (v := (-12)) rfl ?_
        refine x_sub C [0, 1, 3, 2] (ws' := [(x, .inr (6, [.ref tw, .ref pw, .ref uw, .ref o, .ref hh, .ref rd, .ref bk, .ref pl, .ref asd, .ref fd, .int (nI wr), .int hi9])), (pl, .inl (cS, 4, .inr (.inr (.inr (.inr plf))))), (sh, .inr (5, [.ref ra, .int so9, .int (nI nz)])), (ra, .inl (cI, 40, .inl g))]) rfl rfl ?_
        refine E dX7_cell_46 (rfl) ?_
        exact ⟨(-12), g, rfl, rfl, by (unfold o_cell o_cell_g); (try simp only [hnj]); (repeat (first | rw [if_pos (by first | (rw [if_pos (by decide)]; assumption) | (rw [if_neg (by decide), if_pos (by decide)]; assumption) | (rw [if_neg (by decide), if_neg (by decide)]; assumption) | assumption | decide | omega | exact o_one_t (by assumption) | (rw [o_one_f (by assumption)]; decide) | exact ⟨by assumption, by assumption⟩ | exact fun h9 => absurd h9.1 (by assumption) | exact fun h9 => absurd h9.2 (by assumption))] | rw [if_neg (by first | (rw [if_pos (by decide)]; assumption) | (rw [if_neg (by decide), if_pos (by decide)]; assumption) | (rw [if_neg (by decide), if_neg (by decide)]; assumption) | assumption | decide | omega | exact o_one_t (by assumption) | (rw [o_one_f (by assumption)]; decide) | exact ⟨by assumption, by assumption⟩ | exact fun h9 => absurd h9.1 (by assumption) | exact fun h9 => absurd h9.2 (by assumption))])); all_goals (first | rfl | (rw [hf20]) | (simp only [*]; done))⟩
  ·
    obtain ⟨rfl, rfl, hf21⟩ := h3
    show X 0 0 [(x, .inr (6, [.ref tw, .ref pw, .ref uw, .ref o, .ref hh, .ref rd, .ref bk, .ref pl, .ref asd, .ref fd, .int (nI wr), .int hi9])), (pl, .inl (cS, 4, .inr (.inr (.inr (.inr plf))))), (sh, .inr (5, [.ref ra, .int so9, .int (nI nz)])), (ra, .inl (cI, 40, .inl g))] [(0, .ref x), (1, .int s), (2, .int i), (3, .int v)] 4 [.int 0]
    refine x_if_ne C dX7_cell_4 (tgt := 10) rfl (fun q9 => absurd q9 (by decide)) (fun _ => ?_)
    refine x_bipush C dX7_cell_7 (v := (-2)) rfl ?_
    refine E dX7_cell_9 (rfl) ?_
    exact ⟨(-2), g, rfl, rfl, by (unfold o_cell o_cell_g); (repeat (first | rw [if_pos (by first | (rw [if_pos (by decide)]; assumption) | (rw [if_neg (by decide), if_pos (by decide)]; assumption) | (rw [if_neg (by decide), if_neg (by decide)]; assumption) | assumption | decide | omega | exact o_one_t (by assumption) | (rw [o_one_f (by assumption)]; decide) | exact ⟨by assumption, by assumption⟩ | exact fun h9 => absurd h9.1 (by assumption) | exact fun h9 => absurd h9.2 (by assumption))] | rw [if_neg (by first | (rw [if_pos (by decide)]; assumption) | (rw [if_neg (by decide), if_pos (by decide)]; assumption) | (rw [if_neg (by decide), if_neg (by decide)]; assumption) | assumption | decide | omega | exact o_one_t (by assumption) | (rw [o_one_f (by assumption)]; decide) | exact ⟨by assumption, by assumption⟩ | exact fun h9 => absurd h9.1 (by assumption) | exact fun h9 => absurd h9.2 (by assumption))])); all_goals (first | rfl | (rw [hf21]) | (simp only [*]; done))⟩
set_option maxHeartbeats 4000000 in
set_option maxRecDepth 100000 in
theorem c_X8_sheet (l : Launch) (dG : va_G) (cI cM cW cS : ClassId) (m a_sky a_kind a_more a_strewn a_treeCell a_treeSort a_treeLeaves a_tape a_code a_begins a_stack a_dry a_wet a_covered a_hangs a_off a_dryGo a_wetGo a_keptSky a_oldSky a_oldCells a_sheetSort a_sheetSize a_items a_spare : Nat) (tn tz wr lw itn ilw : Nat) (i_raking i_made i_at i_from i_sort i_value i_open i_fell i_fellToday i_rotten i_raked i_cost i_imaged i_oldRaking : Int32) (l_heaps l_oldHeaps : Int64) (ssf szf itf : Nat → Int32) (s t n : Int32) : rM l yX8_sheet cX8_sheet 5 (some .int) ({ frames := 1, cells := 0, slots := 0, locals := 22 } : Room) dG (tY cI cM cW cS) rZ0 [.ref m, .int s, .int t, .int n] [(m, .inr (7, [.ref a_sky, .ref a_kind, .ref a_more, .ref a_strewn, .int (nI tn), .ref a_treeCell, .ref a_treeSort, .ref a_treeLeaves, .int i_raking, .long l_heaps, .int (nI tz), .ref a_tape, .int (nI wr), .int (nI lw), .ref a_code, .ref a_begins, .int i_made, .int i_at, .int i_from, .int i_sort, .int i_value, .int i_open, .ref a_stack, .ref a_dry, .ref a_wet, .ref a_covered, .ref a_hangs, .ref a_off, .int i_fell, .int i_fellToday, .int i_rotten, .int i_raked, .int i_cost, .ref a_dryGo, .ref a_wetGo, .ref a_keptSky, .int i_imaged, .int (nI itn), .int i_oldRaking, .long l_oldHeaps, .int (nI ilw), .ref a_oldSky, .ref a_oldCells, .ref a_sheetSort, .ref a_sheetSize, .ref a_items, .ref a_spare])), (a_sheetSort, .inl (cI, 4, .inl ssf)), (a_sheetSize, .inl (cI, 4, .inl szf)), (a_items, .inl (cI, 160, .inl itf))] (fun ov oz => ∃ (r : Int32) (a' : Nat → Int32) (b' : Nat → Int32) (c' : Nat → Int32), ov = some (.int r) ∧ oz = [(m, .inr (7, [.ref a_sky, .ref a_kind, .ref a_more, .ref a_strewn, .int (nI tn), .ref a_treeCell, .ref a_treeSort, .ref a_treeLeaves, .int i_raking, .long l_heaps, .int (nI tz), .ref a_tape, .int (nI wr), .int (nI lw), .ref a_code, .ref a_begins, .int i_made, .int i_at, .int i_from, .int i_sort, .int i_value, .int i_open, .ref a_stack, .ref a_dry, .ref a_wet, .ref a_covered, .ref a_hangs, .ref a_off, .int i_fell, .int i_fellToday, .int i_rotten, .int i_raked, .int i_cost, .ref a_dryGo, .ref a_wetGo, .ref a_keptSky, .int i_imaged, .int (nI itn), .int i_oldRaking, .long l_oldHeaps, .int (nI ilw), .ref a_oldSky, .ref a_oldCells, .ref a_sheetSort, .ref a_sheetSize, .ref a_items, .ref a_spare])), (a_sheetSort, .inl (cI, 4, .inl a')), (a_sheetSize, .inl (cI, 4, .inl b')), (a_items, .inl (cI, 160, .inl c'))] ∧ (r, a', b') = (o_sheet s t n, o_msheet_so ssf s t n, o_msheet_sz szf s t n) ∧ ∀ q, c' q = o_msheet_g itf s t n q) := by
  refine rM_ofI rfl (Nat.le_of_ble_eq_true rfl) rfl (fun X C E => ?_)
  show X 0 0 [(m, .inr (7, [.ref a_sky, .ref a_kind, .ref a_more, .ref a_strewn, .int (nI tn), .ref a_treeCell, .ref a_treeSort, .ref a_treeLeaves, .int i_raking, .long l_heaps, .int (nI tz), .ref a_tape, .int (nI wr), .int (nI lw), .ref a_code, .ref a_begins, .int i_made, .int i_at, .int i_from, .int i_sort, .int i_value, .int i_open, .ref a_stack, .ref a_dry, .ref a_wet, .ref a_covered, .ref a_hangs, .ref a_off, .int i_fell, .int i_fellToday, .int i_rotten, .int i_raked, .int i_cost, .ref a_dryGo, .ref a_wetGo, .ref a_keptSky, .int i_imaged, .int (nI itn), .int i_oldRaking, .long l_oldHeaps, .int (nI ilw), .ref a_oldSky, .ref a_oldCells, .ref a_sheetSort, .ref a_sheetSize, .ref a_items, .ref a_spare])), (a_sheetSort, .inl (cI, 4, .inl ssf)), (a_sheetSize, .inl (cI, 4, .inl szf)), (a_items, .inl (cI, 160, .inl itf))] [(0, .ref m), (1, .int s), (2, .int t), (3, .int n)] 0 []
  refine x_iload_n C dX8_sheet_0 1 rfl ?_
  refine x_iconst C dX8_sheet_1 (v := 0) rfl ?_
  refine x_iconst C dX8_sheet_2 (v := 3) rfl ?_
  refine x_callS C (As := [.int s, .int 0, .int 3]) (st := []) (wc := []) (wr := [(m, .inr (7, [.ref a_sky, .ref a_kind, .ref a_more, .ref a_strewn, .int (nI tn), .ref a_treeCell, .ref a_treeSort, .ref a_treeLeaves, .int i_raking, .long l_heaps, .int (nI tz), .ref a_tape, .int (nI wr), .int (nI lw), .ref a_code, .ref a_begins, .int i_made, .int i_at, .int i_from, .int i_sort, .int i_value, .int i_open, .ref a_stack, .ref a_dry, .ref a_wet, .ref a_covered, .ref a_hangs, .ref a_off, .int i_fell, .int i_fellToday, .int i_rotten, .int i_raked, .int i_cost, .ref a_dryGo, .ref a_wetGo, .ref a_keptSky, .int i_imaged, .int (nI itn), .int i_oldRaking, .long l_oldHeaps, .int (nI ilw), .ref a_oldSky, .ref a_oldCells, .ref a_sheetSort, .ref a_sheetSize, .ref a_items, .ref a_spare])), (a_sheetSort, .inl (cI, 4, .inl ssf)), (a_sheetSize, .inl (cI, 4, .inl szf)), (a_items, .inl (cI, 160, .inl itf))]) (c_X8_within l dG cI cM cW cS s 0 3 ) rZ0_ok (fun _ _ _ _ => trivial) kS_X8_108 hy_X8_within ⟨Nat.le_of_ble_eq_true rfl, Nat.le_of_ble_eq_true rfl⟩ ⟨Nat.le_of_ble_eq_true rfl, Nat.le_of_ble_eq_true rfl⟩ dX8_sheet_3 [] [0, 1, 2, 3] rfl rfl rfl rfl (by decide) rfl (Nat.le_of_ble_eq_true rfl) ?_
  intro v1 w2 h3
  rcases h3 with h3 | h3
  ·
    obtain ⟨rfl, rfl, hf4⟩ := h3
    show X 0 0 [(m, .inr (7, [.ref a_sky, .ref a_kind, .ref a_more, .ref a_strewn, .int (nI tn), .ref a_treeCell, .ref a_treeSort, .ref a_treeLeaves, .int i_raking, .long l_heaps, .int (nI tz), .ref a_tape, .int (nI wr), .int (nI lw), .ref a_code, .ref a_begins, .int i_made, .int i_at, .int i_from, .int i_sort, .int i_value, .int i_open, .ref a_stack, .ref a_dry, .ref a_wet, .ref a_covered, .ref a_hangs, .ref a_off, .int i_fell, .int i_fellToday, .int i_rotten, .int i_raked, .int i_cost, .ref a_dryGo, .ref a_wetGo, .ref a_keptSky, .int i_imaged, .int (nI itn), .int i_oldRaking, .long l_oldHeaps, .int (nI ilw), .ref a_oldSky, .ref a_oldCells, .ref a_sheetSort, .ref a_sheetSize, .ref a_items, .ref a_spare])), (a_sheetSort, .inl (cI, 4, .inl ssf)), (a_sheetSize, .inl (cI, 4, .inl szf)), (a_items, .inl (cI, 160, .inl itf))] [(0, .ref m), (1, .int s), (2, .int t), (3, .int n)] 6 [.int 1]
    have hr5 := hf4
    obtain ⟨j, hj, rfl⟩ := q_w (n := 3) rfl (by decide) hf4
    have hnj : o_n (nI j) = j := o_n_nI (by omega)
    refine x_if_eq C dX8_sheet_6 (tgt := 18) rfl (fun q9 => absurd q9 (by decide)) (fun _ => ?_)
    refine x_iload_n C dX8_sheet_9 2 rfl ?_
    refine x_iconst C dX8_sheet_10 (v := (-1)) rfl ?_
    refine x_iconst C dX8_sheet_11 (v := 2) rfl ?_
    refine x_callS C (As := [.int t, .int (-1), .int 2]) (st := []) (wc := []) (wr := [(m, .inr (7, [.ref a_sky, .ref a_kind, .ref a_more, .ref a_strewn, .int (nI tn), .ref a_treeCell, .ref a_treeSort, .ref a_treeLeaves, .int i_raking, .long l_heaps, .int (nI tz), .ref a_tape, .int (nI wr), .int (nI lw), .ref a_code, .ref a_begins, .int i_made, .int i_at, .int i_from, .int i_sort, .int i_value, .int i_open, .ref a_stack, .ref a_dry, .ref a_wet, .ref a_covered, .ref a_hangs, .ref a_off, .int i_fell, .int i_fellToday, .int i_rotten, .int i_raked, .int i_cost, .ref a_dryGo, .ref a_wetGo, .ref a_keptSky, .int i_imaged, .int (nI itn), .int i_oldRaking, .long l_oldHeaps, .int (nI ilw), .ref a_oldSky, .ref a_oldCells, .ref a_sheetSort, .ref a_sheetSize, .ref a_items, .ref a_spare])), (a_sheetSort, .inl (cI, 4, .inl ssf)), (a_sheetSize, .inl (cI, 4, .inl szf)), (a_items, .inl (cI, 160, .inl itf))]) (c_X8_within l dG cI cM cW cS t (-1) 2 ) rZ0_ok (fun _ _ _ _ => trivial) kS_X8_108 hy_X8_within ⟨Nat.le_of_ble_eq_true rfl, Nat.le_of_ble_eq_true rfl⟩ ⟨Nat.le_of_ble_eq_true rfl, Nat.le_of_ble_eq_true rfl⟩ dX8_sheet_12 [] [0, 1, 2, 3] rfl rfl rfl rfl (by decide) rfl (Nat.le_of_ble_eq_true rfl) ?_
    intro v6 w7 h8
    rcases h8 with h8 | h8
    ·
      obtain ⟨rfl, rfl, hf9⟩ := h8
      show X 0 0 [(m, .inr (7, [.ref a_sky, .ref a_kind, .ref a_more, .ref a_strewn, .int (nI tn), .ref a_treeCell, .ref a_treeSort, .ref a_treeLeaves, .int i_raking, .long l_heaps, .int (nI tz), .ref a_tape, .int (nI wr), .int (nI lw), .ref a_code, .ref a_begins, .int i_made, .int i_at, .int i_from, .int i_sort, .int i_value, .int i_open, .ref a_stack, .ref a_dry, .ref a_wet, .ref a_covered, .ref a_hangs, .ref a_off, .int i_fell, .int i_fellToday, .int i_rotten, .int i_raked, .int i_cost, .ref a_dryGo, .ref a_wetGo, .ref a_keptSky, .int i_imaged, .int (nI itn), .int i_oldRaking, .long l_oldHeaps, .int (nI ilw), .ref a_oldSky, .ref a_oldCells, .ref a_sheetSort, .ref a_sheetSize, .ref a_items, .ref a_spare])), (a_sheetSort, .inl (cI, 4, .inl ssf)), (a_sheetSize, .inl (cI, 4, .inl szf)), (a_items, .inl (cI, 160, .inl itf))] [(0, .ref m), (1, .int (nI j)), (2, .int t), (3, .int n)] 15 [.int 1]
      refine x_if_ne C dX8_sheet_15 (tgt := 21) rfl (fun _ => ?_) (fun q9 => by first | exact absurd q9 (by decide) | exact absurd (by decide) q9)
      refine x_iload_n C dX8_sheet_21 2 rfl ?_
      refine x_iconst C dX8_sheet_22 (v := (-1)) rfl ?_
      refine x_icmp_ne C dX8_sheet_23 (tgt := 35) rfl (fun c10 => ?_) (fun c10 => ?_)
      ·
        refine x_iload_n C dX8_sheet_35 3 rfl ?_
        refine x_bipush C dX8_sheet_36 (v := 40) rfl ?_
        refine x_icmp_le C dX8_sheet_38 (tgt := 44) rfl (fun c11 => ?_) (fun c11 => ?_)
        ·
          refine x_iload_n C dX8_sheet_44 3 rfl ?_
          refine x_if_ge C dX8_sheet_45 (tgt := 51) rfl (fun c12 => ?_) (fun c12 => ?_)
          ·
            refine x_aload_n C dX8_sheet_51 0 rfl ?_
            refine x_get C inlX8 rfl 43 (by decide) gw_11_15 dX8_sheet_52 0 rfl rfl ?_
            refine x_iload_n C dX8_sheet_55 1 rfl ?_
            refine x_iload_n C dX8_sheet_56 2 rfl ?_
            refine x_iastore C 0 rfl dX8_sheet_57 j (q_cl rfl (by omega)) (q_ix rfl (by omega) (by omega)) 1 rfl ?_
            show X _ _ [(m, .inr (7, [.ref a_sky, .ref a_kind, .ref a_more, .ref a_strewn, .int (nI tn), .ref a_treeCell, .ref a_treeSort, .ref a_treeLeaves, .int i_raking, .long l_heaps, .int (nI tz), .ref a_tape, .int (nI wr), .int (nI lw), .ref a_code, .ref a_begins, .int i_made, .int i_at, .int i_from, .int i_sort, .int i_value, .int i_open, .ref a_stack, .ref a_dry, .ref a_wet, .ref a_covered, .ref a_hangs, .ref a_off, .int i_fell, .int i_fellToday, .int i_rotten, .int i_raked, .int i_cost, .ref a_dryGo, .ref a_wetGo, .ref a_keptSky, .int i_imaged, .int (nI itn), .int i_oldRaking, .long l_oldHeaps, .int (nI ilw), .ref a_oldSky, .ref a_oldCells, .ref a_sheetSort, .ref a_sheetSize, .ref a_items, .ref a_spare])), (a_sheetSort, .inl (cI, 4, .inl (upd ssf j t))), (a_sheetSize, .inl (cI, 4, .inl szf)), (a_items, .inl (cI, 160, .inl itf))] _ _ _
            refine x_aload_n C dX8_sheet_58 0 rfl ?_
            refine x_get C inlX8 rfl 44 (by decide) gw_11_16 dX8_sheet_59 0 rfl rfl ?_
            refine x_iload_n C dX8_sheet_62 1 rfl ?_
            refine x_iload_n C dX8_sheet_63 3 rfl ?_
            refine x_iastore C 0 rfl dX8_sheet_64 j (q_cl rfl (by omega)) (q_ix rfl (by omega) (by omega)) 2 rfl ?_
            show X _ _ [(m, .inr (7, [.ref a_sky, .ref a_kind, .ref a_more, .ref a_strewn, .int (nI tn), .ref a_treeCell, .ref a_treeSort, .ref a_treeLeaves, .int i_raking, .long l_heaps, .int (nI tz), .ref a_tape, .int (nI wr), .int (nI lw), .ref a_code, .ref a_begins, .int i_made, .int i_at, .int i_from, .int i_sort, .int i_value, .int i_open, .ref a_stack, .ref a_dry, .ref a_wet, .ref a_covered, .ref a_hangs, .ref a_off, .int i_fell, .int i_fellToday, .int i_rotten, .int i_raked, .int i_cost, .ref a_dryGo, .ref a_wetGo, .ref a_keptSky, .int i_imaged, .int (nI itn), .int i_oldRaking, .long l_oldHeaps, .int (nI ilw), .ref a_oldSky, .ref a_oldCells, .ref a_sheetSort, .ref a_sheetSize, .ref a_items, .ref a_spare])), (a_sheetSort, .inl (cI, 4, .inl (upd ssf j t))), (a_sheetSize, .inl (cI, 4, .inl (upd szf j n))), (a_items, .inl (cI, 160, .inl itf))] _ _ _
            show X _ _ _ _ 65 _
            refine x_iconst C dX8_sheet_65 (v := 0) rfl ?_
            refine x_istore C dX8_sheet_66 (by decide) (lv' := [(4, .int 0), (0, .ref m), (1, .int (nI j)), (2, .int t), (3, .int n)]) rfl ?_
            have L68_12 : ∀ (fuel : Nat) (i : Nat) (g : Nat → Int32), (hi : i ≤ 40) → (h0 : ∀ q, g q = o_wipe itf j i q) → 40 - i < fuel → X 0 0 [(m, .inr (7, [.ref a_sky, .ref a_kind, .ref a_more, .ref a_strewn, .int (nI tn), .ref a_treeCell, .ref a_treeSort, .ref a_treeLeaves, .int i_raking, .long l_heaps, .int (nI tz), .ref a_tape, .int (nI wr), .int (nI lw), .ref a_code, .ref a_begins, .int i_made, .int i_at, .int i_from, .int i_sort, .int i_value, .int i_open, .ref a_stack, .ref a_dry, .ref a_wet, .ref a_covered, .ref a_hangs, .ref a_off, .int i_fell, .int i_fellToday, .int i_rotten, .int i_raked, .int i_cost, .ref a_dryGo, .ref a_wetGo, .ref a_keptSky, .int i_imaged, .int (nI itn), .int i_oldRaking, .long l_oldHeaps, .int (nI ilw), .ref a_oldSky, .ref a_oldCells, .ref a_sheetSort, .ref a_sheetSize, .ref a_items, .ref a_spare])), (a_sheetSort, .inl (cI, 4, .inl (upd ssf j t))), (a_sheetSize, .inl (cI, 4, .inl (upd szf j n))), (a_items, .inl (cI, 160, .inl g))] [(4, .int (nI i)), (3, .int n), (2, .int t), (1, .int (nI j)), (0, .ref m)] 68 [] := by
              intro fuel
              induction fuel with
              | zero => intros; omega
              | succ fuel ihL68_12 =>
                intro i g hi h0 hfu
                refine x_iload C dX8_sheet_68 0 rfl ?_
                refine x_bipush C dX8_sheet_70 (v := 40) rfl ?_
                refine x_icmp_ge C dX8_sheet_72 (tgt := 94) rfl (fun c14 => ?_) (fun c14 => ?_)
                ·
                  have c14 : i ≥ 40 := q_ge_t rfl (rfl : (40 : Int32) = nI 40) (by omega) (by omega) c14
                  refine x_iconst C dX8_sheet_94 (v := 1) rfl ?_
                  refine E dX8_sheet_95 (rfl) ?_
                  exact ⟨1, (upd ssf j t), (upd szf j n), g, rfl, rfl, ⟨by (unfold o_sheet o_msheet_so o_msheet_sz); (try simp only [hnj]); (repeat (first | rw [if_pos (by first | (rw [if_pos (by decide)]; assumption) | (rw [if_neg (by decide), if_pos (by decide)]; assumption) | (rw [if_neg (by decide), if_neg (by decide)]; assumption) | assumption | decide | omega | exact o_one_t (by assumption) | (rw [o_one_f (by assumption)]; decide) | exact ⟨by assumption, by assumption⟩ | exact fun h9 => absurd h9.1 (by assumption) | exact fun h9 => absurd h9.2 (by assumption))] | rw [if_neg (by first | (rw [if_pos (by decide)]; assumption) | (rw [if_neg (by decide), if_pos (by decide)]; assumption) | (rw [if_neg (by decide), if_neg (by decide)]; assumption) | assumption | decide | omega | exact o_one_t (by assumption) | (rw [o_one_f (by assumption)]; decide) | exact ⟨by assumption, by assumption⟩ | exact fun h9 => absurd h9.1 (by assumption) | exact fun h9 => absurd h9.2 (by assumption))])); all_goals (first | rfl), fun q => by (unfold o_msheet_g); (try simp only [hnj]); (repeat (first | rw [if_pos (by first | (rw [if_pos (by decide)]; assumption) | (rw [if_neg (by decide), if_pos (by decide)]; assumption) | (rw [if_neg (by decide), if_neg (by decide)]; assumption) | assumption | decide | omega | exact o_one_t (by assumption) | (rw [o_one_f (by assumption)]; decide) | exact ⟨by assumption, by assumption⟩ | exact fun h9 => absurd h9.1 (by assumption) | exact fun h9 => absurd h9.2 (by assumption))] | rw [if_neg (by first | (rw [if_pos (by decide)]; assumption) | (rw [if_neg (by decide), if_pos (by decide)]; assumption) | (rw [if_neg (by decide), if_neg (by decide)]; assumption) | assumption | decide | omega | exact o_one_t (by assumption) | (rw [o_one_f (by assumption)]; decide) | exact ⟨by assumption, by assumption⟩ | exact fun h9 => absurd h9.1 (by assumption) | exact fun h9 => absurd h9.2 (by assumption))])); all_goals (first | rfl | (rw [h0 q, show i = 40 by omega]))⟩⟩
                ·
                  have c14 : i < 40 := q_ge_f rfl (rfl : (40 : Int32) = nI 40) (by omega) (by omega) c14
                  refine x_aload_n C dX8_sheet_75 4 rfl ?_
                  refine x_get C inlX8 rfl 45 (by decide) gw_11_17 dX8_sheet_76 0 rfl rfl ?_
                  refine x_bipush C dX8_sheet_79 (v := 40) rfl ?_
                  refine x_iload_n C dX8_sheet_81 3 rfl ?_
                  refine x_imul C dX8_sheet_82 ?_
                  refine x_iload C dX8_sheet_83 0 rfl ?_
                  refine x_iadd C dX8_sheet_85 ?_
                  refine x_iconst C dX8_sheet_86 (v := 0) rfl ?_
                  refine x_iastore C 0 rfl dX8_sheet_87 ((40 * j) + i) (q_cl (q_iadd (a := 40 * j) (b := i) (q_imul (a := 40) (b := j) (rfl : (40 : Int32) = nI 40) rfl) rfl) (by omega)) (q_ix (q_iadd (a := 40 * j) (b := i) (q_imul (a := 40) (b := j) (rfl : (40 : Int32) = nI 40) rfl) rfl) (by omega) (by omega)) 3 rfl ?_
                  show X _ _ [(m, .inr (7, [.ref a_sky, .ref a_kind, .ref a_more, .ref a_strewn, .int (nI tn), .ref a_treeCell, .ref a_treeSort, .ref a_treeLeaves, .int i_raking, .long l_heaps, .int (nI tz), .ref a_tape, .int (nI wr), .int (nI lw), .ref a_code, .ref a_begins, .int i_made, .int i_at, .int i_from, .int i_sort, .int i_value, .int i_open, .ref a_stack, .ref a_dry, .ref a_wet, .ref a_covered, .ref a_hangs, .ref a_off, .int i_fell, .int i_fellToday, .int i_rotten, .int i_raked, .int i_cost, .ref a_dryGo, .ref a_wetGo, .ref a_keptSky, .int i_imaged, .int (nI itn), .int i_oldRaking, .long l_oldHeaps, .int (nI ilw), .ref a_oldSky, .ref a_oldCells, .ref a_sheetSort, .ref a_sheetSize, .ref a_items, .ref a_spare])), (a_sheetSort, .inl (cI, 4, .inl (upd ssf j t))), (a_sheetSize, .inl (cI, 4, .inl (upd szf j n))), (a_items, .inl (cI, 160, .inl (upd g ((40 * j) + i) 0)))] _ _ _
                  refine x_iinc C dX8_sheet_88 0 rfl (v := nI (i + 1)) (nI_1 _) (by decide) (lv' := [(4, .int (nI (i + 1))), (3, .int n), (2, .int t), (1, .int (nI j)), (0, .ref m)]) rfl ?_
                  show X _ _ _ _ 91 _
                  refine x_goto C dX8_sheet_91 (tgt := 68) rfl ?_
                  exact ihL68_12 (i + 1) (upd g ((40 * j) + i) 0) (by omega) (q_wipe_s h0) (by omega)
            refine x_lv C [0, 4, 3, 2, 1] (lv' := [(4, .int 0), (3, .int n), (2, .int t), (1, .int (nI j)), (0, .ref m)]) rfl ?_
            show X 0 0 [(m, .inr (7, [.ref a_sky, .ref a_kind, .ref a_more, .ref a_strewn, .int (nI tn), .ref a_treeCell, .ref a_treeSort, .ref a_treeLeaves, .int i_raking, .long l_heaps, .int (nI tz), .ref a_tape, .int (nI wr), .int (nI lw), .ref a_code, .ref a_begins, .int i_made, .int i_at, .int i_from, .int i_sort, .int i_value, .int i_open, .ref a_stack, .ref a_dry, .ref a_wet, .ref a_covered, .ref a_hangs, .ref a_off, .int i_fell, .int i_fellToday, .int i_rotten, .int i_raked, .int i_cost, .ref a_dryGo, .ref a_wetGo, .ref a_keptSky, .int i_imaged, .int (nI itn), .int i_oldRaking, .long l_oldHeaps, .int (nI ilw), .ref a_oldSky, .ref a_oldCells, .ref a_sheetSort, .ref a_sheetSize, .ref a_items, .ref a_spare])), (a_sheetSort, .inl (cI, 4, .inl (upd ssf j t))), (a_sheetSize, .inl (cI, 4, .inl (upd szf j n))), (a_items, .inl (cI, 160, .inl itf))] [(4, .int (nI 0)), (3, .int n), (2, .int t), (1, .int (nI j)), (0, .ref m)] 68 []
            exact L68_12 ((40 - 0) + 1) 0 itf (by omega) (q_wipe_0) (Nat.lt_succ_self _)
          ·
            refine x_bipush C dX8_sheet_48 (v := (-14)) rfl ?_
            refine E dX8_sheet_50 (rfl) ?_
            exact ⟨(-14), ssf, szf, itf, rfl, rfl, ⟨by (unfold o_sheet o_msheet_so o_msheet_sz); (try simp only [hnj]); (repeat (first | rw [if_pos (by first | (rw [if_pos (by decide)]; assumption) | (rw [if_neg (by decide), if_pos (by decide)]; assumption) | (rw [if_neg (by decide), if_neg (by decide)]; assumption) | assumption | decide | omega | exact o_one_t (by assumption) | (rw [o_one_f (by assumption)]; decide) | exact ⟨by assumption, by assumption⟩ | exact fun h9 => absurd h9.1 (by assumption) | exact fun h9 => absurd h9.2 (by assumption))] | rw [if_neg (by first | (rw [if_pos (by decide)]; assumption) | (rw [if_neg (by decide), if_pos (by decide)]; assumption) | (rw [if_neg (by decide), if_neg (by decide)]; assumption) | assumption | decide | omega | exact o_one_t (by assumption) | (rw [o_one_f (by assumption)]; decide) | exact ⟨by assumption, by assumption⟩ | exact fun h9 => absurd h9.1 (by assumption) | exact fun h9 => absurd h9.2 (by assumption))])); all_goals (first | rfl), fun q => by (unfold o_msheet_g); (try simp only [hnj]); (repeat (first | rw [if_pos (by first | (rw [if_pos (by decide)]; assumption) | (rw [if_neg (by decide), if_pos (by decide)]; assumption) | (rw [if_neg (by decide), if_neg (by decide)]; assumption) | assumption | decide | omega | exact o_one_t (by assumption) | (rw [o_one_f (by assumption)]; decide) | exact ⟨by assumption, by assumption⟩ | exact fun h9 => absurd h9.1 (by assumption) | exact fun h9 => absurd h9.2 (by assumption))] | rw [if_neg (by first | (rw [if_pos (by decide)]; assumption) | (rw [if_neg (by decide), if_pos (by decide)]; assumption) | (rw [if_neg (by decide), if_neg (by decide)]; assumption) | assumption | decide | omega | exact o_one_t (by assumption) | (rw [o_one_f (by assumption)]; decide) | exact ⟨by assumption, by assumption⟩ | exact fun h9 => absurd h9.1 (by assumption) | exact fun h9 => absurd h9.2 (by assumption))])); all_goals (first | rfl | (rw [h0 q, show i = 40 by omega]))⟩⟩
        ·
          refine x_bipush C dX8_sheet_41 (v := (-2)) rfl ?_
          refine E dX8_sheet_43 (rfl) ?_
          exact ⟨(-2), ssf, szf, itf, rfl, rfl, ⟨by (unfold o_sheet o_msheet_so o_msheet_sz); (try simp only [hnj]); (repeat (first | rw [if_pos (by first | (rw [if_pos (by decide)]; assumption) | (rw [if_neg (by decide), if_pos (by decide)]; assumption) | (rw [if_neg (by decide), if_neg (by decide)]; assumption) | assumption | decide | omega | exact o_one_t (by assumption) | (rw [o_one_f (by assumption)]; decide) | exact ⟨by assumption, by assumption⟩ | exact fun h9 => absurd h9.1 (by assumption) | exact fun h9 => absurd h9.2 (by assumption))] | rw [if_neg (by first | (rw [if_pos (by decide)]; assumption) | (rw [if_neg (by decide), if_pos (by decide)]; assumption) | (rw [if_neg (by decide), if_neg (by decide)]; assumption) | assumption | decide | omega | exact o_one_t (by assumption) | (rw [o_one_f (by assumption)]; decide) | exact ⟨by assumption, by assumption⟩ | exact fun h9 => absurd h9.1 (by assumption) | exact fun h9 => absurd h9.2 (by assumption))])); all_goals (first | rfl), fun q => by (unfold o_msheet_g); (try simp only [hnj]); (repeat (first | rw [if_pos (by first | (rw [if_pos (by decide)]; assumption) | (rw [if_neg (by decide), if_pos (by decide)]; assumption) | (rw [if_neg (by decide), if_neg (by decide)]; assumption) | assumption | decide | omega | exact o_one_t (by assumption) | (rw [o_one_f (by assumption)]; decide) | exact ⟨by assumption, by assumption⟩ | exact fun h9 => absurd h9.1 (by assumption) | exact fun h9 => absurd h9.2 (by assumption))] | rw [if_neg (by first | (rw [if_pos (by decide)]; assumption) | (rw [if_neg (by decide), if_pos (by decide)]; assumption) | (rw [if_neg (by decide), if_neg (by decide)]; assumption) | assumption | decide | omega | exact o_one_t (by assumption) | (rw [o_one_f (by assumption)]; decide) | exact ⟨by assumption, by assumption⟩ | exact fun h9 => absurd h9.1 (by assumption) | exact fun h9 => absurd h9.2 (by assumption))])); all_goals (first | rfl | (rw [h0 q, show i = 40 by omega]))⟩⟩
      ·
        refine x_aload_n C dX8_sheet_26 0 rfl ?_
        refine x_get C inlX8 rfl 43 (by decide) gw_11_15 dX8_sheet_27 0 rfl rfl ?_
        refine x_iload_n C dX8_sheet_30 1 rfl ?_
        refine x_iconst C dX8_sheet_31 (v := (-1)) rfl ?_
        refine x_iastore C 0 rfl dX8_sheet_32 j (q_cl rfl (by omega)) (q_ix rfl (by omega) (by omega)) 1 rfl ?_
        show X _ _ [(m, .inr (7, [.ref a_sky, .ref a_kind, .ref a_more, .ref a_strewn, .int (nI tn), .ref a_treeCell, .ref a_treeSort, .ref a_treeLeaves, .int i_raking, .long l_heaps, .int (nI tz), .ref a_tape, .int (nI wr), .int (nI lw), .ref a_code, .ref a_begins, .int i_made, .int i_at, .int i_from, .int i_sort, .int i_value, .int i_open, .ref a_stack, .ref a_dry, .ref a_wet, .ref a_covered, .ref a_hangs, .ref a_off, .int i_fell, .int i_fellToday, .int i_rotten, .int i_raked, .int i_cost, .ref a_dryGo, .ref a_wetGo, .ref a_keptSky, .int i_imaged, .int (nI itn), .int i_oldRaking, .long l_oldHeaps, .int (nI ilw), .ref a_oldSky, .ref a_oldCells, .ref a_sheetSort, .ref a_sheetSize, .ref a_items, .ref a_spare])), (a_sheetSort, .inl (cI, 4, .inl (upd ssf j (-1)))), (a_sheetSize, .inl (cI, 4, .inl szf)), (a_items, .inl (cI, 160, .inl itf))] _ _ _
        refine x_iconst C dX8_sheet_33 (v := 1) rfl ?_
        refine E dX8_sheet_34 (rfl) ?_
        exact ⟨1, (upd ssf j (-1)), szf, itf, rfl, rfl, ⟨by (unfold o_sheet o_msheet_so o_msheet_sz); (try simp only [hnj]); (repeat (first | rw [if_pos (by first | (rw [if_pos (by decide)]; assumption) | (rw [if_neg (by decide), if_pos (by decide)]; assumption) | (rw [if_neg (by decide), if_neg (by decide)]; assumption) | assumption | decide | omega | exact o_one_t (by assumption) | (rw [o_one_f (by assumption)]; decide) | exact ⟨by assumption, by assumption⟩ | exact fun h9 => absurd h9.1 (by assumption) | exact fun h9 => absurd h9.2 (by assumption))] | rw [if_neg (by first | (rw [if_pos (by decide)]; assumption) | (rw [if_neg (by decide), if_pos (by decide)]; assumption) | (rw [if_neg (by decide), if_neg (by decide)]; assumption) | assumption | decide | omega | exact o_one_t (by assumption) | (rw [o_one_f (by assumption)]; decide) | exact ⟨by assumption, by assumption⟩ | exact fun h9 => absurd h9.1 (by assumption) | exact fun h9 => absurd h9.2 (by assumption))])); all_goals (first | rfl), fun q => by (unfold o_msheet_g); (try simp only [hnj]); (repeat (first | rw [if_pos (by first | (rw [if_pos (by decide)]; assumption) | (rw [if_neg (by decide), if_pos (by decide)]; assumption) | (rw [if_neg (by decide), if_neg (by decide)]; assumption) | assumption | decide | omega | exact o_one_t (by assumption) | (rw [o_one_f (by assumption)]; decide) | exact ⟨by assumption, by assumption⟩ | exact fun h9 => absurd h9.1 (by assumption) | exact fun h9 => absurd h9.2 (by assumption))] | rw [if_neg (by first | (rw [if_pos (by decide)]; assumption) | (rw [if_neg (by decide), if_pos (by decide)]; assumption) | (rw [if_neg (by decide), if_neg (by decide)]; assumption) | assumption | decide | omega | exact o_one_t (by assumption) | (rw [o_one_f (by assumption)]; decide) | exact ⟨by assumption, by assumption⟩ | exact fun h9 => absurd h9.1 (by assumption) | exact fun h9 => absurd h9.2 (by assumption))])); all_goals (first | rfl | (rw [h0 q, show i = 40 by omega]))⟩⟩
    ·
      obtain ⟨rfl, rfl, hf15⟩ := h8
      show X 0 0 [(m, .inr (7, [.ref a_sky, .ref a_kind, .ref a_more, .ref a_strewn, .int (nI tn), .ref a_treeCell, .ref a_treeSort, .ref a_treeLeaves, .int i_raking, .long l_heaps, .int (nI tz), .ref a_tape, .int (nI wr), .int (nI lw), .ref a_code, .ref a_begins, .int i_made, .int i_at, .int i_from, .int i_sort, .int i_value, .int i_open, .ref a_stack, .ref a_dry, .ref a_wet, .ref a_covered, .ref a_hangs, .ref a_off, .int i_fell, .int i_fellToday, .int i_rotten, .int i_raked, .int i_cost, .ref a_dryGo, .ref a_wetGo, .ref a_keptSky, .int i_imaged, .int (nI itn), .int i_oldRaking, .long l_oldHeaps, .int (nI ilw), .ref a_oldSky, .ref a_oldCells, .ref a_sheetSort, .ref a_sheetSize, .ref a_items, .ref a_spare])), (a_sheetSort, .inl (cI, 4, .inl ssf)), (a_sheetSize, .inl (cI, 4, .inl szf)), (a_items, .inl (cI, 160, .inl itf))] [(0, .ref m), (1, .int (nI j)), (2, .int t), (3, .int n)] 15 [.int 0]
      refine x_if_ne C dX8_sheet_15 (tgt := 21) rfl (fun q9 => absurd q9 (by decide)) (fun _ => ?_)
      refine x_bipush C dX8_sheet_18 (v := (-2)) rfl ?_
      refine E dX8_sheet_20 (rfl) ?_
      exact ⟨(-2), ssf, szf, itf, rfl, rfl, ⟨by (unfold o_sheet o_msheet_so o_msheet_sz); (try simp only [hnj]); (repeat (first | rw [if_pos (by first | (rw [if_pos (by decide)]; assumption) | (rw [if_neg (by decide), if_pos (by decide)]; assumption) | (rw [if_neg (by decide), if_neg (by decide)]; assumption) | assumption | decide | omega | exact o_one_t (by assumption) | (rw [o_one_f (by assumption)]; decide) | exact ⟨by assumption, by assumption⟩ | exact fun h9 => absurd h9.1 (by assumption) | exact fun h9 => absurd h9.2 (by assumption))] | rw [if_neg (by first | (rw [if_pos (by decide)]; assumption) | (rw [if_neg (by decide), if_pos (by decide)]; assumption) | (rw [if_neg (by decide), if_neg (by decide)]; assumption) | assumption | decide | omega | exact o_one_t (by assumption) | (rw [o_one_f (by assumption)]; decide) | exact ⟨by assumption, by assumption⟩ | exact fun h9 => absurd h9.1 (by assumption) | exact fun h9 => absurd h9.2 (by assumption))])); all_goals (first | rfl), fun q => by (unfold o_msheet_g); (try simp only [hnj]); (repeat (first | rw [if_pos (by first | (rw [if_pos (by decide)]; assumption) | (rw [if_neg (by decide), if_pos (by decide)]; assumption) | (rw [if_neg (by decide), if_neg (by decide)]; assumption) | assumption | decide | omega | exact o_one_t (by assumption) | (rw [o_one_f (by assumption)]; decide) | exact ⟨by assumption, by assumption⟩ | exact fun h9 => absurd h9.1 (by assumption) | exact fun h9 => absurd h9.2 (by assumption))] | rw [if_neg (by first | (rw [if_pos (by decide)]; assumption) | (rw [if_neg (by decide), if_pos (by decide)]; assumption) | (rw [if_neg (by decide), if_neg (by decide)]; assumption) | assumption | decide | omega | exact o_one_t (by assumption) | (rw [o_one_f (by assumption)]; decide) | exact ⟨by assumption, by assumption⟩ | exact fun h9 => absurd h9.1 (by assumption) | exact fun h9 => absurd h9.2 (by assumption))])); all_goals (first | rfl | (rw [h0 q, show i = 40 by omega]))⟩⟩
  ·
    obtain ⟨rfl, rfl, hf16⟩ := h3
    show X 0 0 [(m, .inr (7, [.ref a_sky, .ref a_kind, .ref a_more, .ref a_strewn, .int (nI tn), .ref a_treeCell, .ref a_treeSort, .ref a_treeLeaves, .int i_raking, .long l_heaps, .int (nI tz), .ref a_tape, .int (nI wr), .int (nI lw), .ref a_code, .ref a_begins, .int i_made, .int i_at, .int i_from, .int i_sort, .int i_value, .int i_open, .ref a_stack, .ref a_dry, .ref a_wet, .ref a_covered, .ref a_hangs, .ref a_off, .int i_fell, .int i_fellToday, .int i_rotten, .int i_raked, .int i_cost, .ref a_dryGo, .ref a_wetGo, .ref a_keptSky, .int i_imaged, .int (nI itn), .int i_oldRaking, .long l_oldHeaps, .int (nI ilw), .ref a_oldSky, .ref a_oldCells, .ref a_sheetSort, .ref a_sheetSize, .ref a_items, .ref a_spare])), (a_sheetSort, .inl (cI, 4, .inl ssf)), (a_sheetSize, .inl (cI, 4, .inl szf)), (a_items, .inl (cI, 160, .inl itf))] [(0, .ref m), (1, .int s), (2, .int t), (3, .int n)] 6 [.int 0]
    refine x_if_eq C dX8_sheet_6 (tgt := 18) rfl (fun _ => ?_) (fun q9 => by first | exact absurd q9 (by decide) | exact absurd (by decide) q9)
    refine x_bipush C dX8_sheet_18 (v := (-2)) rfl ?_
    refine E dX8_sheet_20 (rfl) ?_
    exact ⟨(-2), ssf, szf, itf, rfl, rfl, ⟨by (unfold o_sheet o_msheet_so o_msheet_sz); (repeat (first | rw [if_pos (by first | (rw [if_pos (by decide)]; assumption) | (rw [if_neg (by decide), if_pos (by decide)]; assumption) | (rw [if_neg (by decide), if_neg (by decide)]; assumption) | assumption | decide | omega | exact o_one_t (by assumption) | (rw [o_one_f (by assumption)]; decide) | exact ⟨by assumption, by assumption⟩ | exact fun h9 => absurd h9.1 (by assumption) | exact fun h9 => absurd h9.2 (by assumption))] | rw [if_neg (by first | (rw [if_pos (by decide)]; assumption) | (rw [if_neg (by decide), if_pos (by decide)]; assumption) | (rw [if_neg (by decide), if_neg (by decide)]; assumption) | assumption | decide | omega | exact o_one_t (by assumption) | (rw [o_one_f (by assumption)]; decide) | exact ⟨by assumption, by assumption⟩ | exact fun h9 => absurd h9.1 (by assumption) | exact fun h9 => absurd h9.2 (by assumption))])); all_goals (first | rfl), fun q => by (unfold o_msheet_g); (repeat (first | rw [if_pos (by first | (rw [if_pos (by decide)]; assumption) | (rw [if_neg (by decide), if_pos (by decide)]; assumption) | (rw [if_neg (by decide), if_neg (by decide)]; assumption) | assumption | decide | omega | exact o_one_t (by assumption) | (rw [o_one_f (by assumption)]; decide) | exact ⟨by assumption, by assumption⟩ | exact fun h9 => absurd h9.1 (by assumption) | exact fun h9 => absurd h9.2 (by assumption))] | rw [if_neg (by first | (rw [if_pos (by decide)]; assumption) | (rw [if_neg (by decide), if_pos (by decide)]; assumption) | (rw [if_neg (by decide), if_neg (by decide)]; assumption) | assumption | decide | omega | exact o_one_t (by assumption) | (rw [o_one_f (by assumption)]; decide) | exact ⟨by assumption, by assumption⟩ | exact fun h9 => absurd h9.1 (by assumption) | exact fun h9 => absurd h9.2 (by assumption))])); all_goals (first | rfl | (rw [h0 q, show i = 40 by omega]))⟩⟩
set_option maxHeartbeats 4000000 in
set_option maxRecDepth 100000 in
theorem c_X8_cell (l : Launch) (dG : va_G) (cI cM cW cS : ClassId) (m a_sky a_kind a_more a_strewn a_treeCell a_treeSort a_treeLeaves a_tape a_code a_begins a_stack a_dry a_wet a_covered a_hangs a_off a_dryGo a_wetGo a_keptSky a_oldSky a_oldCells a_sheetSort a_sheetSize a_items a_spare : Nat) (tn tz wr lw itn ilw : Nat) (i_raking i_made i_at i_from i_sort i_value i_open i_fell i_fellToday i_rotten i_raked i_cost i_imaged i_oldRaking : Int32) (l_heaps l_oldHeaps : Int64) (ssf szf itf : Nat → Int32) (nz : Nat → Nat) (s i v : Int32) (hnz : ∀ j, j < 4 → nz j ≤ 40) : rM l yX8_cell cX8_cell 4 (some .int) ({ frames := 1, cells := 0, slots := 0, locals := 22 } : Room) dG (tY cI cM cW cS) rZ0 [.ref m, .int s, .int i, .int v] [(m, .inr (7, [.ref a_sky, .ref a_kind, .ref a_more, .ref a_strewn, .int (nI tn), .ref a_treeCell, .ref a_treeSort, .ref a_treeLeaves, .int i_raking, .long l_heaps, .int (nI tz), .ref a_tape, .int (nI wr), .int (nI lw), .ref a_code, .ref a_begins, .int i_made, .int i_at, .int i_from, .int i_sort, .int i_value, .int i_open, .ref a_stack, .ref a_dry, .ref a_wet, .ref a_covered, .ref a_hangs, .ref a_off, .int i_fell, .int i_fellToday, .int i_rotten, .int i_raked, .int i_cost, .ref a_dryGo, .ref a_wetGo, .ref a_keptSky, .int i_imaged, .int (nI itn), .int i_oldRaking, .long l_oldHeaps, .int (nI ilw), .ref a_oldSky, .ref a_oldCells, .ref a_sheetSort, .ref a_sheetSize, .ref a_items, .ref a_spare])), (a_sheetSort, .inl (cI, 4, .inl ssf)), (a_sheetSize, .inl (cI, 4, .inl (nIf nz))), (a_items, .inl (cI, 160, .inl itf))] (fun ov oz => ∃ (r : Int32) (c' : Nat → Int32), ov = some (.int r) ∧ oz = [(m, .inr (7, [.ref a_sky, .ref a_kind, .ref a_more, .ref a_strewn, .int (nI tn), .ref a_treeCell, .ref a_treeSort, .ref a_treeLeaves, .int i_raking, .long l_heaps, .int (nI tz), .ref a_tape, .int (nI wr), .int (nI lw), .ref a_code, .ref a_begins, .int i_made, .int i_at, .int i_from, .int i_sort, .int i_value, .int i_open, .ref a_stack, .ref a_dry, .ref a_wet, .ref a_covered, .ref a_hangs, .ref a_off, .int i_fell, .int i_fellToday, .int i_rotten, .int i_raked, .int i_cost, .ref a_dryGo, .ref a_wetGo, .ref a_keptSky, .int i_imaged, .int (nI itn), .int i_oldRaking, .long l_oldHeaps, .int (nI ilw), .ref a_oldSky, .ref a_oldCells, .ref a_sheetSort, .ref a_sheetSize, .ref a_items, .ref a_spare])), (a_sheetSort, .inl (cI, 4, .inl ssf)), (a_sheetSize, .inl (cI, 4, .inl (nIf nz))), (a_items, .inl (cI, 160, .inl c'))] ∧ (r, c') = (o_cell (ssf (o_n s)) (nz (o_n s)) s i v, o_mcell_g itf (ssf (o_n s)) (nz (o_n s)) s i v)) := by
  refine rM_ofI rfl (Nat.le_of_ble_eq_true rfl) rfl (fun X C E => ?_)
  show X 0 0 [(m, .inr (7, [.ref a_sky, .ref a_kind, .ref a_more, .ref a_strewn, .int (nI tn), .ref a_treeCell, .ref a_treeSort, .ref a_treeLeaves, .int i_raking, .long l_heaps, .int (nI tz), .ref a_tape, .int (nI wr), .int (nI lw), .ref a_code, .ref a_begins, .int i_made, .int i_at, .int i_from, .int i_sort, .int i_value, .int i_open, .ref a_stack, .ref a_dry, .ref a_wet, .ref a_covered, .ref a_hangs, .ref a_off, .int i_fell, .int i_fellToday, .int i_rotten, .int i_raked, .int i_cost, .ref a_dryGo, .ref a_wetGo, .ref a_keptSky, .int i_imaged, .int (nI itn), .int i_oldRaking, .long l_oldHeaps, .int (nI ilw), .ref a_oldSky, .ref a_oldCells, .ref a_sheetSort, .ref a_sheetSize, .ref a_items, .ref a_spare])), (a_sheetSort, .inl (cI, 4, .inl ssf)), (a_sheetSize, .inl (cI, 4, .inl (nIf nz))), (a_items, .inl (cI, 160, .inl itf))] [(0, .ref m), (1, .int s), (2, .int i), (3, .int v)] 0 []
  refine x_iload_n C dX8_cell_0 1 rfl ?_
  refine x_iconst C dX8_cell_1 (v := 0) rfl ?_
  refine x_iconst C dX8_cell_2 (v := 3) rfl ?_
  refine x_callS C (As := [.int s, .int 0, .int 3]) (st := []) (wc := []) (wr := [(m, .inr (7, [.ref a_sky, .ref a_kind, .ref a_more, .ref a_strewn, .int (nI tn), .ref a_treeCell, .ref a_treeSort, .ref a_treeLeaves, .int i_raking, .long l_heaps, .int (nI tz), .ref a_tape, .int (nI wr), .int (nI lw), .ref a_code, .ref a_begins, .int i_made, .int i_at, .int i_from, .int i_sort, .int i_value, .int i_open, .ref a_stack, .ref a_dry, .ref a_wet, .ref a_covered, .ref a_hangs, .ref a_off, .int i_fell, .int i_fellToday, .int i_rotten, .int i_raked, .int i_cost, .ref a_dryGo, .ref a_wetGo, .ref a_keptSky, .int i_imaged, .int (nI itn), .int i_oldRaking, .long l_oldHeaps, .int (nI ilw), .ref a_oldSky, .ref a_oldCells, .ref a_sheetSort, .ref a_sheetSize, .ref a_items, .ref a_spare])), (a_sheetSort, .inl (cI, 4, .inl ssf)), (a_sheetSize, .inl (cI, 4, .inl (nIf nz))), (a_items, .inl (cI, 160, .inl itf))]) (c_X8_within l dG cI cM cW cS s 0 3 ) rZ0_ok (fun _ _ _ _ => trivial) kS_X8_108 hy_X8_within ⟨Nat.le_of_ble_eq_true rfl, Nat.le_of_ble_eq_true rfl⟩ ⟨Nat.le_of_ble_eq_true rfl, Nat.le_of_ble_eq_true rfl⟩ dX8_cell_3 [] [0, 1, 2, 3] rfl rfl rfl rfl (by decide) rfl (Nat.le_of_ble_eq_true rfl) ?_
  intro v1 w2 h3
  rcases h3 with h3 | h3
  ·
    obtain ⟨rfl, rfl, hf4⟩ := h3
    show X 0 0 [(m, .inr (7, [.ref a_sky, .ref a_kind, .ref a_more, .ref a_strewn, .int (nI tn), .ref a_treeCell, .ref a_treeSort, .ref a_treeLeaves, .int i_raking, .long l_heaps, .int (nI tz), .ref a_tape, .int (nI wr), .int (nI lw), .ref a_code, .ref a_begins, .int i_made, .int i_at, .int i_from, .int i_sort, .int i_value, .int i_open, .ref a_stack, .ref a_dry, .ref a_wet, .ref a_covered, .ref a_hangs, .ref a_off, .int i_fell, .int i_fellToday, .int i_rotten, .int i_raked, .int i_cost, .ref a_dryGo, .ref a_wetGo, .ref a_keptSky, .int i_imaged, .int (nI itn), .int i_oldRaking, .long l_oldHeaps, .int (nI ilw), .ref a_oldSky, .ref a_oldCells, .ref a_sheetSort, .ref a_sheetSize, .ref a_items, .ref a_spare])), (a_sheetSort, .inl (cI, 4, .inl ssf)), (a_sheetSize, .inl (cI, 4, .inl (nIf nz))), (a_items, .inl (cI, 160, .inl itf))] [(0, .ref m), (1, .int s), (2, .int i), (3, .int v)] 6 [.int 1]
    have hr5 := hf4
    obtain ⟨j, hj, rfl⟩ := q_w (n := 3) rfl (by decide) hf4
    have hnj : o_n (nI j) = j := o_n_nI (by omega)
    refine x_if_ne C dX8_cell_6 (tgt := 12) rfl (fun _ => ?_) (fun q9 => by first | exact absurd q9 (by decide) | exact absurd (by decide) q9)
    refine x_aload_n C dX8_cell_12 0 rfl ?_
    refine x_get C inlX8 rfl 43 (by decide) gw_11_15 dX8_cell_13 0 rfl rfl ?_
    refine x_iload_n C dX8_cell_16 1 rfl ?_
    refine x_iaload C 0 rfl dX8_cell_17 j (q_cl rfl (by omega)) (q_ix rfl (by omega) (by omega)) 1 rfl ?_
    refine x_iconst C dX8_cell_18 (v := (-1)) rfl ?_
    refine x_icmp_ne C dX8_cell_19 (tgt := 25) rfl (fun c6 => ?_) (fun c6 => ?_)
    ·
      refine x_iload_n C dX8_cell_25 2 rfl ?_
      refine x_iconst C dX8_cell_26 (v := 0) rfl ?_
      refine x_aload_n C dX8_cell_27 0 rfl ?_
      refine x_get C inlX8 rfl 44 (by decide) gw_11_16 dX8_cell_28 0 rfl rfl ?_
      refine x_iload_n C dX8_cell_31 1 rfl ?_
      refine x_iaload C 0 rfl dX8_cell_32 j (q_cl rfl (by omega)) (q_ix rfl (by omega) (by omega)) 2 rfl ?_
      refine x_iconst C dX8_cell_33 (v := 1) rfl ?_
      refine x_isub C dX8_cell_34 ?_
      refine x_callS C (As := [.int i, .int 0, .int ((nIf nz j) - 1)]) (st := []) (wc := []) (wr := [(m, .inr (7, [.ref a_sky, .ref a_kind, .ref a_more, .ref a_strewn, .int (nI tn), .ref a_treeCell, .ref a_treeSort, .ref a_treeLeaves, .int i_raking, .long l_heaps, .int (nI tz), .ref a_tape, .int (nI wr), .int (nI lw), .ref a_code, .ref a_begins, .int i_made, .int i_at, .int i_from, .int i_sort, .int i_value, .int i_open, .ref a_stack, .ref a_dry, .ref a_wet, .ref a_covered, .ref a_hangs, .ref a_off, .int i_fell, .int i_fellToday, .int i_rotten, .int i_raked, .int i_cost, .ref a_dryGo, .ref a_wetGo, .ref a_keptSky, .int i_imaged, .int (nI itn), .int i_oldRaking, .long l_oldHeaps, .int (nI ilw), .ref a_oldSky, .ref a_oldCells, .ref a_sheetSort, .ref a_sheetSize, .ref a_items, .ref a_spare])), (a_sheetSort, .inl (cI, 4, .inl ssf)), (a_sheetSize, .inl (cI, 4, .inl (nIf nz))), (a_items, .inl (cI, 160, .inl itf))]) (c_X8_within l dG cI cM cW cS i 0 ((nIf nz j) - 1) ) rZ0_ok (fun _ _ _ _ => trivial) kS_X8_108 hy_X8_within ⟨Nat.le_of_ble_eq_true rfl, Nat.le_of_ble_eq_true rfl⟩ ⟨Nat.le_of_ble_eq_true rfl, Nat.le_of_ble_eq_true rfl⟩ dX8_cell_35 [] [0, 1, 2, 3] rfl rfl rfl rfl (by decide) rfl (Nat.le_of_ble_eq_true rfl) ?_
      intro v7 w8 h9
      rcases h9 with h9 | h9
      ·
        obtain ⟨rfl, rfl, hf10⟩ := h9
        show X 0 0 [(m, .inr (7, [.ref a_sky, .ref a_kind, .ref a_more, .ref a_strewn, .int (nI tn), .ref a_treeCell, .ref a_treeSort, .ref a_treeLeaves, .int i_raking, .long l_heaps, .int (nI tz), .ref a_tape, .int (nI wr), .int (nI lw), .ref a_code, .ref a_begins, .int i_made, .int i_at, .int i_from, .int i_sort, .int i_value, .int i_open, .ref a_stack, .ref a_dry, .ref a_wet, .ref a_covered, .ref a_hangs, .ref a_off, .int i_fell, .int i_fellToday, .int i_rotten, .int i_raked, .int i_cost, .ref a_dryGo, .ref a_wetGo, .ref a_keptSky, .int i_imaged, .int (nI itn), .int i_oldRaking, .long l_oldHeaps, .int (nI ilw), .ref a_oldSky, .ref a_oldCells, .ref a_sheetSort, .ref a_sheetSize, .ref a_items, .ref a_spare])), (a_sheetSort, .inl (cI, 4, .inl ssf)), (a_sheetSize, .inl (cI, 4, .inl (nIf nz))), (a_items, .inl (cI, 160, .inl itf))] [(0, .ref m), (1, .int (nI j)), (2, .int i), (3, .int v)] 38 [.int 1]
        have hr9 := hf10
        have hz9 := hnz j (by omega)
        obtain ⟨y, hy, rfl⟩ := q_size hz9 hf10
        have hny : o_n (nI y) = y := o_n_nI (by omega)
        refine x_if_ne C dX8_cell_38 (tgt := 44) rfl (fun _ => ?_) (fun q9 => by first | exact absurd q9 (by decide) | exact absurd (by decide) q9)
        refine x_aload_n C dX8_cell_44 0 rfl ?_
        refine x_get C inlX8 rfl 45 (by decide) gw_11_17 dX8_cell_45 0 rfl rfl ?_
        refine x_bipush C dX8_cell_48 (v := 40) rfl ?_
        refine x_iload_n C dX8_cell_50 1 rfl ?_
        refine x_imul C dX8_cell_51 ?_
        refine x_iload_n C dX8_cell_52 2 rfl ?_
        refine x_iadd C dX8_cell_53 ?_
        refine x_aload_n C dX8_cell_54 0 rfl ?_
        refine x_get C inlX8 rfl 43 (by decide) gw_11_15 dX8_cell_55 0 rfl rfl ?_
        show X _ _ _ _ 58 _
        refine x_iload_n C dX8_cell_58 1 rfl ?_
        refine x_iaload C 0 rfl dX8_cell_59 j (q_cl rfl (by omega)) (q_ix rfl (by omega) (by omega)) 1 rfl ?_
        refine x_if_ne C dX8_cell_60 (tgt := 68) rfl (fun c11 => ?_) (fun c11 => ?_)
        ·
          refine x_aload_n C dX8_cell_68 0 rfl ?_
          refine x_get C inlX8 rfl 43 (by decide) gw_11_15 dX8_cell_69 0 rfl rfl ?_
          refine x_iload_n C dX8_cell_72 1 rfl ?_
          refine x_iaload C 0 rfl dX8_cell_73 j (q_cl rfl (by omega)) (q_ix rfl (by omega) (by omega)) 1 rfl ?_
          refine x_iconst C dX8_cell_74 (v := 1) rfl ?_
          refine x_icmp_ne C dX8_cell_75 (tgt := 83) rfl (fun c12 => ?_) (fun c12 => ?_)
          ·
            refine x_iload_n C dX8_cell_83 3 rfl ?_
            refine x_iastore C 0 rfl dX8_cell_84 ((40 * j) + y) (q_cl (q_iadd (a := 40 * j) (b := y) (q_imul (a := 40) (b := j) (rfl : (40 : Int32) = nI 40) rfl) rfl) (by omega)) (q_ix (q_iadd (a := 40 * j) (b := y) (q_imul (a := 40) (b := j) (rfl : (40 : Int32) = nI 40) rfl) rfl) (by omega) (by omega)) 3 rfl ?_
            show X _ _ [(m, .inr (7, [.ref a_sky, .ref a_kind, .ref a_more, .ref a_strewn, .int (nI tn), .ref a_treeCell, .ref a_treeSort, .ref a_treeLeaves, .int i_raking, .long l_heaps, .int (nI tz), .ref a_tape, .int (nI wr), .int (nI lw), .ref a_code, .ref a_begins, .int i_made, .int i_at, .int i_from, .int i_sort, .int i_value, .int i_open, .ref a_stack, .ref a_dry, .ref a_wet, .ref a_covered, .ref a_hangs, .ref a_off, .int i_fell, .int i_fellToday, .int i_rotten, .int i_raked, .int i_cost, .ref a_dryGo, .ref a_wetGo, .ref a_keptSky, .int i_imaged, .int (nI itn), .int i_oldRaking, .long l_oldHeaps, .int (nI ilw), .ref a_oldSky, .ref a_oldCells, .ref a_sheetSort, .ref a_sheetSize, .ref a_items, .ref a_spare])), (a_sheetSort, .inl (cI, 4, .inl ssf)), (a_sheetSize, .inl (cI, 4, .inl (nIf nz))), (a_items, .inl (cI, 160, .inl (upd itf ((40 * j) + y) v)))] _ _ _
            refine x_iconst C dX8_cell_85 (v := 1) rfl ?_
            refine E dX8_cell_86 (rfl) ?_
            exact ⟨1, (upd itf ((40 * j) + y) v), rfl, rfl, by (unfold o_cell o_mcell_g s_cut); (try simp only [hnj, hny]); (repeat (first | rw [if_pos (by first | (rw [if_pos (by decide)]; assumption) | (rw [if_neg (by decide), if_pos (by decide)]; assumption) | (rw [if_neg (by decide), if_neg (by decide)]; assumption) | assumption | decide | omega | exact o_one_t (by assumption) | (rw [o_one_f (by assumption)]; decide) | exact ⟨by assumption, by assumption⟩ | exact fun h9 => absurd h9.1 (by assumption) | exact fun h9 => absurd h9.2 (by assumption))] | rw [if_neg (by first | (rw [if_pos (by decide)]; assumption) | (rw [if_neg (by decide), if_pos (by decide)]; assumption) | (rw [if_neg (by decide), if_neg (by decide)]; assumption) | assumption | decide | omega | exact o_one_t (by assumption) | (rw [o_one_f (by assumption)]; decide) | exact ⟨by assumption, by assumption⟩ | exact fun h9 => absurd h9.1 (by assumption) | exact fun h9 => absurd h9.2 (by assumption))])); all_goals (first | rfl)⟩
          ·
            refine x_iload_n C dX8_cell_78 3 rfl ?_
            refine x_i2s C dX8_cell_79 ?_
            refine x_goto C dX8_cell_80 (tgt := 84) rfl ?_
            refine x_iastore C 0 rfl dX8_cell_84 ((40 * j) + y) (q_cl (q_iadd (a := 40 * j) (b := y) (q_imul (a := 40) (b := j) (rfl : (40 : Int32) = nI 40) rfl) rfl) (by omega)) (q_ix (q_iadd (a := 40 * j) (b := y) (q_imul (a := 40) (b := j) (rfl : (40 : Int32) = nI 40) rfl) rfl) (by omega) (by omega)) 3 rfl ?_
            show X _ _ [(m, .inr (7, [.ref a_sky, .ref a_kind, .ref a_more, .ref a_strewn, .int (nI tn), .ref a_treeCell, .ref a_treeSort, .ref a_treeLeaves, .int i_raking, .long l_heaps, .int (nI tz), .ref a_tape, .int (nI wr), .int (nI lw), .ref a_code, .ref a_begins, .int i_made, .int i_at, .int i_from, .int i_sort, .int i_value, .int i_open, .ref a_stack, .ref a_dry, .ref a_wet, .ref a_covered, .ref a_hangs, .ref a_off, .int i_fell, .int i_fellToday, .int i_rotten, .int i_raked, .int i_cost, .ref a_dryGo, .ref a_wetGo, .ref a_keptSky, .int i_imaged, .int (nI itn), .int i_oldRaking, .long l_oldHeaps, .int (nI ilw), .ref a_oldSky, .ref a_oldCells, .ref a_sheetSort, .ref a_sheetSize, .ref a_items, .ref a_spare])), (a_sheetSort, .inl (cI, 4, .inl ssf)), (a_sheetSize, .inl (cI, 4, .inl (nIf nz))), (a_items, .inl (cI, 160, .inl (upd itf ((40 * j) + y) v.toInt16.toInt32)))] _ _ _
            refine x_iconst C dX8_cell_85 (v := 1) rfl ?_
            refine E dX8_cell_86 (rfl) ?_
            exact ⟨1, (upd itf ((40 * j) + y) v.toInt16.toInt32), rfl, rfl, by (unfold o_cell o_mcell_g s_cut); (try simp only [hnj, hny]); (repeat (first | rw [if_pos (by first | (rw [if_pos (by decide)]; assumption) | (rw [if_neg (by decide), if_pos (by decide)]; assumption) | (rw [if_neg (by decide), if_neg (by decide)]; assumption) | assumption | decide | omega | exact o_one_t (by assumption) | (rw [o_one_f (by assumption)]; decide) | exact ⟨by assumption, by assumption⟩ | exact fun h9 => absurd h9.1 (by assumption) | exact fun h9 => absurd h9.2 (by assumption))] | rw [if_neg (by first | (rw [if_pos (by decide)]; assumption) | (rw [if_neg (by decide), if_pos (by decide)]; assumption) | (rw [if_neg (by decide), if_neg (by decide)]; assumption) | assumption | decide | omega | exact o_one_t (by assumption) | (rw [o_one_f (by assumption)]; decide) | exact ⟨by assumption, by assumption⟩ | exact fun h9 => absurd h9.1 (by assumption) | exact fun h9 => absurd h9.2 (by assumption))])); all_goals (first | rfl)⟩
        ·
          refine x_iload_n C dX8_cell_63 3 rfl ?_
          refine x_i2b C dX8_cell_64 ?_
          refine x_goto C dX8_cell_65 (tgt := 84) rfl ?_
          refine x_iastore C 0 rfl dX8_cell_84 ((40 * j) + y) (q_cl (q_iadd (a := 40 * j) (b := y) (q_imul (a := 40) (b := j) (rfl : (40 : Int32) = nI 40) rfl) rfl) (by omega)) (q_ix (q_iadd (a := 40 * j) (b := y) (q_imul (a := 40) (b := j) (rfl : (40 : Int32) = nI 40) rfl) rfl) (by omega) (by omega)) 3 rfl ?_
          show X _ _ [(m, .inr (7, [.ref a_sky, .ref a_kind, .ref a_more, .ref a_strewn, .int (nI tn), .ref a_treeCell, .ref a_treeSort, .ref a_treeLeaves, .int i_raking, .long l_heaps, .int (nI tz), .ref a_tape, .int (nI wr), .int (nI lw), .ref a_code, .ref a_begins, .int i_made, .int i_at, .int i_from, .int i_sort, .int i_value, .int i_open, .ref a_stack, .ref a_dry, .ref a_wet, .ref a_covered, .ref a_hangs, .ref a_off, .int i_fell, .int i_fellToday, .int i_rotten, .int i_raked, .int i_cost, .ref a_dryGo, .ref a_wetGo, .ref a_keptSky, .int i_imaged, .int (nI itn), .int i_oldRaking, .long l_oldHeaps, .int (nI ilw), .ref a_oldSky, .ref a_oldCells, .ref a_sheetSort, .ref a_sheetSize, .ref a_items, .ref a_spare])), (a_sheetSort, .inl (cI, 4, .inl ssf)), (a_sheetSize, .inl (cI, 4, .inl (nIf nz))), (a_items, .inl (cI, 160, .inl (upd itf ((40 * j) + y) v.toInt8.toInt32)))] _ _ _
          refine x_iconst C dX8_cell_85 (v := 1) rfl ?_
          refine E dX8_cell_86 (rfl) ?_
          exact ⟨1, (upd itf ((40 * j) + y) v.toInt8.toInt32), rfl, rfl, by (unfold o_cell o_mcell_g s_cut); (try simp only [hnj, hny]); (repeat (first | rw [if_pos (by first | (rw [if_pos (by decide)]; assumption) | (rw [if_neg (by decide), if_pos (by decide)]; assumption) | (rw [if_neg (by decide), if_neg (by decide)]; assumption) | assumption | decide | omega | exact o_one_t (by assumption) | (rw [o_one_f (by assumption)]; decide) | exact ⟨by assumption, by assumption⟩ | exact fun h9 => absurd h9.1 (by assumption) | exact fun h9 => absurd h9.2 (by assumption))] | rw [if_neg (by first | (rw [if_pos (by decide)]; assumption) | (rw [if_neg (by decide), if_pos (by decide)]; assumption) | (rw [if_neg (by decide), if_neg (by decide)]; assumption) | assumption | decide | omega | exact o_one_t (by assumption) | (rw [o_one_f (by assumption)]; decide) | exact ⟨by assumption, by assumption⟩ | exact fun h9 => absurd h9.1 (by assumption) | exact fun h9 => absurd h9.2 (by assumption))])); all_goals (first | rfl)⟩
      ·
        obtain ⟨rfl, rfl, hf13⟩ := h9
        show X 0 0 [(m, .inr (7, [.ref a_sky, .ref a_kind, .ref a_more, .ref a_strewn, .int (nI tn), .ref a_treeCell, .ref a_treeSort, .ref a_treeLeaves, .int i_raking, .long l_heaps, .int (nI tz), .ref a_tape, .int (nI wr), .int (nI lw), .ref a_code, .ref a_begins, .int i_made, .int i_at, .int i_from, .int i_sort, .int i_value, .int i_open, .ref a_stack, .ref a_dry, .ref a_wet, .ref a_covered, .ref a_hangs, .ref a_off, .int i_fell, .int i_fellToday, .int i_rotten, .int i_raked, .int i_cost, .ref a_dryGo, .ref a_wetGo, .ref a_keptSky, .int i_imaged, .int (nI itn), .int i_oldRaking, .long l_oldHeaps, .int (nI ilw), .ref a_oldSky, .ref a_oldCells, .ref a_sheetSort, .ref a_sheetSize, .ref a_items, .ref a_spare])), (a_sheetSort, .inl (cI, 4, .inl ssf)), (a_sheetSize, .inl (cI, 4, .inl (nIf nz))), (a_items, .inl (cI, 160, .inl itf))] [(0, .ref m), (1, .int (nI j)), (2, .int i), (3, .int v)] 38 [.int 0]
        refine x_if_ne C dX8_cell_38 (tgt := 44) rfl (fun q9 => absurd q9 (by decide)) (fun _ => ?_)
        refine x_bipush C dX8_cell_41 (v := (-12)) rfl ?_
        refine E dX8_cell_43 (rfl) ?_
        exact ⟨(-12), itf, rfl, rfl, by (unfold o_cell o_mcell_g s_cut); (try simp only [hnj]); (repeat (first | rw [if_pos (by first | (rw [if_pos (by decide)]; assumption) | (rw [if_neg (by decide), if_pos (by decide)]; assumption) | (rw [if_neg (by decide), if_neg (by decide)]; assumption) | assumption | decide | omega | exact o_one_t (by assumption) | (rw [o_one_f (by assumption)]; decide) | exact ⟨by assumption, by assumption⟩ | exact fun h9 => absurd h9.1 (by assumption) | exact fun h9 => absurd h9.2 (by assumption))] | rw [if_neg (by first | (rw [if_pos (by decide)]; assumption) | (rw [if_neg (by decide), if_pos (by decide)]; assumption) | (rw [if_neg (by decide), if_neg (by decide)]; assumption) | assumption | decide | omega | exact o_one_t (by assumption) | (rw [o_one_f (by assumption)]; decide) | exact ⟨by assumption, by assumption⟩ | exact fun h9 => absurd h9.1 (by assumption) | exact fun h9 => absurd h9.2 (by assumption))])); all_goals (first | rfl)⟩
    ·
      refine x_bipush C dX8_cell_22 (v := (-11)) rfl ?_
      refine E dX8_cell_24 (rfl) ?_
      exact ⟨(-11), itf, rfl, rfl, by (unfold o_cell o_mcell_g s_cut); (try simp only [hnj]); (repeat (first | rw [if_pos (by first | (rw [if_pos (by decide)]; assumption) | (rw [if_neg (by decide), if_pos (by decide)]; assumption) | (rw [if_neg (by decide), if_neg (by decide)]; assumption) | assumption | decide | omega | exact o_one_t (by assumption) | (rw [o_one_f (by assumption)]; decide) | exact ⟨by assumption, by assumption⟩ | exact fun h9 => absurd h9.1 (by assumption) | exact fun h9 => absurd h9.2 (by assumption))] | rw [if_neg (by first | (rw [if_pos (by decide)]; assumption) | (rw [if_neg (by decide), if_pos (by decide)]; assumption) | (rw [if_neg (by decide), if_neg (by decide)]; assumption) | assumption | decide | omega | exact o_one_t (by assumption) | (rw [o_one_f (by assumption)]; decide) | exact ⟨by assumption, by assumption⟩ | exact fun h9 => absurd h9.1 (by assumption) | exact fun h9 => absurd h9.2 (by assumption))])); all_goals (first | rfl)⟩
  ·
    obtain ⟨rfl, rfl, hf14⟩ := h3
    show X 0 0 [(m, .inr (7, [.ref a_sky, .ref a_kind, .ref a_more, .ref a_strewn, .int (nI tn), .ref a_treeCell, .ref a_treeSort, .ref a_treeLeaves, .int i_raking, .long l_heaps, .int (nI tz), .ref a_tape, .int (nI wr), .int (nI lw), .ref a_code, .ref a_begins, .int i_made, .int i_at, .int i_from, .int i_sort, .int i_value, .int i_open, .ref a_stack, .ref a_dry, .ref a_wet, .ref a_covered, .ref a_hangs, .ref a_off, .int i_fell, .int i_fellToday, .int i_rotten, .int i_raked, .int i_cost, .ref a_dryGo, .ref a_wetGo, .ref a_keptSky, .int i_imaged, .int (nI itn), .int i_oldRaking, .long l_oldHeaps, .int (nI ilw), .ref a_oldSky, .ref a_oldCells, .ref a_sheetSort, .ref a_sheetSize, .ref a_items, .ref a_spare])), (a_sheetSort, .inl (cI, 4, .inl ssf)), (a_sheetSize, .inl (cI, 4, .inl (nIf nz))), (a_items, .inl (cI, 160, .inl itf))] [(0, .ref m), (1, .int s), (2, .int i), (3, .int v)] 6 [.int 0]
    refine x_if_ne C dX8_cell_6 (tgt := 12) rfl (fun q9 => absurd q9 (by decide)) (fun _ => ?_)
    refine x_bipush C dX8_cell_9 (v := (-2)) rfl ?_
    refine E dX8_cell_11 (rfl) ?_
    exact ⟨(-2), itf, rfl, rfl, by (unfold o_cell o_mcell_g s_cut); (repeat (first | rw [if_pos (by first | (rw [if_pos (by decide)]; assumption) | (rw [if_neg (by decide), if_pos (by decide)]; assumption) | (rw [if_neg (by decide), if_neg (by decide)]; assumption) | assumption | decide | omega | exact o_one_t (by assumption) | (rw [o_one_f (by assumption)]; decide) | exact ⟨by assumption, by assumption⟩ | exact fun h9 => absurd h9.1 (by assumption) | exact fun h9 => absurd h9.2 (by assumption))] | rw [if_neg (by first | (rw [if_pos (by decide)]; assumption) | (rw [if_neg (by decide), if_pos (by decide)]; assumption) | (rw [if_neg (by decide), if_neg (by decide)]; assumption) | assumption | decide | omega | exact o_one_t (by assumption) | (rw [o_one_f (by assumption)]; decide) | exact ⟨by assumption, by assumption⟩ | exact fun h9 => absurd h9.1 (by assumption) | exact fun h9 => absurd h9.2 (by assumption))])); all_goals (first | rfl)⟩
