theorem kV_X7_80 : GoodIn GW (wsV RX7 80 yX5_read.cls yX5_read (Cond.code yX5_read cX5_read 3 (some .int) :: GW)) := r_gV gw_6_19 gw_6_20 gw_6_21 gw_2_5 gw_6_22
theorem hy_X5_read : yX5_read.cls ≠ "java/lang/invoke/MethodHandle" ∧ yX5_read.cls ≠ "java/lang/invoke/VarHandle" ∧ (parseMethodDescriptor yX5_read.desc).map (fun d => d.parameters.length) = some 1 := ⟨by decide +kernel, by decide +kernel, by decide +kernel⟩
set_option maxHeartbeats 4000000 in
set_option maxRecDepth 100000 in
theorem c_X7_text (l : Launch) (dG : va_G) (cI cM cW cS : ClassId) (adK adV : Nat → Nat) (fm : Option Nat) (x tw pw uw o hh rd bk pl asd fd : Nat) (wr : Nat) (hi9 : Int32) (rta rl0 n q qc qs qe : Nat) (tp : Nat → Int32) (rat rtk rpl rva rfa sz : Int32) (cd en : Nat → Int32) (bkf : Nat → Option Nat) (hn : n ≤ 160) (hwr6 : wr ≤ 6) (hbk0 : wr < 6 → bkf wr = some q) : rM l yX7_text cX7_text 2 (some .int) ({ frames := 44, cells := 0, slots := 0, locals := 965 } : Room) dG (tY cI cM cW cS) (rZs adK adV fm) [.ref x] [(x, .inr (6, [.ref tw, .ref pw, .ref uw, .ref o, .ref hh, .ref rd, .ref bk, .ref pl, .ref asd, .ref fd, .int (nI wr), .int hi9])), (bk, .inl (cW, 6, .inr (.inr (.inr (.inr bkf))))), (rd, .inr (4, [.ref rta, .int (nI n), .int rat, .int rtk, .int rpl, .int rva, .int rfa, .ref rl0])), (rta, .inl (cI, 160, .inl tp)), (q, .inr (2, [.ref qc, .ref qs, .ref qe, .int sz])), (qc, .inl (cI, 160, .inl cd)), (qe, .inl (cI, 3, .inl en))] (fun ov oz => (ov = some (.int (-4)) ∧ oz = [(x, .inr (6, [.ref tw, .ref pw, .ref uw, .ref o, .ref hh, .ref rd, .ref bk, .ref pl, .ref asd, .ref fd, .int (nI wr), .int hi9])), (bk, .inl (cW, 6, .inr (.inr (.inr (.inr bkf))))), (rd, .inr (4, [.ref rta, .int (nI n), .int rat, .int rtk, .int rpl, .int rva, .int rfa, .ref rl0])), (rta, .inl (cI, 160, .inl tp)), (q, .inr (2, [.ref qc, .ref qs, .ref qe, .int sz])), (qc, .inl (cI, 160, .inl cd)), (qe, .inl (cI, 3, .inl en))] ∧ 6 ≤ wr) ∨ (∃ (rat' : Int32) (rtk' : Int32) (rpl' : Int32) (rva' : Int32) (rfa' : Int32) (sz' : Int32) (cd' : Nat → Int32) (en' : Nat → Int32) (f' : Nat), ov = some (.int (-100 - nI f')) ∧ oz = [(x, .inr (6, [.ref tw, .ref pw, .ref uw, .ref o, .ref hh, .ref rd, .ref bk, .ref pl, .ref asd, .ref fd, .int (nI wr), .int hi9])), (bk, .inl (cW, 6, .inr (.inr (.inr (.inr bkf))))), (rd, .inr (4, [.ref rta, .int (nI 0), .int rat', .int rtk', .int rpl', .int rva', .int rfa', .ref q])), (rta, .inl (cI, 160, .inl tp)), (q, .inr (2, [.ref qc, .ref qs, .ref qe, .int sz'])), (qc, .inl (cI, 160, .inl cd')), (qe, .inl (cI, 3, .inl en'))] ∧ wr < 6 ∧ (p_txt tp n).1 = false ∧ f' = p_pl tp n (p_txt tp n).2.1) ∨ (∃ (rat' : Int32) (rtk' : Int32) (rpl' : Int32) (rva' : Int32) (rfa' : Int32) (sz' : Int32) (cd' : Nat → Int32) (en' : Nat → Int32), ov = some (.int (nI wr)) ∧ oz = [(x, .inr (6, [.ref tw, .ref pw, .ref uw, .ref o, .ref hh, .ref rd, .ref bk, .ref pl, .ref asd, .ref fd, .int (nI (wr + 1)), .int hi9])), (bk, .inl (cW, 6, .inr (.inr (.inr (.inr bkf))))), (rd, .inr (4, [.ref rta, .int (nI 0), .int rat', .int rtk', .int rpl', .int rva', .int rfa', .ref q])), (rta, .inl (cI, 160, .inl tp)), (q, .inr (2, [.ref qc, .ref qs, .ref qe, .int sz'])), (qc, .inl (cI, 160, .inl cd')), (qe, .inl (cI, 3, .inl en'))] ∧ wr < 6 ∧ (p_txt tp n).1 = true ∧ s_law cd' en' (p_txt tp n).2.2 ∧ s_ok (p_txt tp n).2.2)) := by
  refine rM_ofI rfl (Nat.le_of_ble_eq_true rfl) rfl (fun X C E => ?_)
  show X 0 0 [(x, .inr (6, [.ref tw, .ref pw, .ref uw, .ref o, .ref hh, .ref rd, .ref bk, .ref pl, .ref asd, .ref fd, .int (nI wr), .int hi9])), (bk, .inl (cW, 6, .inr (.inr (.inr (.inr bkf))))), (rd, .inr (4, [.ref rta, .int (nI n), .int rat, .int rtk, .int rpl, .int rva, .int rfa, .ref rl0])), (rta, .inl (cI, 160, .inl tp)), (q, .inr (2, [.ref qc, .ref qs, .ref qe, .int sz])), (qc, .inl (cI, 160, .inl cd)), (qe, .inl (cI, 3, .inl en))] [(0, .ref x)] 0 []
  refine x_aload_n C dX7_text_0 0 rfl ?_
  refine x_get C inlX7 rfl 10 (by decide) gw_2_18 dX7_text_1 0 rfl rfl ?_
  refine x_bipush C dX7_text_4 (v := 6) rfl ?_
  refine x_icmp_lt C dX7_text_6 (tgt := 12) rfl (fun c1 => ?_) (fun c1 => ?_)
  ·
    have hw6 : wr < 6 := q_lt_t (a := wr) (b := 6) rfl rfl (by omega) (by decide) c1
    have hbk := hbk0 hw6
    refine x_aload_n C dX7_text_12 0 rfl ?_
    refine x_get C inlX7 rfl 5 (by decide) gw_2_6 dX7_text_13 0 rfl rfl ?_
    refine x_aload_n C dX7_text_16 0 rfl ?_
    refine x_get C inlX7 rfl 6 (by decide) gw_2_8 dX7_text_17 0 rfl rfl ?_
    refine x_aload_n C dX7_text_20 0 rfl ?_
    refine x_get C inlX7 rfl 10 (by decide) gw_2_18 dX7_text_21 0 rfl rfl ?_
    refine x_aaload C 2 rfl dX7_text_24 wr (q_cl rfl (by omega)) (q_ix rfl (by omega) (by omega)) 1 rfl hbk ?_
    refine x_callV C (As := [.ref q]) (st := []) (wc := [(rd, .inr (4, [.ref rta, .int (nI n), .int rat, .int rtk, .int rpl, .int rva, .int rfa, .ref rl0])), (rta, .inl (cI, 160, .inl tp)), (q, .inr (2, [.ref qc, .ref qs, .ref qe, .int sz])), (qc, .inl (cI, 160, .inl cd)), (qe, .inl (cI, 3, .inl en))]) (wr := [(x, .inr (6, [.ref tw, .ref pw, .ref uw, .ref o, .ref hh, .ref rd, .ref bk, .ref pl, .ref asd, .ref fd, .int (nI wr), .int hi9])), (bk, .inl (cW, 6, .inr (.inr (.inr (.inr bkf)))))]) (c_X5_read l dG cI cM cW cS adK adV fm rd rta rl0 n q qc qs qe tp rat rtk rpl rva rfa sz cd en (hn)) (rZs_ok adK adV fm) (fun _ _ _ h9 => h9) kV_X7_80 ⟨rfl, hy_X5_read⟩ ⟨Nat.le_of_ble_eq_true rfl, Nat.le_of_ble_eq_true rfl⟩ ⟨Nat.le_of_ble_eq_true rfl, Nat.le_of_ble_eq_true rfl⟩ dX7_text_25 2 rfl rfl [2, 3, 4, 5, 6] [0, 1] rfl rfl rfl rfl (by decide) rfl (Nat.le_of_ble_eq_true rfl) ?_
    intro v2 w3 h4
    rcases h4 with h4 | h4
    ·
      obtain ⟨rat_5, rtk_6, rpl_7, rva_8, rfa_9, sz_10, cd_11, en_12, rfl, rfl, hf13⟩ := h4
      show X 0 0 [(x, .inr (6, [.ref tw, .ref pw, .ref uw, .ref o, .ref hh, .ref rd, .ref bk, .ref pl, .ref asd, .ref fd, .int (nI wr), .int hi9])), (bk, .inl (cW, 6, .inr (.inr (.inr (.inr bkf))))), (rd, .inr (4, [.ref rta, .int (nI 0), .int rat_5, .int rtk_6, .int rpl_7, .int rva_8, .int rfa_9, .ref q])), (rta, .inl (cI, 160, .inl tp)), (q, .inr (2, [.ref qc, .ref qs, .ref qe, .int sz_10])), (qc, .inl (cI, 160, .inl cd_11)), (qe, .inl (cI, 3, .inl en_12))] [(0, .ref x)] 28 [.int (-1)]
      refine x_istore_n C dX7_text_28 (by decide) (lv' := [(1, .int (-1)), (0, .ref x)]) rfl ?_
      refine x_iload_n C dX7_text_29 0 rfl ?_
      refine x_if_lt C dX7_text_30 (tgt := 38) rfl (fun _ => ?_) (fun q9 => by first | exact absurd q9 (by decide) | exact absurd (by decide) q9)
      refine x_aload_n C dX7_text_38 1 rfl ?_
      refine x_dup C dX7_text_39 rfl ?_
      refine x_get C inlX7 rfl 10 (by decide) gw_2_18 dX7_text_40 0 rfl rfl ?_
      refine x_iconst C dX7_text_43 (v := 1) rfl ?_
      refine x_iadd C dX7_text_44 ?_
      refine x_topi C (nI (wr + 1)) (q_iadd (a := wr) (b := 1) rfl (rfl : (1 : Int32) = nI 1)) ?_
      refine x_put C inlX7 rfl tyX7 tyX7_ok nmX7 10 (by decide) gw_2_18 rfl dX7_text_45 0 rfl (rfl) rfl (Nat.le_of_ble_eq_true rfl) ?_
      show X _ _ [(x, .inr (6, [.ref tw, .ref pw, .ref uw, .ref o, .ref hh, .ref rd, .ref bk, .ref pl, .ref asd, .ref fd, .int (nI (wr + 1)), .int hi9])), (bk, .inl (cW, 6, .inr (.inr (.inr (.inr bkf))))), (rd, .inr (4, [.ref rta, .int (nI 0), .int rat_5, .int rtk_6, .int rpl_7, .int rva_8, .int rfa_9, .ref q])), (rta, .inl (cI, 160, .inl tp)), (q, .inr (2, [.ref qc, .ref qs, .ref qe, .int sz_10])), (qc, .inl (cI, 160, .inl cd_11)), (qe, .inl (cI, 3, .inl en_12))] _ _ _
      refine x_aload_n C dX7_text_48 1 rfl ?_
      show X _ _ _ _ 49 _
      refine x_get C inlX7 rfl 10 (by decide) gw_2_18 dX7_text_49 0 rfl rfl ?_
      refine x_iconst C dX7_text_52 (v := 1) rfl ?_
      refine x_isub C dX7_text_53 ?_
      refine x_topi C (nI wr) ((q_isub (a := wr + 1) (b := 1) rfl rfl (by omega)).trans (congrArg nI (by omega))) ?_
      refine E dX7_text_54 (rfl) ?_
      exact Or.inr (Or.inr (⟨rat_5, rtk_6, rpl_7, rva_8, rfa_9, sz_10, cd_11, en_12, rfl, rfl, ⟨hw6, hf13⟩⟩))
    ·
      obtain ⟨rat_14, rtk_15, rpl_16, rva_17, rfa_18, sz_19, cd_20, en_21, f_22, rfl, rfl, hf23⟩ := h4
      show X 0 0 [(x, .inr (6, [.ref tw, .ref pw, .ref uw, .ref o, .ref hh, .ref rd, .ref bk, .ref pl, .ref asd, .ref fd, .int (nI wr), .int hi9])), (bk, .inl (cW, 6, .inr (.inr (.inr (.inr bkf))))), (rd, .inr (4, [.ref rta, .int (nI 0), .int rat_14, .int rtk_15, .int rpl_16, .int rva_17, .int rfa_18, .ref q])), (rta, .inl (cI, 160, .inl tp)), (q, .inr (2, [.ref qc, .ref qs, .ref qe, .int sz_19])), (qc, .inl (cI, 160, .inl cd_20)), (qe, .inl (cI, 3, .inl en_21))] [(0, .ref x)] 28 [.int (nI f_22)]
      have hfb9 := hf23.2.2
      refine x_istore_n C dX7_text_28 (by decide) (lv' := [(1, .int (nI f_22)), (0, .ref x)]) rfl ?_
      refine x_iload_n C dX7_text_29 0 rfl ?_
      refine x_if_lt C dX7_text_30 (tgt := 38) rfl (fun c24 => ?_) (fun c24 => ?_)
      ·
        have c24 : f_22 < 0 := q_lt_t rfl (rfl : (0 : Int32) = nI 0) (by omega) (by omega) c24
        exfalso; omega
      ·
        have c24 : f_22 ≥ 0 := q_lt_f rfl (rfl : (0 : Int32) = nI 0) (by omega) (by omega) c24
        refine x_bipush C dX7_text_33 (v := (-100)) rfl ?_
        refine x_iload_n C dX7_text_35 0 rfl ?_
        refine x_isub C dX7_text_36 ?_
        refine E dX7_text_37 (rfl) ?_
        exact Or.inr (Or.inl ⟨rat_14, rtk_15, rpl_16, rva_17, rfa_18, sz_19, cd_20, en_21, f_22, rfl, rfl, ⟨hw6, hf23.1, hf23.2.1⟩⟩)
  ·
    have hw6 : 6 ≤ wr := q_lt_f (a := wr) (b := 6) rfl rfl (by omega) (by decide) c1
    refine x_bipush C dX7_text_9 (v := (-4)) rfl ?_
    refine E dX7_text_11 (rfl) ?_
    exact Or.inl ⟨rfl, rfl, hw6⟩
