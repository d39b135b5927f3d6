set_option maxHeartbeats 4000000 in
set_option maxRecDepth 100000 in
theorem c_X8_asks (l : Launch) (dG : va_G) (cI cM cW cS : ClassId) (m a_sky a_kind a_more a_strewn a_treeCell a_treeSort a_treeLeaves a_tape a_code a_begins a_stack a_dry a_wet a_covered a_hangs a_off a_dryGo a_wetGo a_keptSky a_oldSky a_oldCells a_sheetSort a_sheetSize a_items a_spare : Nat) (tn tz wr lw itn ilw : Nat) (i_raking i_made i_at i_from i_sort i_value i_open i_fell i_fellToday i_rotten i_raked i_cost i_imaged i_oldRaking : Int32) (l_heaps l_oldHeaps : Int64) (mc bg stk : Nat → Int32) (T : sT) (p9 h9 sf ws my : Int32) (hlw : lw < 6) (hok : s_ok T) (hL : s_mlaw mc bg lw T) : rM l yX8_asks cX8_asks 6 (some .int) ({ frames := 2, cells := 0, slots := 0, locals := 48 } : Room) dG (tY cI cM cW cS) rZ0 [.ref m, .int p9, .int h9, .int sf, .int ws, .int my] [(m, .inr (7, [.ref a_sky, .ref a_kind, .ref a_more, .ref a_strewn, .int (nI tn), .ref a_treeCell, .ref a_treeSort, .ref a_treeLeaves, .int i_raking, .long l_heaps, .int (nI tz), .ref a_tape, .int (nI wr), .int (nI lw), .ref a_code, .ref a_begins, .int i_made, .int i_at, .int i_from, .int i_sort, .int i_value, .int i_open, .ref a_stack, .ref a_dry, .ref a_wet, .ref a_covered, .ref a_hangs, .ref a_off, .int i_fell, .int i_fellToday, .int i_rotten, .int i_raked, .int i_cost, .ref a_dryGo, .ref a_wetGo, .ref a_keptSky, .int i_imaged, .int (nI itn), .int i_oldRaking, .long l_oldHeaps, .int (nI ilw), .ref a_oldSky, .ref a_oldCells, .ref a_sheetSort, .ref a_sheetSize, .ref a_items, .ref a_spare])), (a_begins, .inl (cI, 24, .inl bg)), (a_code, .inl (cI, 1020, .inl mc)), (a_stack, .inl (cI, 170, .inl stk))] (fun ov oz => ∃ (r : Int32) (stk' : Nat → Int32), ov = some (.int r) ∧ oz = [(m, .inr (7, [.ref a_sky, .ref a_kind, .ref a_more, .ref a_strewn, .int (nI tn), .ref a_treeCell, .ref a_treeSort, .ref a_treeLeaves, .int i_raking, .long l_heaps, .int (nI tz), .ref a_tape, .int (nI wr), .int (nI lw), .ref a_code, .ref a_begins, .int i_made, .int i_at, .int i_from, .int i_sort, .int i_value, .int i_open, .ref a_stack, .ref a_dry, .ref a_wet, .ref a_covered, .ref a_hangs, .ref a_off, .int i_fell, .int i_fellToday, .int i_rotten, .int i_raked, .int i_cost, .ref a_dryGo, .ref a_wetGo, .ref a_keptSky, .int i_imaged, .int (nI itn), .int i_oldRaking, .long l_oldHeaps, .int (nI ilw), .ref a_oldSky, .ref a_oldCells, .ref a_sheetSort, .ref a_sheetSize, .ref a_items, .ref a_spare])), (a_begins, .inl (cI, 24, .inl bg)), (a_code, .inl (cI, 1020, .inl mc)), (a_stack, .inl (cI, 170, .inl stk'))] ∧ r = o_asks T p9 h9 sf ws my) := by
  refine rM_ofI rfl (Nat.le_of_ble_eq_true rfl) rfl (fun X C E => ?_)
  show X 0 0 [(m, .inr (7, [.ref a_sky, .ref a_kind, .ref a_more, .ref a_strewn, .int (nI tn), .ref a_treeCell, .ref a_treeSort, .ref a_treeLeaves, .int i_raking, .long l_heaps, .int (nI tz), .ref a_tape, .int (nI wr), .int (nI lw), .ref a_code, .ref a_begins, .int i_made, .int i_at, .int i_from, .int i_sort, .int i_value, .int i_open, .ref a_stack, .ref a_dry, .ref a_wet, .ref a_covered, .ref a_hangs, .ref a_off, .int i_fell, .int i_fellToday, .int i_rotten, .int i_raked, .int i_cost, .ref a_dryGo, .ref a_wetGo, .ref a_keptSky, .int i_imaged, .int (nI itn), .int i_oldRaking, .long l_oldHeaps, .int (nI ilw), .ref a_oldSky, .ref a_oldCells, .ref a_sheetSort, .ref a_sheetSize, .ref a_items, .ref a_spare])), (a_begins, .inl (cI, 24, .inl bg)), (a_code, .inl (cI, 1020, .inl mc)), (a_stack, .inl (cI, 170, .inl stk))] [(0, .ref m), (1, .int p9), (2, .int h9), (3, .int sf), (4, .int ws), (5, .int my)] 0 []
  refine x_iload_n C dX8_asks_0 1 rfl ?_
  refine x_iconst C dX8_asks_1 (v := 0) rfl ?_
  refine x_iconst C dX8_asks_2 (v := 2) rfl ?_
  refine x_callS C (As := [.int p9, .int 0, .int 2]) (st := []) (wc := []) (wr := [(m, .inr (7, [.ref a_sky, .ref a_kind, .ref a_more, .ref a_strewn, .int (nI tn), .ref a_treeCell, .ref a_treeSort, .ref a_treeLeaves, .int i_raking, .long l_heaps, .int (nI tz), .ref a_tape, .int (nI wr), .int (nI lw), .ref a_code, .ref a_begins, .int i_made, .int i_at, .int i_from, .int i_sort, .int i_value, .int i_open, .ref a_stack, .ref a_dry, .ref a_wet, .ref a_covered, .ref a_hangs, .ref a_off, .int i_fell, .int i_fellToday, .int i_rotten, .int i_raked, .int i_cost, .ref a_dryGo, .ref a_wetGo, .ref a_keptSky, .int i_imaged, .int (nI itn), .int i_oldRaking, .long l_oldHeaps, .int (nI ilw), .ref a_oldSky, .ref a_oldCells, .ref a_sheetSort, .ref a_sheetSize, .ref a_items, .ref a_spare])), (a_begins, .inl (cI, 24, .inl bg)), (a_code, .inl (cI, 1020, .inl mc)), (a_stack, .inl (cI, 170, .inl stk))]) (c_X8_within l dG cI cM cW cS p9 0 2 ) rZ0_ok (fun _ _ _ _ => trivial) kS_X8_108 hy_X8_within ⟨Nat.le_of_ble_eq_true rfl, Nat.le_of_ble_eq_true rfl⟩ ⟨Nat.le_of_ble_eq_true rfl, Nat.le_of_ble_eq_true rfl⟩ dX8_asks_3 [] [0, 1, 2, 3] rfl rfl rfl rfl (by decide) rfl (Nat.le_of_ble_eq_true rfl) ?_
  intro v1 w2 h3
  rcases h3 with h3 | h3
  ·
    obtain ⟨rfl, rfl, hf4⟩ := h3
    show X 0 0 [(m, .inr (7, [.ref a_sky, .ref a_kind, .ref a_more, .ref a_strewn, .int (nI tn), .ref a_treeCell, .ref a_treeSort, .ref a_treeLeaves, .int i_raking, .long l_heaps, .int (nI tz), .ref a_tape, .int (nI wr), .int (nI lw), .ref a_code, .ref a_begins, .int i_made, .int i_at, .int i_from, .int i_sort, .int i_value, .int i_open, .ref a_stack, .ref a_dry, .ref a_wet, .ref a_covered, .ref a_hangs, .ref a_off, .int i_fell, .int i_fellToday, .int i_rotten, .int i_raked, .int i_cost, .ref a_dryGo, .ref a_wetGo, .ref a_keptSky, .int i_imaged, .int (nI itn), .int i_oldRaking, .long l_oldHeaps, .int (nI ilw), .ref a_oldSky, .ref a_oldCells, .ref a_sheetSort, .ref a_sheetSize, .ref a_items, .ref a_spare])), (a_begins, .inl (cI, 24, .inl bg)), (a_code, .inl (cI, 1020, .inl mc)), (a_stack, .inl (cI, 170, .inl stk))] [(0, .ref m), (1, .int p9), (2, .int h9), (3, .int sf), (4, .int ws), (5, .int my)] 6 [.int 1]
    have hr5 := hf4
    obtain ⟨p, hp, rfl⟩ := q_w (n := 2) rfl (by decide) hf4
    have hnp : o_n (nI p) = p := o_n_nI (by omega)
    refine x_if_eq C dX8_asks_6 (tgt := 61) rfl (fun q9 => absurd q9 (by decide)) (fun _ => ?_)
    refine x_iload_n C dX8_asks_9 2 rfl ?_
    refine x_iconst C dX8_asks_10 (v := 0) rfl ?_
    refine x_sipush C dX8_asks_11 (v := 9999) rfl ?_
    refine x_callS C (As := [.int h9, .int 0, .int 9999]) (st := []) (wc := []) (wr := [(m, .inr (7, [.ref a_sky, .ref a_kind, .ref a_more, .ref a_strewn, .int (nI tn), .ref a_treeCell, .ref a_treeSort, .ref a_treeLeaves, .int i_raking, .long l_heaps, .int (nI tz), .ref a_tape, .int (nI wr), .int (nI lw), .ref a_code, .ref a_begins, .int i_made, .int i_at, .int i_from, .int i_sort, .int i_value, .int i_open, .ref a_stack, .ref a_dry, .ref a_wet, .ref a_covered, .ref a_hangs, .ref a_off, .int i_fell, .int i_fellToday, .int i_rotten, .int i_raked, .int i_cost, .ref a_dryGo, .ref a_wetGo, .ref a_keptSky, .int i_imaged, .int (nI itn), .int i_oldRaking, .long l_oldHeaps, .int (nI ilw), .ref a_oldSky, .ref a_oldCells, .ref a_sheetSort, .ref a_sheetSize, .ref a_items, .ref a_spare])), (a_begins, .inl (cI, 24, .inl bg)), (a_code, .inl (cI, 1020, .inl mc)), (a_stack, .inl (cI, 170, .inl stk))]) (c_X8_within l dG cI cM cW cS h9 0 9999 ) rZ0_ok (fun _ _ _ _ => trivial) kS_X8_108 hy_X8_within ⟨Nat.le_of_ble_eq_true rfl, Nat.le_of_ble_eq_true rfl⟩ ⟨Nat.le_of_ble_eq_true rfl, Nat.le_of_ble_eq_true rfl⟩ dX8_asks_14 [] [0, 1, 2, 3] rfl rfl rfl rfl (by decide) rfl (Nat.le_of_ble_eq_true rfl) ?_
    intro v6 w7 h8
    rcases h8 with h8 | h8
    ·
      obtain ⟨rfl, rfl, hf9⟩ := h8
      show X 0 0 [(m, .inr (7, [.ref a_sky, .ref a_kind, .ref a_more, .ref a_strewn, .int (nI tn), .ref a_treeCell, .ref a_treeSort, .ref a_treeLeaves, .int i_raking, .long l_heaps, .int (nI tz), .ref a_tape, .int (nI wr), .int (nI lw), .ref a_code, .ref a_begins, .int i_made, .int i_at, .int i_from, .int i_sort, .int i_value, .int i_open, .ref a_stack, .ref a_dry, .ref a_wet, .ref a_covered, .ref a_hangs, .ref a_off, .int i_fell, .int i_fellToday, .int i_rotten, .int i_raked, .int i_cost, .ref a_dryGo, .ref a_wetGo, .ref a_keptSky, .int i_imaged, .int (nI itn), .int i_oldRaking, .long l_oldHeaps, .int (nI ilw), .ref a_oldSky, .ref a_oldCells, .ref a_sheetSort, .ref a_sheetSize, .ref a_items, .ref a_spare])), (a_begins, .inl (cI, 24, .inl bg)), (a_code, .inl (cI, 1020, .inl mc)), (a_stack, .inl (cI, 170, .inl stk))] [(0, .ref m), (1, .int (nI p)), (2, .int h9), (3, .int sf), (4, .int ws), (5, .int my)] 17 [.int 1]
      refine x_if_eq C dX8_asks_17 (tgt := 61) rfl (fun q9 => absurd q9 (by decide)) (fun _ => ?_)
      refine x_iload_n C dX8_asks_20 3 rfl ?_
      refine x_iconst C dX8_asks_21 (v := 0) rfl ?_
      refine x_bipush C dX8_asks_22 (v := 91) rfl ?_
      refine x_callS C (As := [.int sf, .int 0, .int 91]) (st := []) (wc := []) (wr := [(m, .inr (7, [.ref a_sky, .ref a_kind, .ref a_more, .ref a_strewn, .int (nI tn), .ref a_treeCell, .ref a_treeSort, .ref a_treeLeaves, .int i_raking, .long l_heaps, .int (nI tz), .ref a_tape, .int (nI wr), .int (nI lw), .ref a_code, .ref a_begins, .int i_made, .int i_at, .int i_from, .int i_sort, .int i_value, .int i_open, .ref a_stack, .ref a_dry, .ref a_wet, .ref a_covered, .ref a_hangs, .ref a_off, .int i_fell, .int i_fellToday, .int i_rotten, .int i_raked, .int i_cost, .ref a_dryGo, .ref a_wetGo, .ref a_keptSky, .int i_imaged, .int (nI itn), .int i_oldRaking, .long l_oldHeaps, .int (nI ilw), .ref a_oldSky, .ref a_oldCells, .ref a_sheetSort, .ref a_sheetSize, .ref a_items, .ref a_spare])), (a_begins, .inl (cI, 24, .inl bg)), (a_code, .inl (cI, 1020, .inl mc)), (a_stack, .inl (cI, 170, .inl stk))]) (c_X8_within l dG cI cM cW cS sf 0 91 ) rZ0_ok (fun _ _ _ _ => trivial) kS_X8_108 hy_X8_within ⟨Nat.le_of_ble_eq_true rfl, Nat.le_of_ble_eq_true rfl⟩ ⟨Nat.le_of_ble_eq_true rfl, Nat.le_of_ble_eq_true rfl⟩ dX8_asks_24 [] [0, 1, 2, 3] rfl rfl rfl rfl (by decide) rfl (Nat.le_of_ble_eq_true rfl) ?_
      intro v10 w11 h12
      rcases h12 with h12 | h12
      ·
        obtain ⟨rfl, rfl, hf13⟩ := h12
        show X 0 0 [(m, .inr (7, [.ref a_sky, .ref a_kind, .ref a_more, .ref a_strewn, .int (nI tn), .ref a_treeCell, .ref a_treeSort, .ref a_treeLeaves, .int i_raking, .long l_heaps, .int (nI tz), .ref a_tape, .int (nI wr), .int (nI lw), .ref a_code, .ref a_begins, .int i_made, .int i_at, .int i_from, .int i_sort, .int i_value, .int i_open, .ref a_stack, .ref a_dry, .ref a_wet, .ref a_covered, .ref a_hangs, .ref a_off, .int i_fell, .int i_fellToday, .int i_rotten, .int i_raked, .int i_cost, .ref a_dryGo, .ref a_wetGo, .ref a_keptSky, .int i_imaged, .int (nI itn), .int i_oldRaking, .long l_oldHeaps, .int (nI ilw), .ref a_oldSky, .ref a_oldCells, .ref a_sheetSort, .ref a_sheetSize, .ref a_items, .ref a_spare])), (a_begins, .inl (cI, 24, .inl bg)), (a_code, .inl (cI, 1020, .inl mc)), (a_stack, .inl (cI, 170, .inl stk))] [(0, .ref m), (1, .int (nI p)), (2, .int h9), (3, .int sf), (4, .int ws), (5, .int my)] 27 [.int 1]
        refine x_if_eq C dX8_asks_27 (tgt := 61) rfl (fun q9 => absurd q9 (by decide)) (fun _ => ?_)
        refine x_iload_n C dX8_asks_30 3 rfl ?_
        refine x_bipush C dX8_asks_31 (v := 10) rfl ?_
        refine x_irem C dX8_asks_33 (by decide) ?_
        refine x_iconst C dX8_asks_34 (v := 1) rfl ?_
        refine x_icmp_gt C dX8_asks_35 (tgt := 61) rfl (fun c14 => ?_) (fun c14 => ?_)
        ·
          have hc9 : 1 < sf - sf / 10 * 10 := c14
          refine x_bipush C dX8_asks_61 (v := (-2)) rfl ?_
          refine E dX8_asks_63 (rfl) ?_
          exact ⟨(-2), stk, rfl, rfl, by (unfold o_asks); (repeat' split) <;> first | rfl | contradiction⟩
        ·
          have hc9 : ¬ 1 < sf - sf / 10 * 10 := c14
          refine x_iload C dX8_asks_38 4 rfl ?_
          refine x_iconst C dX8_asks_40 (v := 0) rfl ?_
          refine x_bipush C dX8_asks_41 (v := 19) rfl ?_
          refine x_callS C (As := [.int ws, .int 0, .int 19]) (st := []) (wc := []) (wr := [(m, .inr (7, [.ref a_sky, .ref a_kind, .ref a_more, .ref a_strewn, .int (nI tn), .ref a_treeCell, .ref a_treeSort, .ref a_treeLeaves, .int i_raking, .long l_heaps, .int (nI tz), .ref a_tape, .int (nI wr), .int (nI lw), .ref a_code, .ref a_begins, .int i_made, .int i_at, .int i_from, .int i_sort, .int i_value, .int i_open, .ref a_stack, .ref a_dry, .ref a_wet, .ref a_covered, .ref a_hangs, .ref a_off, .int i_fell, .int i_fellToday, .int i_rotten, .int i_raked, .int i_cost, .ref a_dryGo, .ref a_wetGo, .ref a_keptSky, .int i_imaged, .int (nI itn), .int i_oldRaking, .long l_oldHeaps, .int (nI ilw), .ref a_oldSky, .ref a_oldCells, .ref a_sheetSort, .ref a_sheetSize, .ref a_items, .ref a_spare])), (a_begins, .inl (cI, 24, .inl bg)), (a_code, .inl (cI, 1020, .inl mc)), (a_stack, .inl (cI, 170, .inl stk))]) (c_X8_within l dG cI cM cW cS ws 0 19 ) rZ0_ok (fun _ _ _ _ => trivial) kS_X8_108 hy_X8_within ⟨Nat.le_of_ble_eq_true rfl, Nat.le_of_ble_eq_true rfl⟩ ⟨Nat.le_of_ble_eq_true rfl, Nat.le_of_ble_eq_true rfl⟩ dX8_asks_43 [] [0, 1, 2, 3] rfl rfl rfl rfl (by decide) rfl (Nat.le_of_ble_eq_true rfl) ?_
          intro v15 w16 h17
          rcases h17 with h17 | h17
          ·
            obtain ⟨rfl, rfl, hf18⟩ := h17
            show X 0 0 [(m, .inr (7, [.ref a_sky, .ref a_kind, .ref a_more, .ref a_strewn, .int (nI tn), .ref a_treeCell, .ref a_treeSort, .ref a_treeLeaves, .int i_raking, .long l_heaps, .int (nI tz), .ref a_tape, .int (nI wr), .int (nI lw), .ref a_code, .ref a_begins, .int i_made, .int i_at, .int i_from, .int i_sort, .int i_value, .int i_open, .ref a_stack, .ref a_dry, .ref a_wet, .ref a_covered, .ref a_hangs, .ref a_off, .int i_fell, .int i_fellToday, .int i_rotten, .int i_raked, .int i_cost, .ref a_dryGo, .ref a_wetGo, .ref a_keptSky, .int i_imaged, .int (nI itn), .int i_oldRaking, .long l_oldHeaps, .int (nI ilw), .ref a_oldSky, .ref a_oldCells, .ref a_sheetSort, .ref a_sheetSize, .ref a_items, .ref a_spare])), (a_begins, .inl (cI, 24, .inl bg)), (a_code, .inl (cI, 1020, .inl mc)), (a_stack, .inl (cI, 170, .inl stk))] [(0, .ref m), (1, .int (nI p)), (2, .int h9), (3, .int sf), (4, .int ws), (5, .int my)] 46 [.int 1]
            refine x_if_eq C dX8_asks_46 (tgt := 61) rfl (fun q9 => absurd q9 (by decide)) (fun _ => ?_)
            refine x_iload C dX8_asks_49 5 rfl ?_
            refine x_iconst C dX8_asks_51 (v := 0) rfl ?_
            refine x_sipush C dX8_asks_52 (v := 9999) rfl ?_
            refine x_callS C (As := [.int my, .int 0, .int 9999]) (st := []) (wc := []) (wr := [(m, .inr (7, [.ref a_sky, .ref a_kind, .ref a_more, .ref a_strewn, .int (nI tn), .ref a_treeCell, .ref a_treeSort, .ref a_treeLeaves, .int i_raking, .long l_heaps, .int (nI tz), .ref a_tape, .int (nI wr), .int (nI lw), .ref a_code, .ref a_begins, .int i_made, .int i_at, .int i_from, .int i_sort, .int i_value, .int i_open, .ref a_stack, .ref a_dry, .ref a_wet, .ref a_covered, .ref a_hangs, .ref a_off, .int i_fell, .int i_fellToday, .int i_rotten, .int i_raked, .int i_cost, .ref a_dryGo, .ref a_wetGo, .ref a_keptSky, .int i_imaged, .int (nI itn), .int i_oldRaking, .long l_oldHeaps, .int (nI ilw), .ref a_oldSky, .ref a_oldCells, .ref a_sheetSort, .ref a_sheetSize, .ref a_items, .ref a_spare])), (a_begins, .inl (cI, 24, .inl bg)), (a_code, .inl (cI, 1020, .inl mc)), (a_stack, .inl (cI, 170, .inl stk))]) (c_X8_within l dG cI cM cW cS my 0 9999 ) rZ0_ok (fun _ _ _ _ => trivial) kS_X8_108 hy_X8_within ⟨Nat.le_of_ble_eq_true rfl, Nat.le_of_ble_eq_true rfl⟩ ⟨Nat.le_of_ble_eq_true rfl, Nat.le_of_ble_eq_true rfl⟩ dX8_asks_55 [] [0, 1, 2, 3] rfl rfl rfl rfl (by decide) rfl (Nat.le_of_ble_eq_true rfl) ?_
            intro v19 w20 h21
            rcases h21 with h21 | h21
            ·
              obtain ⟨rfl, rfl, hf22⟩ := h21
              show X 0 0 [(m, .inr (7, [.ref a_sky, .ref a_kind, .ref a_more, .ref a_strewn, .int (nI tn), .ref a_treeCell, .ref a_treeSort, .ref a_treeLeaves, .int i_raking, .long l_heaps, .int (nI tz), .ref a_tape, .int (nI wr), .int (nI lw), .ref a_code, .ref a_begins, .int i_made, .int i_at, .int i_from, .int i_sort, .int i_value, .int i_open, .ref a_stack, .ref a_dry, .ref a_wet, .ref a_covered, .ref a_hangs, .ref a_off, .int i_fell, .int i_fellToday, .int i_rotten, .int i_raked, .int i_cost, .ref a_dryGo, .ref a_wetGo, .ref a_keptSky, .int i_imaged, .int (nI itn), .int i_oldRaking, .long l_oldHeaps, .int (nI ilw), .ref a_oldSky, .ref a_oldCells, .ref a_sheetSort, .ref a_sheetSize, .ref a_items, .ref a_spare])), (a_begins, .inl (cI, 24, .inl bg)), (a_code, .inl (cI, 1020, .inl mc)), (a_stack, .inl (cI, 170, .inl stk))] [(0, .ref m), (1, .int (nI p)), (2, .int h9), (3, .int sf), (4, .int ws), (5, .int my)] 58 [.int 1]
              refine x_if_ne C dX8_asks_58 (tgt := 64) rfl (fun _ => ?_) (fun q9 => by first | exact absurd q9 (by decide) | exact absurd (by decide) q9)
              refine x_aload_n C dX8_asks_64 0 rfl ?_
              refine x_iload_n C dX8_asks_65 1 rfl ?_
              refine x_iload_n C dX8_asks_66 2 rfl ?_
              refine x_iload_n C dX8_asks_67 3 rfl ?_
              refine x_bipush C dX8_asks_68 (v := 10) rfl ?_
              refine x_idiv C dX8_asks_70 (by decide) ?_
              refine x_iload_n C dX8_asks_71 3 rfl ?_
              refine x_bipush C dX8_asks_72 (v := 10) rfl ?_
              refine x_irem C dX8_asks_74 (by decide) ?_
              show X _ _ _ _ 75 _
              refine x_iload C dX8_asks_75 4 rfl ?_
              refine x_bipush C dX8_asks_77 (v := 10) rfl ?_
              refine x_idiv C dX8_asks_79 (by decide) ?_
              refine x_iload C dX8_asks_80 4 rfl ?_
              refine x_bipush C dX8_asks_82 (v := 10) rfl ?_
              refine x_irem C dX8_asks_84 (by decide) ?_
              refine x_iload C dX8_asks_85 5 rfl ?_
              refine x_callV C (As := [.int (nI p), .int h9, .int (sf / 10), .int (sf - sf / 10 * 10), .int (ws / 10), .int (ws - ws / 10 * 10), .int my]) (st := []) (wc := [(m, .inr (7, [.ref a_sky, .ref a_kind, .ref a_more, .ref a_strewn, .int (nI tn), .ref a_treeCell, .ref a_treeSort, .ref a_treeLeaves, .int i_raking, .long l_heaps, .int (nI tz), .ref a_tape, .int (nI wr), .int (nI lw), .ref a_code, .ref a_begins, .int i_made, .int i_at, .int i_from, .int i_sort, .int i_value, .int i_open, .ref a_stack, .ref a_dry, .ref a_wet, .ref a_covered, .ref a_hangs, .ref a_off, .int i_fell, .int i_fellToday, .int i_rotten, .int i_raked, .int i_cost, .ref a_dryGo, .ref a_wetGo, .ref a_keptSky, .int i_imaged, .int (nI itn), .int i_oldRaking, .long l_oldHeaps, .int (nI ilw), .ref a_oldSky, .ref a_oldCells, .ref a_sheetSort, .ref a_sheetSize, .ref a_items, .ref a_spare])), (a_begins, .inl (cI, 24, .inl bg)), (a_code, .inl (cI, 1020, .inl mc)), (a_stack, .inl (cI, 170, .inl stk))]) (wr := []) (c_X8_worth l dG cI cM cW cS m a_sky a_kind a_more a_strewn a_treeCell a_treeSort a_treeLeaves a_tape a_code a_begins a_stack a_dry a_wet a_covered a_hangs a_off a_dryGo a_wetGo a_keptSky a_oldSky a_oldCells a_sheetSort a_sheetSize a_items a_spare tn tz wr lw itn ilw i_raking i_made i_at i_from i_sort i_value i_open i_fell i_fellToday i_rotten i_raked i_cost i_imaged i_oldRaking l_heaps l_oldHeaps mc bg stk T p h9 (sf / 10) (sf - sf / 10 * 10) (ws / 10) (ws - ws / 10 * 10) my (by first | assumption | omega | decide) (by first | assumption | omega | decide) (by first | assumption | omega | decide) (by first | assumption | omega | decide)) rZ0_ok (fun _ _ _ _ => trivial) kV_X8_219 ⟨rfl, hy_X8_worth⟩ ⟨Nat.le_of_ble_eq_true rfl, Nat.le_of_ble_eq_true rfl⟩ ⟨Nat.le_of_ble_eq_true rfl, Nat.le_of_ble_eq_true rfl⟩ dX8_asks_87 0 rfl rfl [0, 1, 2, 3] [] rfl rfl rfl rfl (by decide) rfl (Nat.le_of_ble_eq_true rfl) ?_
              intro v23 w24 h25
              obtain ⟨_, stk_27, rfl, rfl, rfl⟩ := h25
              show X 0 0 [(m, .inr (7, [.ref a_sky, .ref a_kind, .ref a_more, .ref a_strewn, .int (nI tn), .ref a_treeCell, .ref a_treeSort, .ref a_treeLeaves, .int i_raking, .long l_heaps, .int (nI tz), .ref a_tape, .int (nI wr), .int (nI lw), .ref a_code, .ref a_begins, .int i_made, .int i_at, .int i_from, .int i_sort, .int i_value, .int i_open, .ref a_stack, .ref a_dry, .ref a_wet, .ref a_covered, .ref a_hangs, .ref a_off, .int i_fell, .int i_fellToday, .int i_rotten, .int i_raked, .int i_cost, .ref a_dryGo, .ref a_wetGo, .ref a_keptSky, .int i_imaged, .int (nI itn), .int i_oldRaking, .long l_oldHeaps, .int (nI ilw), .ref a_oldSky, .ref a_oldCells, .ref a_sheetSort, .ref a_sheetSize, .ref a_items, .ref a_spare])), (a_begins, .inl (cI, 24, .inl bg)), (a_code, .inl (cI, 1020, .inl mc)), (a_stack, .inl (cI, 170, .inl stk_27))] [(0, .ref m), (1, .int (nI p)), (2, .int h9), (3, .int sf), (4, .int ws), (5, .int my)] 90 [.int (s_says T p (s_nm h9 (sf / 10) (sf - sf / 10 * 10) (ws / 10) (ws - ws / 10 * 10) my))]
              refine E dX8_asks_90 (rfl) ?_
              exact ⟨(s_says T p (s_nm h9 (sf / 10) (sf - sf / 10 * 10) (ws / 10) (ws - ws / 10 * 10) my)), stk_27, rfl, rfl, by (unfold o_asks); (try simp only [hnp]); (repeat (first | rw [if_pos (by first | (rw [if_pos (by decide)]; assumption) | (rw [if_neg (by decide), if_pos (by decide)]; assumption) | (rw [if_neg (by decide), if_neg (by decide)]; assumption) | assumption | decide | omega | exact o_one_t (by assumption) | (rw [o_one_f (by assumption)]; decide) | exact ⟨by assumption, by assumption⟩ | exact fun h9 => absurd h9.1 (by assumption) | exact fun h9 => absurd h9.2 (by assumption))] | rw [if_neg (by first | (rw [if_pos (by decide)]; assumption) | (rw [if_neg (by decide), if_pos (by decide)]; assumption) | (rw [if_neg (by decide), if_neg (by decide)]; assumption) | assumption | decide | omega | exact o_one_t (by assumption) | (rw [o_one_f (by assumption)]; decide) | exact ⟨by assumption, by assumption⟩ | exact fun h9 => absurd h9.1 (by assumption) | exact fun h9 => absurd h9.2 (by assumption))])); all_goals (first | rfl)⟩
            ·
              obtain ⟨rfl, rfl, hf29⟩ := h21
              show X 0 0 [(m, .inr (7, [.ref a_sky, .ref a_kind, .ref a_more, .ref a_strewn, .int (nI tn), .ref a_treeCell, .ref a_treeSort, .ref a_treeLeaves, .int i_raking, .long l_heaps, .int (nI tz), .ref a_tape, .int (nI wr), .int (nI lw), .ref a_code, .ref a_begins, .int i_made, .int i_at, .int i_from, .int i_sort, .int i_value, .int i_open, .ref a_stack, .ref a_dry, .ref a_wet, .ref a_covered, .ref a_hangs, .ref a_off, .int i_fell, .int i_fellToday, .int i_rotten, .int i_raked, .int i_cost, .ref a_dryGo, .ref a_wetGo, .ref a_keptSky, .int i_imaged, .int (nI itn), .int i_oldRaking, .long l_oldHeaps, .int (nI ilw), .ref a_oldSky, .ref a_oldCells, .ref a_sheetSort, .ref a_sheetSize, .ref a_items, .ref a_spare])), (a_begins, .inl (cI, 24, .inl bg)), (a_code, .inl (cI, 1020, .inl mc)), (a_stack, .inl (cI, 170, .inl stk))] [(0, .ref m), (1, .int (nI p)), (2, .int h9), (3, .int sf), (4, .int ws), (5, .int my)] 58 [.int 0]
              refine x_if_ne C dX8_asks_58 (tgt := 64) rfl (fun q9 => absurd q9 (by decide)) (fun _ => ?_)
              refine x_bipush C dX8_asks_61 (v := (-2)) rfl ?_
              refine E dX8_asks_63 (rfl) ?_
              exact ⟨(-2), stk, rfl, rfl, by (unfold o_asks); (repeat' split) <;> first | rfl | contradiction⟩
          ·
            obtain ⟨rfl, rfl, hf30⟩ := h17
            show X 0 0 [(m, .inr (7, [.ref a_sky, .ref a_kind, .ref a_more, .ref a_strewn, .int (nI tn), .ref a_treeCell, .ref a_treeSort, .ref a_treeLeaves, .int i_raking, .long l_heaps, .int (nI tz), .ref a_tape, .int (nI wr), .int (nI lw), .ref a_code, .ref a_begins, .int i_made, .int i_at, .int i_from, .int i_sort, .int i_value, .int i_open, .ref a_stack, .ref a_dry, .ref a_wet, .ref a_covered, .ref a_hangs, .ref a_off, .int i_fell, .int i_fellToday, .int i_rotten, .int i_raked, .int i_cost, .ref a_dryGo, .ref a_wetGo, .ref a_keptSky, .int i_imaged, .int (nI itn), .int i_oldRaking, .long l_oldHeaps, .int (nI ilw), .ref a_oldSky, .ref a_oldCells, .ref a_sheetSort, .ref a_sheetSize, .ref a_items, .ref a_spare])), (a_begins, .inl (cI, 24, .inl bg)), (a_code, .inl (cI, 1020, .inl mc)), (a_stack, .inl (cI, 170, .inl stk))] [(0, .ref m), (1, .int (nI p)), (2, .int h9), (3, .int sf), (4, .int ws), (5, .int my)] 46 [.int 0]
            refine x_if_eq C dX8_asks_46 (tgt := 61) rfl (fun _ => ?_) (fun q9 => by first | exact absurd q9 (by decide) | exact absurd (by decide) q9)
            refine x_bipush C dX8_asks_61 (v := (-2)) rfl ?_
            refine E dX8_asks_63 (rfl) ?_
            exact ⟨(-2), stk, rfl, rfl, by (unfold o_asks); (repeat' split) <;> first | rfl | contradiction⟩
      ·
        obtain ⟨rfl, rfl, hf31⟩ := h12
        show X 0 0 [(m, .inr (7, [.ref a_sky, .ref a_kind, .ref a_more, .ref a_strewn, .int (nI tn), .ref a_treeCell, .ref a_treeSort, .ref a_treeLeaves, .int i_raking, .long l_heaps, .int (nI tz), .ref a_tape, .int (nI wr), .int (nI lw), .ref a_code, .ref a_begins, .int i_made, .int i_at, .int i_from, .int i_sort, .int i_value, .int i_open, .ref a_stack, .ref a_dry, .ref a_wet, .ref a_covered, .ref a_hangs, .ref a_off, .int i_fell, .int i_fellToday, .int i_rotten, .int i_raked, .int i_cost, .ref a_dryGo, .ref a_wetGo, .ref a_keptSky, .int i_imaged, .int (nI itn), .int i_oldRaking, .long l_oldHeaps, .int (nI ilw), .ref a_oldSky, .ref a_oldCells, .ref a_sheetSort, .ref a_sheetSize, .ref a_items, .ref a_spare])), (a_begins, .inl (cI, 24, .inl bg)), (a_code, .inl (cI, 1020, .inl mc)), (a_stack, .inl (cI, 170, .inl stk))] [(0, .ref m), (1, .int (nI p)), (2, .int h9), (3, .int sf), (4, .int ws), (5, .int my)] 27 [.int 0]
        refine x_if_eq C dX8_asks_27 (tgt := 61) rfl (fun _ => ?_) (fun q9 => by first | exact absurd q9 (by decide) | exact absurd (by decide) q9)
        refine x_bipush C dX8_asks_61 (v := (-2)) rfl ?_
        refine E dX8_asks_63 (rfl) ?_
        exact ⟨(-2), stk, rfl, rfl, by (unfold o_asks); (repeat' split) <;> first | rfl | contradiction⟩
    ·
      obtain ⟨rfl, rfl, hf32⟩ := h8
      show X 0 0 [(m, .inr (7, [.ref a_sky, .ref a_kind, .ref a_more, .ref a_strewn, .int (nI tn), .ref a_treeCell, .ref a_treeSort, .ref a_treeLeaves, .int i_raking, .long l_heaps, .int (nI tz), .ref a_tape, .int (nI wr), .int (nI lw), .ref a_code, .ref a_begins, .int i_made, .int i_at, .int i_from, .int i_sort, .int i_value, .int i_open, .ref a_stack, .ref a_dry, .ref a_wet, .ref a_covered, .ref a_hangs, .ref a_off, .int i_fell, .int i_fellToday, .int i_rotten, .int i_raked, .int i_cost, .ref a_dryGo, .ref a_wetGo, .ref a_keptSky, .int i_imaged, .int (nI itn), .int i_oldRaking, .long l_oldHeaps, .int (nI ilw), .ref a_oldSky, .ref a_oldCells, .ref a_sheetSort, .ref a_sheetSize, .ref a_items, .ref a_spare])), (a_begins, .inl (cI, 24, .inl bg)), (a_code, .inl (cI, 1020, .inl mc)), (a_stack, .inl (cI, 170, .inl stk))] [(0, .ref m), (1, .int (nI p)), (2, .int h9), (3, .int sf), (4, .int ws), (5, .int my)] 17 [.int 0]
      refine x_if_eq C dX8_asks_17 (tgt := 61) rfl (fun _ => ?_) (fun q9 => by first | exact absurd q9 (by decide) | exact absurd (by decide) q9)
      refine x_bipush C dX8_asks_61 (v := (-2)) rfl ?_
      refine E dX8_asks_63 (rfl) ?_
      exact ⟨(-2), stk, rfl, rfl, by (unfold o_asks); (repeat' split) <;> first | rfl | contradiction⟩
  ·
    obtain ⟨rfl, rfl, hf33⟩ := h3
    show X 0 0 [(m, .inr (7, [.ref a_sky, .ref a_kind, .ref a_more, .ref a_strewn, .int (nI tn), .ref a_treeCell, .ref a_treeSort, .ref a_treeLeaves, .int i_raking, .long l_heaps, .int (nI tz), .ref a_tape, .int (nI wr), .int (nI lw), .ref a_code, .ref a_begins, .int i_made, .int i_at, .int i_from, .int i_sort, .int i_value, .int i_open, .ref a_stack, .ref a_dry, .ref a_wet, .ref a_covered, .ref a_hangs, .ref a_off, .int i_fell, .int i_fellToday, .int i_rotten, .int i_raked, .int i_cost, .ref a_dryGo, .ref a_wetGo, .ref a_keptSky, .int i_imaged, .int (nI itn), .int i_oldRaking, .long l_oldHeaps, .int (nI ilw), .ref a_oldSky, .ref a_oldCells, .ref a_sheetSort, .ref a_sheetSize, .ref a_items, .ref a_spare])), (a_begins, .inl (cI, 24, .inl bg)), (a_code, .inl (cI, 1020, .inl mc)), (a_stack, .inl (cI, 170, .inl stk))] [(0, .ref m), (1, .int p9), (2, .int h9), (3, .int sf), (4, .int ws), (5, .int my)] 6 [.int 0]
    refine x_if_eq C dX8_asks_6 (tgt := 61) rfl (fun _ => ?_) (fun q9 => by first | exact absurd q9 (by decide) | exact absurd (by decide) q9)
    refine x_bipush C dX8_asks_61 (v := (-2)) rfl ?_
    refine E dX8_asks_63 (rfl) ?_
    exact ⟨(-2), stk, rfl, rfl, by (unfold o_asks); (repeat' split) <;> first | rfl | contradiction⟩
theorem kV_X8_226 : GoodIn GW (wsV RX8 226 yX8_lay.cls yX8_lay (Cond.code yX8_lay cX8_lay 5 (some .int) :: GW)) := r_gV gw_19_23 gw_19_8 gw_19_9 gw_1_5 gw_19_10
theorem hy_X8_lay : yX8_lay.cls ≠ "java/lang/invoke/MethodHandle" ∧ yX8_lay.cls ≠ "java/lang/invoke/VarHandle" ∧ (parseMethodDescriptor yX8_lay.desc).map (fun d => d.parameters.length) = some 3 := ⟨by decide +kernel, by decide +kernel, by decide +kernel⟩
set_option maxHeartbeats 4000000 in
set_option maxRecDepth 100000 in
theorem c_X8_plot (l : Launch) (dG : va_G) (cI cM cW cS : ClassId) (m a_sky a_kind a_more a_strewn a_treeCell a_treeSort a_treeLeaves a_tape a_code a_begins a_stack a_dry a_wet a_covered a_hangs a_off a_dryGo a_wetGo a_keptSky a_oldSky a_oldCells a_sheetSort a_sheetSize a_items a_spare : Nat) (tn tz wr lw itn ilw : Nat) (i_raking i_made i_at i_from i_sort i_value i_open i_fell i_fellToday i_rotten i_raked i_cost i_imaged i_oldRaking : Int32) (l_heaps l_oldHeaps : Int64) (kf mf : Nat → Int32) (c sh k9 m9 : Int32) : rM l yX8_plot cX8_plot 8 (some .int) ({ frames := 3, cells := 0, slots := 0, locals := 66 } : Room) dG (tY cI cM cW cS) rZ0 [.ref m, .int c, .int sh, .int k9, .int m9] [(m, .inr (7, [.ref a_sky, .ref a_kind, .ref a_more, .ref a_strewn, .int (nI tn), .ref a_treeCell, .ref a_treeSort, .ref a_treeLeaves, .int i_raking, .long l_heaps, .int (nI tz), .ref a_tape, .int (nI wr), .int (nI lw), .ref a_code, .ref a_begins, .int i_made, .int i_at, .int i_from, .int i_sort, .int i_value, .int i_open, .ref a_stack, .ref a_dry, .ref a_wet, .ref a_covered, .ref a_hangs, .ref a_off, .int i_fell, .int i_fellToday, .int i_rotten, .int i_raked, .int i_cost, .ref a_dryGo, .ref a_wetGo, .ref a_keptSky, .int i_imaged, .int (nI itn), .int i_oldRaking, .long l_oldHeaps, .int (nI ilw), .ref a_oldSky, .ref a_oldCells, .ref a_sheetSort, .ref a_sheetSize, .ref a_items, .ref a_spare])), (a_kind, .inl (cI, 36, .inl kf)), (a_more, .inl (cI, 36, .inl mf))] (fun ov oz => ∃ (r : Int32) (k' : Nat → Int32) (m' : Nat → Int32), ov = some (.int r) ∧ oz = [(m, .inr (7, [.ref a_sky, .ref a_kind, .ref a_more, .ref a_strewn, .int (nI tn), .ref a_treeCell, .ref a_treeSort, .ref a_treeLeaves, .int i_raking, .long l_heaps, .int (nI tz), .ref a_tape, .int (nI wr), .int (nI lw), .ref a_code, .ref a_begins, .int i_made, .int i_at, .int i_from, .int i_sort, .int i_value, .int i_open, .ref a_stack, .ref a_dry, .ref a_wet, .ref a_covered, .ref a_hangs, .ref a_off, .int i_fell, .int i_fellToday, .int i_rotten, .int i_raked, .int i_cost, .ref a_dryGo, .ref a_wetGo, .ref a_keptSky, .int i_imaged, .int (nI itn), .int i_oldRaking, .long l_oldHeaps, .int (nI ilw), .ref a_oldSky, .ref a_oldCells, .ref a_sheetSort, .ref a_sheetSize, .ref a_items, .ref a_spare])), (a_kind, .inl (cI, 36, .inl k')), (a_more, .inl (cI, 36, .inl m'))] ∧ (r, k', m') = (o_plot c sh k9 m9, o_plot_f kf c sh k9 m9 k9, o_plot_f mf c sh k9 m9 m9)) := by
  refine rM_ofI rfl (Nat.le_of_ble_eq_true rfl) rfl (fun X C E => ?_)
  show X 0 0 [(m, .inr (7, [.ref a_sky, .ref a_kind, .ref a_more, .ref a_strewn, .int (nI tn), .ref a_treeCell, .ref a_treeSort, .ref a_treeLeaves, .int i_raking, .long l_heaps, .int (nI tz), .ref a_tape, .int (nI wr), .int (nI lw), .ref a_code, .ref a_begins, .int i_made, .int i_at, .int i_from, .int i_sort, .int i_value, .int i_open, .ref a_stack, .ref a_dry, .ref a_wet, .ref a_covered, .ref a_hangs, .ref a_off, .int i_fell, .int i_fellToday, .int i_rotten, .int i_raked, .int i_cost, .ref a_dryGo, .ref a_wetGo, .ref a_keptSky, .int i_imaged, .int (nI itn), .int i_oldRaking, .long l_oldHeaps, .int (nI ilw), .ref a_oldSky, .ref a_oldCells, .ref a_sheetSort, .ref a_sheetSize, .ref a_items, .ref a_spare])), (a_kind, .inl (cI, 36, .inl kf)), (a_more, .inl (cI, 36, .inl mf))] [(0, .ref m), (1, .int c), (2, .int sh), (3, .int k9), (4, .int m9)] 0 []
  refine x_iload_n C dX8_plot_0 1 rfl ?_
  refine x_callS C (As := [.int c]) (st := []) (wc := []) (wr := [(m, .inr (7, [.ref a_sky, .ref a_kind, .ref a_more, .ref a_strewn, .int (nI tn), .ref a_treeCell, .ref a_treeSort, .ref a_treeLeaves, .int i_raking, .long l_heaps, .int (nI tz), .ref a_tape, .int (nI wr), .int (nI lw), .ref a_code, .ref a_begins, .int i_made, .int i_at, .int i_from, .int i_sort, .int i_value, .int i_open, .ref a_stack, .ref a_dry, .ref a_wet, .ref a_covered, .ref a_hangs, .ref a_off, .int i_fell, .int i_fellToday, .int i_rotten, .int i_raked, .int i_cost, .ref a_dryGo, .ref a_wetGo, .ref a_keptSky, .int i_imaged, .int (nI itn), .int i_oldRaking, .long l_oldHeaps, .int (nI ilw), .ref a_oldSky, .ref a_oldCells, .ref a_sheetSort, .ref a_sheetSize, .ref a_items, .ref a_spare])), (a_kind, .inl (cI, 36, .inl kf)), (a_more, .inl (cI, 36, .inl mf))]) (c_X8_isCell l dG cI cM cW cS c ) rZ0_ok (fun _ _ _ _ => trivial) kS_X8_223 hy_X8_isCell ⟨Nat.le_of_ble_eq_true rfl, Nat.le_of_ble_eq_true rfl⟩ ⟨Nat.le_of_ble_eq_true rfl, Nat.le_of_ble_eq_true rfl⟩ dX8_plot_1 [] [0, 1, 2] rfl rfl rfl rfl (by decide) rfl (Nat.le_of_ble_eq_true rfl) ?_
  intro v1 w2 h3
  rcases h3 with h3 | h3
  ·
    obtain ⟨rfl, rfl, hf4⟩ := h3
    show X 0 0 [(m, .inr (7, [.ref a_sky, .ref a_kind, .ref a_more, .ref a_strewn, .int (nI tn), .ref a_treeCell, .ref a_treeSort, .ref a_treeLeaves, .int i_raking, .long l_heaps, .int (nI tz), .ref a_tape, .int (nI wr), .int (nI lw), .ref a_code, .ref a_begins, .int i_made, .int i_at, .int i_from, .int i_sort, .int i_value, .int i_open, .ref a_stack, .ref a_dry, .ref a_wet, .ref a_covered, .ref a_hangs, .ref a_off, .int i_fell, .int i_fellToday, .int i_rotten, .int i_raked, .int i_cost, .ref a_dryGo, .ref a_wetGo, .ref a_keptSky, .int i_imaged, .int (nI itn), .int i_oldRaking, .long l_oldHeaps, .int (nI ilw), .ref a_oldSky, .ref a_oldCells, .ref a_sheetSort, .ref a_sheetSize, .ref a_items, .ref a_spare])), (a_kind, .inl (cI, 36, .inl kf)), (a_more, .inl (cI, 36, .inl mf))] [(0, .ref m), (1, .int c), (2, .int sh), (3, .int k9), (4, .int m9)] 4 [.int 1]
    have hr5 := hf4
    obtain ⟨cc, hcc, rfl⟩ := q_w (n := 35) rfl (by decide) hf4
    have hncc : o_n (nI cc) = cc := o_n_nI (by omega)
    refine x_if_eq C dX8_plot_4 (tgt := 33) rfl (fun q9 => absurd q9 (by decide)) (fun _ => ?_)
    refine x_iload_n C dX8_plot_7 2 rfl ?_
    refine x_bipush C dX8_plot_8 (v := 10) rfl ?_
    refine x_idiv C dX8_plot_10 (by decide) ?_
    refine x_iconst C dX8_plot_11 (v := 1) rfl ?_
    refine x_bipush C dX8_plot_12 (v := 6) rfl ?_
    refine x_callS C (As := [.int (sh / 10), .int 1, .int 6]) (st := []) (wc := []) (wr := [(m, .inr (7, [.ref a_sky, .ref a_kind, .ref a_more, .ref a_strewn, .int (nI tn), .ref a_treeCell, .ref a_treeSort, .ref a_treeLeaves, .int i_raking, .long l_heaps, .int (nI tz), .ref a_tape, .int (nI wr), .int (nI lw), .ref a_code, .ref a_begins, .int i_made, .int i_at, .int i_from, .int i_sort, .int i_value, .int i_open, .ref a_stack, .ref a_dry, .ref a_wet, .ref a_covered, .ref a_hangs, .ref a_off, .int i_fell, .int i_fellToday, .int i_rotten, .int i_raked, .int i_cost, .ref a_dryGo, .ref a_wetGo, .ref a_keptSky, .int i_imaged, .int (nI itn), .int i_oldRaking, .long l_oldHeaps, .int (nI ilw), .ref a_oldSky, .ref a_oldCells, .ref a_sheetSort, .ref a_sheetSize, .ref a_items, .ref a_spare])), (a_kind, .inl (cI, 36, .inl kf)), (a_more, .inl (cI, 36, .inl mf))]) (c_X8_within l dG cI cM cW cS (sh / 10) 1 6 ) rZ0_ok (fun _ _ _ _ => trivial) kS_X8_108 hy_X8_within ⟨Nat.le_of_ble_eq_true rfl, Nat.le_of_ble_eq_true rfl⟩ ⟨Nat.le_of_ble_eq_true rfl, Nat.le_of_ble_eq_true rfl⟩ dX8_plot_14 [] [0, 1, 2] rfl rfl rfl rfl (by decide) rfl (Nat.le_of_ble_eq_true rfl) ?_
    intro v6 w7 h8
    rcases h8 with h8 | h8
    ·
      obtain ⟨rfl, rfl, hf9⟩ := h8
      show X 0 0 [(m, .inr (7, [.ref a_sky, .ref a_kind, .ref a_more, .ref a_strewn, .int (nI tn), .ref a_treeCell, .ref a_treeSort, .ref a_treeLeaves, .int i_raking, .long l_heaps, .int (nI tz), .ref a_tape, .int (nI wr), .int (nI lw), .ref a_code, .ref a_begins, .int i_made, .int i_at, .int i_from, .int i_sort, .int i_value, .int i_open, .ref a_stack, .ref a_dry, .ref a_wet, .ref a_covered, .ref a_hangs, .ref a_off, .int i_fell, .int i_fellToday, .int i_rotten, .int i_raked, .int i_cost, .ref a_dryGo, .ref a_wetGo, .ref a_keptSky, .int i_imaged, .int (nI itn), .int i_oldRaking, .long l_oldHeaps, .int (nI ilw), .ref a_oldSky, .ref a_oldCells, .ref a_sheetSort, .ref a_sheetSize, .ref a_items, .ref a_spare])), (a_kind, .inl (cI, 36, .inl kf)), (a_more, .inl (cI, 36, .inl mf))] [(0, .ref m), (1, .int (nI cc)), (2, .int sh), (3, .int k9), (4, .int m9)] 17 [.int 1]
      have hs1 := hf9
      refine x_if_eq C dX8_plot_17 (tgt := 33) rfl (fun q9 => absurd q9 (by decide)) (fun _ => ?_)
      refine x_iload_n C dX8_plot_20 2 rfl ?_
      refine x_bipush C dX8_plot_21 (v := 10) rfl ?_
      refine x_irem C dX8_plot_23 (by decide) ?_
      refine x_iconst C dX8_plot_24 (v := 1) rfl ?_
      refine x_bipush C dX8_plot_25 (v := 6) rfl ?_
      refine x_callS C (As := [.int (sh - sh / 10 * 10), .int 1, .int 6]) (st := []) (wc := []) (wr := [(m, .inr (7, [.ref a_sky, .ref a_kind, .ref a_more, .ref a_strewn, .int (nI tn), .ref a_treeCell, .ref a_treeSort, .ref a_treeLeaves, .int i_raking, .long l_heaps, .int (nI tz), .ref a_tape, .int (nI wr), .int (nI lw), .ref a_code, .ref a_begins, .int i_made, .int i_at, .int i_from, .int i_sort, .int i_value, .int i_open, .ref a_stack, .ref a_dry, .ref a_wet, .ref a_covered, .ref a_hangs, .ref a_off, .int i_fell, .int i_fellToday, .int i_rotten, .int i_raked, .int i_cost, .ref a_dryGo, .ref a_wetGo, .ref a_keptSky, .int i_imaged, .int (nI itn), .int i_oldRaking, .long l_oldHeaps, .int (nI ilw), .ref a_oldSky, .ref a_oldCells, .ref a_sheetSort, .ref a_sheetSize, .ref a_items, .ref a_spare])), (a_kind, .inl (cI, 36, .inl kf)), (a_more, .inl (cI, 36, .inl mf))]) (c_X8_within l dG cI cM cW cS (sh - sh / 10 * 10) 1 6 ) rZ0_ok (fun _ _ _ _ => trivial) kS_X8_108 hy_X8_within ⟨Nat.le_of_ble_eq_true rfl, Nat.le_of_ble_eq_true rfl⟩ ⟨Nat.le_of_ble_eq_true rfl, Nat.le_of_ble_eq_true rfl⟩ dX8_plot_27 [] [0, 1, 2] rfl rfl rfl rfl (by decide) rfl (Nat.le_of_ble_eq_true rfl) ?_
      intro v10 w11 h12
      rcases h12 with h12 | h12
      ·
        obtain ⟨rfl, rfl, hf13⟩ := h12
        show X 0 0 [(m, .inr (7, [.ref a_sky, .ref a_kind, .ref a_more, .ref a_strewn, .int (nI tn), .ref a_treeCell, .ref a_treeSort, .ref a_treeLeaves, .int i_raking, .long l_heaps, .int (nI tz), .ref a_tape, .int (nI wr), .int (nI lw), .ref a_code, .ref a_begins, .int i_made, .int i_at, .int i_from, .int i_sort, .int i_value, .int i_open, .ref a_stack, .ref a_dry, .ref a_wet, .ref a_covered, .ref a_hangs, .ref a_off, .int i_fell, .int i_fellToday, .int i_rotten, .int i_raked, .int i_cost, .ref a_dryGo, .ref a_wetGo, .ref a_keptSky, .int i_imaged, .int (nI itn), .int i_oldRaking, .long l_oldHeaps, .int (nI ilw), .ref a_oldSky, .ref a_oldCells, .ref a_sheetSort, .ref a_sheetSize, .ref a_items, .ref a_spare])), (a_kind, .inl (cI, 36, .inl kf)), (a_more, .inl (cI, 36, .inl mf))] [(0, .ref m), (1, .int (nI cc)), (2, .int sh), (3, .int k9), (4, .int m9)] 30 [.int 1]
        have hs2 := hf13
        obtain ⟨ra9, hra1, hra6, era⟩ := q_w16 hs1
        obtain ⟨rb9, hrb1, hrb6, erb⟩ := q_w16 hs2
        obtain ⟨ty, hty⟩ : ∃ z, z = min 6 (cc / 6 + ra9) := ⟨_, rfl⟩
        obtain ⟨tx, htx⟩ : ∃ z, z = min 6 (cc % 6 + rb9) := ⟨_, rfl⟩
        refine x_if_ne C dX8_plot_30 (tgt := 36) rfl (fun _ => ?_) (fun q9 => by first | exact absurd q9 (by decide) | exact absurd (by decide) q9)
        refine x_iload_n C dX8_plot_36 3 rfl ?_
        refine x_iconst C dX8_plot_37 (v := 0) rfl ?_
        refine x_iconst C dX8_plot_38 (v := 5) rfl ?_
        refine x_callS C (As := [.int k9, .int 0, .int 5]) (st := []) (wc := []) (wr := [(m, .inr (7, [.ref a_sky, .ref a_kind, .ref a_more, .ref a_strewn, .int (nI tn), .ref a_treeCell, .ref a_treeSort, .ref a_treeLeaves, .int i_raking, .long l_heaps, .int (nI tz), .ref a_tape, .int (nI wr), .int (nI lw), .ref a_code, .ref a_begins, .int i_made, .int i_at, .int i_from, .int i_sort, .int i_value, .int i_open, .ref a_stack, .ref a_dry, .ref a_wet, .ref a_covered, .ref a_hangs, .ref a_off, .int i_fell, .int i_fellToday, .int i_rotten, .int i_raked, .int i_cost, .ref a_dryGo, .ref a_wetGo, .ref a_keptSky, .int i_imaged, .int (nI itn), .int i_oldRaking, .long l_oldHeaps, .int (nI ilw), .ref a_oldSky, .ref a_oldCells, .ref a_sheetSort, .ref a_sheetSize, .ref a_items, .ref a_spare])), (a_kind, .inl (cI, 36, .inl kf)), (a_more, .inl (cI, 36, .inl mf))]) (c_X8_within l dG cI cM cW cS k9 0 5 ) rZ0_ok (fun _ _ _ _ => trivial) kS_X8_108 hy_X8_within ⟨Nat.le_of_ble_eq_true rfl, Nat.le_of_ble_eq_true rfl⟩ ⟨Nat.le_of_ble_eq_true rfl, Nat.le_of_ble_eq_true rfl⟩ dX8_plot_39 [] [0, 1, 2] rfl rfl rfl rfl (by decide) rfl (Nat.le_of_ble_eq_true rfl) ?_
        intro v14 w15 h16
        rcases h16 with h16 | h16
        ·
          obtain ⟨rfl, rfl, hf17⟩ := h16
          show X 0 0 [(m, .inr (7, [.ref a_sky, .ref a_kind, .ref a_more, .ref a_strewn, .int (nI tn), .ref a_treeCell, .ref a_treeSort, .ref a_treeLeaves, .int i_raking, .long l_heaps, .int (nI tz), .ref a_tape, .int (nI wr), .int (nI lw), .ref a_code, .ref a_begins, .int i_made, .int i_at, .int i_from, .int i_sort, .int i_value, .int i_open, .ref a_stack, .ref a_dry, .ref a_wet, .ref a_covered, .ref a_hangs, .ref a_off, .int i_fell, .int i_fellToday, .int i_rotten, .int i_raked, .int i_cost, .ref a_dryGo, .ref a_wetGo, .ref a_keptSky, .int i_imaged, .int (nI itn), .int i_oldRaking, .long l_oldHeaps, .int (nI ilw), .ref a_oldSky, .ref a_oldCells, .ref a_sheetSort, .ref a_sheetSize, .ref a_items, .ref a_spare])), (a_kind, .inl (cI, 36, .inl kf)), (a_more, .inl (cI, 36, .inl mf))] [(0, .ref m), (1, .int (nI cc)), (2, .int sh), (3, .int k9), (4, .int m9)] 42 [.int 1]
          refine x_if_eq C dX8_plot_42 (tgt := 56) rfl (fun q9 => absurd q9 (by decide)) (fun _ => ?_)
          refine x_iload C dX8_plot_45 4 rfl ?_
          refine x_iconst C dX8_plot_47 (v := 0) rfl ?_
          refine x_bipush C dX8_plot_48 (v := 99) rfl ?_
          refine x_callS C (As := [.int m9, .int 0, .int 99]) (st := []) (wc := []) (wr := [(m, .inr (7, [.ref a_sky, .ref a_kind, .ref a_more, .ref a_strewn, .int (nI tn), .ref a_treeCell, .ref a_treeSort, .ref a_treeLeaves, .int i_raking, .long l_heaps, .int (nI tz), .ref a_tape, .int (nI wr), .int (nI lw), .ref a_code, .ref a_begins, .int i_made, .int i_at, .int i_from, .int i_sort, .int i_value, .int i_open, .ref a_stack, .ref a_dry, .ref a_wet, .ref a_covered, .ref a_hangs, .ref a_off, .int i_fell, .int i_fellToday, .int i_rotten, .int i_raked, .int i_cost, .ref a_dryGo, .ref a_wetGo, .ref a_keptSky, .int i_imaged, .int (nI itn), .int i_oldRaking, .long l_oldHeaps, .int (nI ilw), .ref a_oldSky, .ref a_oldCells, .ref a_sheetSort, .ref a_sheetSize, .ref a_items, .ref a_spare])), (a_kind, .inl (cI, 36, .inl kf)), (a_more, .inl (cI, 36, .inl mf))]) (c_X8_within l dG cI cM cW cS m9 0 99 ) rZ0_ok (fun _ _ _ _ => trivial) kS_X8_108 hy_X8_within ⟨Nat.le_of_ble_eq_true rfl, Nat.le_of_ble_eq_true rfl⟩ ⟨Nat.le_of_ble_eq_true rfl, Nat.le_of_ble_eq_true rfl⟩ dX8_plot_50 [] [0, 1, 2] rfl rfl rfl rfl (by decide) rfl (Nat.le_of_ble_eq_true rfl) ?_
          intro v18 w19 h20
          rcases h20 with h20 | h20
          ·
            obtain ⟨rfl, rfl, hf21⟩ := h20
            show X 0 0 [(m, .inr (7, [.ref a_sky, .ref a_kind, .ref a_more, .ref a_strewn, .int (nI tn), .ref a_treeCell, .ref a_treeSort, .ref a_treeLeaves, .int i_raking, .long l_heaps, .int (nI tz), .ref a_tape, .int (nI wr), .int (nI lw), .ref a_code, .ref a_begins, .int i_made, .int i_at, .int i_from, .int i_sort, .int i_value, .int i_open, .ref a_stack, .ref a_dry, .ref a_wet, .ref a_covered, .ref a_hangs, .ref a_off, .int i_fell, .int i_fellToday, .int i_rotten, .int i_raked, .int i_cost, .ref a_dryGo, .ref a_wetGo, .ref a_keptSky, .int i_imaged, .int (nI itn), .int i_oldRaking, .long l_oldHeaps, .int (nI ilw), .ref a_oldSky, .ref a_oldCells, .ref a_sheetSort, .ref a_sheetSize, .ref a_items, .ref a_spare])), (a_kind, .inl (cI, 36, .inl kf)), (a_more, .inl (cI, 36, .inl mf))] [(0, .ref m), (1, .int (nI cc)), (2, .int sh), (3, .int k9), (4, .int m9)] 53 [.int 1]
            have hkk : (0 ≤ k9 ∧ k9 ≤ 5) ∧ 0 ≤ m9 ∧ m9 ≤ 99 := ⟨by assumption, hf21⟩
            refine x_if_ne C dX8_plot_53 (tgt := 59) rfl (fun _ => ?_) (fun q9 => by first | exact absurd q9 (by decide) | exact absurd (by decide) q9)
            refine x_iconst C dX8_plot_59 (v := 0) rfl ?_
            refine x_istore C dX8_plot_60 (by decide) (lv' := [(5, .int 0), (0, .ref m), (1, .int (nI cc)), (2, .int sh), (3, .int k9), (4, .int m9)]) rfl ?_
            refine x_iload_n C dX8_plot_62 2 rfl ?_
            refine x_bipush C dX8_plot_63 (v := 6) rfl ?_
            refine x_idiv C dX8_plot_65 (by decide) ?_
            refine x_topi C (nI (cc / 6)) (q_idiv (a := cc) (b := 6) rfl (rfl : (6 : Int32) = nI 6) (by omega) (by decide) (by decide)) ?_
            refine x_istore C dX8_plot_66 (by decide) (lv' := [(6, .int (nI (cc / 6))), (5, .int 0), (0, .ref m), (1, .int (nI cc)), (2, .int sh), (3, .int k9), (4, .int m9)]) rfl ?_
            have L68_21 : ∀ (fuel : Nat) (y l9 : Nat) (g1 g2 : Nat → Int32), (hy1 : cc / 6 ≤ y) → (hy2 : y ≤ ty) → (hl9 : l9 = (y - cc / 6) * (tx - cc % 6)) → (hg1 : g1 = o_pl kf k9 (cc / 6) y (cc % 6) tx) → (hg2 : g2 = o_pl mf m9 (cc / 6) y (cc % 6) tx) → ty - y < fuel → X 0 0 [(m, .inr (7, [.ref a_sky, .ref a_kind, .ref a_more, .ref a_strewn, .int (nI tn), .ref a_treeCell, .ref a_treeSort, .ref a_treeLeaves, .int i_raking, .long l_heaps, .int (nI tz), .ref a_tape, .int (nI wr), .int (nI lw), .ref a_code, .ref a_begins, .int i_made, .int i_at, .int i_from, .int i_sort, .int i_value, .int i_open, .ref a_stack, .ref a_dry, .ref a_wet, .ref a_covered, .ref a_hangs, .ref a_off, .int i_fell, .int i_fellToday, .int i_rotten, .int i_raked, .int i_cost, .ref a_dryGo, .ref a_wetGo, .ref a_keptSky, .int i_imaged, .int (nI itn), .int i_oldRaking, .long l_oldHeaps, .int (nI ilw), .ref a_oldSky, .ref a_oldCells, .ref a_sheetSort, .ref a_sheetSize, .ref a_items, .ref a_spare])), (a_kind, .inl (cI, 36, .inl g1)), (a_more, .inl (cI, 36, .inl g2))] [(6, .int (nI y)), (5, .int (nI l9)), (4, .int m9), (3, .int k9), (2, .int sh), (1, .int (nI cc)), (0, .ref m)] 68 [] := by
              intro fuel
              induction fuel with
              | zero => intros; omega
              | succ fuel ihL68_21 =>
                intro y l9 g1 g2 hy1 hy2 hl9 hg1 hg2 hfu
                refine x_iload C dX8_plot_68 0 rfl ?_
                refine x_bipush C dX8_plot_70 (v := 6) rfl ?_
                refine x_icmp_ge C dX8_plot_72 (tgt := 147) rfl (fun c23 => ?_) (fun c23 => ?_)
                ·
                  have c23 : y ≥ 6 := q_ge_t rfl (rfl : (6 : Int32) = nI 6) (by omega) (by omega) c23
                  refine x_iload C dX8_plot_147 1 rfl ?_
                  refine E dX8_plot_149 (rfl) ?_
                  exact ⟨(nI l9), g1, g2, rfl, rfl, by rw [hg1, hg2, show y = ty by omega]; exact o_plot_l (by omega) hs1 hs2 hkk era erb hra6 hrb6 hty htx (by rw [hl9, show y = ty by omega])⟩
                ·
                  have c23 : y < 6 := q_ge_f rfl (rfl : (6 : Int32) = nI 6) (by omega) (by omega) c23
                  refine x_iload C dX8_plot_75 0 rfl ?_
                  refine x_iload_n C dX8_plot_77 5 rfl ?_
                  refine x_bipush C dX8_plot_78 (v := 6) rfl ?_
                  refine x_idiv C dX8_plot_80 (by decide) ?_
                  refine x_iload_n C dX8_plot_81 4 rfl ?_
                  refine x_bipush C dX8_plot_82 (v := 10) rfl ?_
                  refine x_idiv C dX8_plot_84 (by decide) ?_
                  refine x_topi C (nI ra9) era ?_
                  refine x_iadd C dX8_plot_85 ?_
                  refine x_icmp_ge C dX8_plot_86 (tgt := 147) rfl (fun c24 => ?_) (fun c24 => ?_)
                  ·
                    have c24 : y ≥ (cc / 6) + ra9 := q_ge_t rfl (q_iadd (a := cc / 6) (b := ra9) (q_idiv (a := cc) (b := 6) rfl (rfl : (6 : Int32) = nI 6) (by omega) (by decide) (by decide)) rfl) (by omega) (by omega) c24
                    refine x_iload C dX8_plot_147 1 rfl ?_
                    refine E dX8_plot_149 (rfl) ?_
                    exact ⟨(nI l9), g1, g2, rfl, rfl, by rw [hg1, hg2, show y = ty by omega]; exact o_plot_l (by omega) hs1 hs2 hkk era erb hra6 hrb6 hty htx (by rw [hl9, show y = ty by omega])⟩
                  ·
                    have c24 : y < (cc / 6) + ra9 := q_ge_f rfl (q_iadd (a := cc / 6) (b := ra9) (q_idiv (a := cc) (b := 6) rfl (rfl : (6 : Int32) = nI 6) (by omega) (by decide) (by decide)) rfl) (by omega) (by omega) c24
                    refine x_iload_n C dX8_plot_89 5 rfl ?_
                    refine x_bipush C dX8_plot_90 (v := 6) rfl ?_
                    refine x_irem C dX8_plot_92 (by decide) ?_
                    refine x_topi C (nI (cc % 6)) (q_irem (a := cc) (b := 6) rfl (rfl : (6 : Int32) = nI 6) (by omega) (by decide) (by decide)) ?_
                    refine x_istore C dX8_plot_93 (by decide) (lv' := [(7, .int (nI (cc % 6))), (6, .int (nI y)), (5, .int (nI l9)), (4, .int m9), (3, .int k9), (2, .int sh), (1, .int (nI cc)), (0, .ref m)]) rfl ?_
                    have L95_24 : ∀ (fuel : Nat) (x9 l9 : Nat) (g1 g2 : Nat → Int32), (hx1 : cc % 6 ≤ x9) → (hx2 : x9 ≤ tx) → (hl9 : l9 = (y - cc / 6) * (tx - cc % 6) + (x9 - cc % 6)) → (hg1 : g1 = o_pi kf k9 (cc / 6) y (cc % 6) tx x9) → (hg2 : g2 = o_pi mf m9 (cc / 6) y (cc % 6) tx x9) → tx - x9 < fuel → X 0 0 [(m, .inr (7, [.ref a_sky, .ref a_kind, .ref a_more, .ref a_strewn, .int (nI tn), .ref a_treeCell, .ref a_treeSort, .ref a_treeLeaves, .int i_raking, .long l_heaps, .int (nI tz), .ref a_tape, .int (nI wr), .int (nI lw), .ref a_code, .ref a_begins, .int i_made, .int i_at, .int i_from, .int i_sort, .int i_value, .int i_open, .ref a_stack, .ref a_dry, .ref a_wet, .ref a_covered, .ref a_hangs, .ref a_off, .int i_fell, .int i_fellToday, .int i_rotten, .int i_raked, .int i_cost, .ref a_dryGo, .ref a_wetGo, .ref a_keptSky, .int i_imaged, .int (nI itn), .int i_oldRaking, .long l_oldHeaps, .int (nI ilw), .ref a_oldSky, .ref a_oldCells, .ref a_sheetSort, .ref a_sheetSize, .ref a_items, .ref a_spare])), (a_kind, .inl (cI, 36, .inl g1)), (a_more, .inl (cI, 36, .inl g2))] [(7, .int (nI x9)), (6, .int (nI y)), (5, .int (nI l9)), (4, .int m9), (3, .int k9), (2, .int sh), (1, .int (nI cc)), (0, .ref m)] 95 [] := by
                      intro fuel
                      induction fuel with
                      | zero => intros; omega
                      | succ fuel ihL95_24 =>
                        intro x9 l9 g1 g2 hx1 hx2 hl9 hg1 hg2 hfu
                        refine x_iload C dX8_plot_95 0 rfl ?_
                        refine x_bipush C dX8_plot_97 (v := 6) rfl ?_
                        refine x_icmp_ge C dX8_plot_99 (tgt := 141) rfl (fun c26 => ?_) (fun c26 => ?_)
                        ·
                          have c26 : x9 ≥ 6 := q_ge_t rfl (rfl : (6 : Int32) = nI 6) (by omega) (by omega) c26
                          refine x_iinc C dX8_plot_141 1 rfl (v := nI (y + 1)) (nI_1 _) (by decide) (lv' := [(6, .int (nI (y + 1))), (7, .int (nI x9)), (5, .int (nI l9)), (4, .int m9), (3, .int k9), (2, .int sh), (1, .int (nI cc)), (0, .ref m)]) rfl ?_
                          refine x_goto C dX8_plot_144 (tgt := 68) rfl ?_
                          refine x_lv C [0, 2, 3, 4, 5, 6, 7] (lv' := [(6, .int (nI (y + 1))), (5, .int (nI l9)), (4, .int m9), (3, .int k9), (2, .int sh), (1, .int (nI cc)), (0, .ref m)]) rfl ?_
                          exact ihL68_21 (y + 1) l9 g1 g2 (by omega) (by omega) (q_cnt hy1 (by rw [hl9]; congr 1; omega)) (by rw [hg1]; exact o_pi_e hy1 (by omega)) (by rw [hg2]; exact o_pi_e hy1 (by omega)) (by omega)
                        ·
                          have c26 : x9 < 6 := q_ge_f rfl (rfl : (6 : Int32) = nI 6) (by omega) (by omega) c26
                          refine x_iload C dX8_plot_102 0 rfl ?_
                          refine x_iload_n C dX8_plot_104 6 rfl ?_
                          refine x_bipush C dX8_plot_105 (v := 6) rfl ?_
                          refine x_irem C dX8_plot_107 (by decide) ?_
                          refine x_iload_n C dX8_plot_108 5 rfl ?_
                          refine x_bipush C dX8_plot_109 (v := 10) rfl ?_
                          refine x_irem C dX8_plot_111 (by decide) ?_
                          refine x_topi C (nI rb9) erb ?_
                          refine x_iadd C dX8_plot_112 ?_
                          refine x_icmp_ge C dX8_plot_113 (tgt := 141) rfl (fun c27 => ?_) (fun c27 => ?_)
                          ·
                            have c27 : x9 ≥ (cc % 6) + rb9 := q_ge_t rfl (q_iadd (a := cc % 6) (b := rb9) (q_irem (a := cc) (b := 6) rfl (rfl : (6 : Int32) = nI 6) (by omega) (by decide) (by decide)) rfl) (by omega) (by omega) c27
                            refine x_iinc C dX8_plot_141 1 rfl (v := nI (y + 1)) (nI_1 _) (by decide) (lv' := [(6, .int (nI (y + 1))), (7, .int (nI x9)), (5, .int (nI l9)), (4, .int m9), (3, .int k9), (2, .int sh), (1, .int (nI cc)), (0, .ref m)]) rfl ?_
                            refine x_goto C dX8_plot_144 (tgt := 68) rfl ?_
                            refine x_lv C [0, 2, 3, 4, 5, 6, 7] (lv' := [(6, .int (nI (y + 1))), (5, .int (nI l9)), (4, .int m9), (3, .int k9), (2, .int sh), (1, .int (nI cc)), (0, .ref m)]) rfl ?_
                            exact ihL68_21 (y + 1) l9 g1 g2 (by omega) (by omega) (q_cnt hy1 (by rw [hl9]; congr 1; omega)) (by rw [hg1]; exact o_pi_e hy1 (by omega)) (by rw [hg2]; exact o_pi_e hy1 (by omega)) (by omega)
                          ·
                            have c27 : x9 < (cc % 6) + rb9 := q_ge_f rfl (q_iadd (a := cc % 6) (b := rb9) (q_irem (a := cc) (b := 6) rfl (rfl : (6 : Int32) = nI 6) (by omega) (by decide) (by decide)) rfl) (by omega) (by omega) c27
                            refine x_aload_n C dX8_plot_116 7 rfl ?_
                            refine x_bipush C dX8_plot_117 (v := 6) rfl ?_
                            refine x_iload C dX8_plot_119 1 rfl ?_
                            refine x_imul C dX8_plot_121 ?_
                            refine x_iload C dX8_plot_122 0 rfl ?_
                            refine x_iadd C dX8_plot_124 ?_
                            refine x_topi C (nI ((6 * y) + x9)) (q_iadd (a := 6 * y) (b := x9) (q_imul (a := 6) (b := y) (rfl : (6 : Int32) = nI 6) rfl) rfl) ?_
                            refine x_iload_n C dX8_plot_125 4 rfl ?_
                            refine x_iload C dX8_plot_126 3 rfl ?_
                            refine x_callV C (As := [.int (nI ((6 * y) + x9)), .int k9, .int m9]) (st := []) (wc := [(m, .inr (7, [.ref a_sky, .ref a_kind, .ref a_more, .ref a_strewn, .int (nI tn), .ref a_treeCell, .ref a_treeSort, .ref a_treeLeaves, .int i_raking, .long l_heaps, .int (nI tz), .ref a_tape, .int (nI wr), .int (nI lw), .ref a_code, .ref a_begins, .int i_made, .int i_at, .int i_from, .int i_sort, .int i_value, .int i_open, .ref a_stack, .ref a_dry, .ref a_wet, .ref a_covered, .ref a_hangs, .ref a_off, .int i_fell, .int i_fellToday, .int i_rotten, .int i_raked, .int i_cost, .ref a_dryGo, .ref a_wetGo, .ref a_keptSky, .int i_imaged, .int (nI itn), .int i_oldRaking, .long l_oldHeaps, .int (nI ilw), .ref a_oldSky, .ref a_oldCells, .ref a_sheetSort, .ref a_sheetSize, .ref a_items, .ref a_spare])), (a_kind, .inl (cI, 36, .inl g1)), (a_more, .inl (cI, 36, .inl g2))]) (wr := []) (c_X8_lay l dG cI cM cW cS m a_sky a_kind a_more a_strewn a_treeCell a_treeSort a_treeLeaves a_tape a_code a_begins a_stack a_dry a_wet a_covered a_hangs a_off a_dryGo a_wetGo a_keptSky a_oldSky a_oldCells a_sheetSort a_sheetSize a_items a_spare tn tz wr lw itn ilw i_raking i_made i_at i_from i_sort i_value i_open i_fell i_fellToday i_rotten i_raked i_cost i_imaged i_oldRaking l_heaps l_oldHeaps g1 g2 (nI ((6 * y) + x9)) k9 m9 ) rZ0_ok (fun _ _ _ _ => trivial) kV_X8_226 ⟨rfl, hy_X8_lay⟩ ⟨Nat.le_of_ble_eq_true rfl, Nat.le_of_ble_eq_true rfl⟩ ⟨Nat.le_of_ble_eq_true rfl, Nat.le_of_ble_eq_true rfl⟩ dX8_plot_128 0 rfl rfl [0, 1, 2] [] rfl rfl rfl rfl (by decide) rfl (Nat.le_of_ble_eq_true rfl) ?_
                            intro v28 w29 h30
                            obtain ⟨r_31, k_32, m_33, rfl, rfl, hf34⟩ := h30
                            show X 0 0 [(m, .inr (7, [.ref a_sky, .ref a_kind, .ref a_more, .ref a_strewn, .int (nI tn), .ref a_treeCell, .ref a_treeSort, .ref a_treeLeaves, .int i_raking, .long l_heaps, .int (nI tz), .ref a_tape, .int (nI wr), .int (nI lw), .ref a_code, .ref a_begins, .int i_made, .int i_at, .int i_from, .int i_sort, .int i_value, .int i_open, .ref a_stack, .ref a_dry, .ref a_wet, .ref a_covered, .ref a_hangs, .ref a_off, .int i_fell, .int i_fellToday, .int i_rotten, .int i_raked, .int i_cost, .ref a_dryGo, .ref a_wetGo, .ref a_keptSky, .int i_imaged, .int (nI itn), .int i_oldRaking, .long l_oldHeaps, .int (nI ilw), .ref a_oldSky, .ref a_oldCells, .ref a_sheetSort, .ref a_sheetSize, .ref a_items, .ref a_spare])), (a_kind, .inl (cI, 36, .inl k_32)), (a_more, .inl (cI, 36, .inl m_33))] [(7, .int (nI x9)), (6, .int (nI y)), (5, .int (nI l9)), (4, .int m9), (3, .int k9), (2, .int sh), (1, .int (nI cc)), (0, .ref m)] 131 [.int r_31]
                            simp only [Prod.mk.injEq] at hf34
                            obtain ⟨rfl, rfl, rfl⟩ := hf34
                            show X 0 0 [(m, .inr (7, [.ref a_sky, .ref a_kind, .ref a_more, .ref a_strewn, .int (nI tn), .ref a_treeCell, .ref a_treeSort, .ref a_treeLeaves, .int i_raking, .long l_heaps, .int (nI tz), .ref a_tape, .int (nI wr), .int (nI lw), .ref a_code, .ref a_begins, .int i_made, .int i_at, .int i_from, .int i_sort, .int i_value, .int i_open, .ref a_stack, .ref a_dry, .ref a_wet, .ref a_covered, .ref a_hangs, .ref a_off, .int i_fell, .int i_fellToday, .int i_rotten, .int i_raked, .int i_cost, .ref a_dryGo, .ref a_wetGo, .ref a_keptSky, .int i_imaged, .int (nI itn), .int i_oldRaking, .long l_oldHeaps, .int (nI ilw), .ref a_oldSky, .ref a_oldCells, .ref a_sheetSort, .ref a_sheetSize, .ref a_items, .ref a_spare])), (a_kind, .inl (cI, 36, .inl (o_lay_f g1 (nI (6 * y + x9)) k9 m9 k9))), (a_more, .inl (cI, 36, .inl (o_lay_f g2 (nI (6 * y + x9)) k9 m9 m9)))] [(7, .int (nI x9)), (6, .int (nI y)), (5, .int (nI l9)), (4, .int m9), (3, .int k9), (2, .int sh), (1, .int (nI cc)), (0, .ref m)] 131 [.int (o_lay g1 (nI (6 * y + x9)) k9 m9)]
                            refine x_pop C dX8_plot_131 rfl ?_
                            show X _ _ _ _ 132 _
                            refine x_iinc C dX8_plot_132 2 rfl (v := nI (l9 + 1)) (nI_1 _) (by decide) (lv' := [(5, .int (nI (l9 + 1))), (7, .int (nI x9)), (6, .int (nI y)), (4, .int m9), (3, .int k9), (2, .int sh), (1, .int (nI cc)), (0, .ref m)]) rfl ?_
                            refine x_iinc C dX8_plot_135 1 rfl (v := nI (x9 + 1)) (nI_1 _) (by decide) (lv' := [(7, .int (nI (x9 + 1))), (5, .int (nI (l9 + 1))), (6, .int (nI y)), (4, .int m9), (3, .int k9), (2, .int sh), (1, .int (nI cc)), (0, .ref m)]) rfl ?_
                            refine x_goto C dX8_plot_138 (tgt := 95) rfl ?_
                            refine x_lv C [0, 2, 1, 3, 4, 5, 6, 7] (lv' := [(7, .int (nI (x9 + 1))), (6, .int (nI y)), (5, .int (nI (l9 + 1))), (4, .int m9), (3, .int k9), (2, .int sh), (1, .int (nI cc)), (0, .ref m)]) rfl ?_
                            exact ihL95_24 (x9 + 1) (l9 + 1) (o_lay_f g1 (nI (6 * y + x9)) k9 m9 k9) (o_lay_f g2 (nI (6 * y + x9)) k9 m9 m9) (by omega) (by omega) (by rw [hl9]; omega) (by rw [o_lay_ft (by omega) hkk, hg1]; exact o_pi_s hx1 (by omega)) (by rw [o_lay_ft (by omega) hkk, hg2]; exact o_pi_s hx1 (by omega)) (by omega)
                    exact L95_24 ((tx - (cc % 6)) + 1) (cc % 6) l9 g1 g2 (Nat.le_refl _) (by omega) (by rw [hl9, Nat.sub_self, Nat.add_zero]) (by rw [hg1]; exact o_pi_0) (by rw [hg2]; exact o_pi_0) (Nat.lt_succ_self _)
            refine x_lv C [0, 1, 6, 5, 4, 3, 2] (lv' := [(6, .int (nI (cc / 6))), (5, .int 0), (4, .int m9), (3, .int k9), (2, .int sh), (1, .int (nI cc)), (0, .ref m)]) rfl ?_
            show X 0 0 [(m, .inr (7, [.ref a_sky, .ref a_kind, .ref a_more, .ref a_strewn, .int (nI tn), .ref a_treeCell, .ref a_treeSort, .ref a_treeLeaves, .int i_raking, .long l_heaps, .int (nI tz), .ref a_tape, .int (nI wr), .int (nI lw), .ref a_code, .ref a_begins, .int i_made, .int i_at, .int i_from, .int i_sort, .int i_value, .int i_open, .ref a_stack, .ref a_dry, .ref a_wet, .ref a_covered, .ref a_hangs, .ref a_off, .int i_fell, .int i_fellToday, .int i_rotten, .int i_raked, .int i_cost, .ref a_dryGo, .ref a_wetGo, .ref a_keptSky, .int i_imaged, .int (nI itn), .int i_oldRaking, .long l_oldHeaps, .int (nI ilw), .ref a_oldSky, .ref a_oldCells, .ref a_sheetSort, .ref a_sheetSize, .ref a_items, .ref a_spare])), (a_kind, .inl (cI, 36, .inl kf)), (a_more, .inl (cI, 36, .inl mf))] [(6, .int (nI (cc / 6))), (5, .int (nI 0)), (4, .int m9), (3, .int k9), (2, .int sh), (1, .int (nI cc)), (0, .ref m)] 68 []
            exact L68_21 ((ty - (cc / 6)) + 1) (cc / 6) 0 kf mf (Nat.le_refl _) (by omega) (by rw [Nat.sub_self, Nat.zero_mul]) (o_pl_0) (o_pl_0) (Nat.lt_succ_self _)
          ·
            obtain ⟨rfl, rfl, hf35⟩ := h20
            show X 0 0 [(m, .inr (7, [.ref a_sky, .ref a_kind, .ref a_more, .ref a_strewn, .int (nI tn), .ref a_treeCell, .ref a_treeSort, .ref a_treeLeaves, .int i_raking, .long l_heaps, .int (nI tz), .ref a_tape, .int (nI wr), .int (nI lw), .ref a_code, .ref a_begins, .int i_made, .int i_at, .int i_from, .int i_sort, .int i_value, .int i_open, .ref a_stack, .ref a_dry, .ref a_wet, .ref a_covered, .ref a_hangs, .ref a_off, .int i_fell, .int i_fellToday, .int i_rotten, .int i_raked, .int i_cost, .ref a_dryGo, .ref a_wetGo, .ref a_keptSky, .int i_imaged, .int (nI itn), .int i_oldRaking, .long l_oldHeaps, .int (nI ilw), .ref a_oldSky, .ref a_oldCells, .ref a_sheetSort, .ref a_sheetSize, .ref a_items, .ref a_spare])), (a_kind, .inl (cI, 36, .inl kf)), (a_more, .inl (cI, 36, .inl mf))] [(0, .ref m), (1, .int (nI cc)), (2, .int sh), (3, .int k9), (4, .int m9)] 53 [.int 0]
            refine x_if_ne C dX8_plot_53 (tgt := 59) rfl (fun q9 => absurd q9 (by decide)) (fun _ => ?_)
            refine x_bipush C dX8_plot_56 (v := (-7)) rfl ?_
            refine E dX8_plot_58 (rfl) ?_
            exact ⟨(-7), kf, mf, rfl, rfl, by (unfold o_plot o_plot_f); (try simp only [hncc]); (repeat (first | rw [if_pos (by first | (rw [if_pos (by decide)]; assumption) | (rw [if_neg (by decide), if_pos (by decide)]; assumption) | (rw [if_neg (by decide), if_neg (by decide)]; assumption) | assumption | decide | omega | exact o_one_t (by assumption) | (rw [o_one_f (by assumption)]; decide) | exact ⟨by assumption, by assumption⟩ | exact fun h9 => absurd h9.1 (by assumption) | exact fun h9 => absurd h9.2 (by assumption))] | rw [if_neg (by first | (rw [if_pos (by decide)]; assumption) | (rw [if_neg (by decide), if_pos (by decide)]; assumption) | (rw [if_neg (by decide), if_neg (by decide)]; assumption) | assumption | decide | omega | exact o_one_t (by assumption) | (rw [o_one_f (by assumption)]; decide) | exact ⟨by assumption, by assumption⟩ | exact fun h9 => absurd h9.1 (by assumption) | exact fun h9 => absurd h9.2 (by assumption))])); all_goals (first | rfl)⟩
        ·
          obtain ⟨rfl, rfl, hf36⟩ := h16
          show X 0 0 [(m, .inr (7, [.ref a_sky, .ref a_kind, .ref a_more, .ref a_strewn, .int (nI tn), .ref a_treeCell, .ref a_treeSort, .ref a_treeLeaves, .int i_raking, .long l_heaps, .int (nI tz), .ref a_tape, .int (nI wr), .int (nI lw), .ref a_code, .ref a_begins, .int i_made, .int i_at, .int i_from, .int i_sort, .int i_value, .int i_open, .ref a_stack, .ref a_dry, .ref a_wet, .ref a_covered, .ref a_hangs, .ref a_off, .int i_fell, .int i_fellToday, .int i_rotten, .int i_raked, .int i_cost, .ref a_dryGo, .ref a_wetGo, .ref a_keptSky, .int i_imaged, .int (nI itn), .int i_oldRaking, .long l_oldHeaps, .int (nI ilw), .ref a_oldSky, .ref a_oldCells, .ref a_sheetSort, .ref a_sheetSize, .ref a_items, .ref a_spare])), (a_kind, .inl (cI, 36, .inl kf)), (a_more, .inl (cI, 36, .inl mf))] [(0, .ref m), (1, .int (nI cc)), (2, .int sh), (3, .int k9), (4, .int m9)] 42 [.int 0]
          refine x_if_eq C dX8_plot_42 (tgt := 56) rfl (fun _ => ?_) (fun q9 => by first | exact absurd q9 (by decide) | exact absurd (by decide) q9)
          refine x_bipush C dX8_plot_56 (v := (-7)) rfl ?_
          refine E dX8_plot_58 (rfl) ?_
          exact ⟨(-7), kf, mf, rfl, rfl, by (unfold o_plot o_plot_f); (try simp only [hncc]); (repeat (first | rw [if_pos (by first | (rw [if_pos (by decide)]; assumption) | (rw [if_neg (by decide), if_pos (by decide)]; assumption) | (rw [if_neg (by decide), if_neg (by decide)]; assumption) | assumption | decide | omega | exact o_one_t (by assumption) | (rw [o_one_f (by assumption)]; decide) | exact ⟨by assumption, by assumption⟩ | exact fun h9 => absurd h9.1 (by assumption) | exact fun h9 => absurd h9.2 (by assumption))] | rw [if_neg (by first | (rw [if_pos (by decide)]; assumption) | (rw [if_neg (by decide), if_pos (by decide)]; assumption) | (rw [if_neg (by decide), if_neg (by decide)]; assumption) | assumption | decide | omega | exact o_one_t (by assumption) | (rw [o_one_f (by assumption)]; decide) | exact ⟨by assumption, by assumption⟩ | exact fun h9 => absurd h9.1 (by assumption) | exact fun h9 => absurd h9.2 (by assumption))])); all_goals (first | rfl)⟩
      ·
        obtain ⟨rfl, rfl, hf37⟩ := h12
        show X 0 0 [(m, .inr (7, [.ref a_sky, .ref a_kind, .ref a_more, .ref a_strewn, .int (nI tn), .ref a_treeCell, .ref a_treeSort, .ref a_treeLeaves, .int i_raking, .long l_heaps, .int (nI tz), .ref a_tape, .int (nI wr), .int (nI lw), .ref a_code, .ref a_begins, .int i_made, .int i_at, .int i_from, .int i_sort, .int i_value, .int i_open, .ref a_stack, .ref a_dry, .ref a_wet, .ref a_covered, .ref a_hangs, .ref a_off, .int i_fell, .int i_fellToday, .int i_rotten, .int i_raked, .int i_cost, .ref a_dryGo, .ref a_wetGo, .ref a_keptSky, .int i_imaged, .int (nI itn), .int i_oldRaking, .long l_oldHeaps, .int (nI ilw), .ref a_oldSky, .ref a_oldCells, .ref a_sheetSort, .ref a_sheetSize, .ref a_items, .ref a_spare])), (a_kind, .inl (cI, 36, .inl kf)), (a_more, .inl (cI, 36, .inl mf))] [(0, .ref m), (1, .int (nI cc)), (2, .int sh), (3, .int k9), (4, .int m9)] 30 [.int 0]
        refine x_if_ne C dX8_plot_30 (tgt := 36) rfl (fun q9 => absurd q9 (by decide)) (fun _ => ?_)
        refine x_bipush C dX8_plot_33 (v := (-2)) rfl ?_
        refine E dX8_plot_35 (rfl) ?_
        exact ⟨(-2), kf, mf, rfl, rfl, by (unfold o_plot o_plot_f); (try simp only [hncc]); (repeat (first | rw [if_pos (by first | (rw [if_pos (by decide)]; assumption) | (rw [if_neg (by decide), if_pos (by decide)]; assumption) | (rw [if_neg (by decide), if_neg (by decide)]; assumption) | assumption | decide | omega | exact o_one_t (by assumption) | (rw [o_one_f (by assumption)]; decide) | exact ⟨by assumption, by assumption⟩ | exact fun h9 => absurd h9.1 (by assumption) | exact fun h9 => absurd h9.2 (by assumption))] | rw [if_neg (by first | (rw [if_pos (by decide)]; assumption) | (rw [if_neg (by decide), if_pos (by decide)]; assumption) | (rw [if_neg (by decide), if_neg (by decide)]; assumption) | assumption | decide | omega | exact o_one_t (by assumption) | (rw [o_one_f (by assumption)]; decide) | exact ⟨by assumption, by assumption⟩ | exact fun h9 => absurd h9.1 (by assumption) | exact fun h9 => absurd h9.2 (by assumption))])); all_goals (first | rfl)⟩
    ·
      obtain ⟨rfl, rfl, hf38⟩ := h8
      show X 0 0 [(m, .inr (7, [.ref a_sky, .ref a_kind, .ref a_more, .ref a_strewn, .int (nI tn), .ref a_treeCell, .ref a_treeSort, .ref a_treeLeaves, .int i_raking, .long l_heaps, .int (nI tz), .ref a_tape, .int (nI wr), .int (nI lw), .ref a_code, .ref a_begins, .int i_made, .int i_at, .int i_from, .int i_sort, .int i_value, .int i_open, .ref a_stack, .ref a_dry, .ref a_wet, .ref a_covered, .ref a_hangs, .ref a_off, .int i_fell, .int i_fellToday, .int i_rotten, .int i_raked, .int i_cost, .ref a_dryGo, .ref a_wetGo, .ref a_keptSky, .int i_imaged, .int (nI itn), .int i_oldRaking, .long l_oldHeaps, .int (nI ilw), .ref a_oldSky, .ref a_oldCells, .ref a_sheetSort, .ref a_sheetSize, .ref a_items, .ref a_spare])), (a_kind, .inl (cI, 36, .inl kf)), (a_more, .inl (cI, 36, .inl mf))] [(0, .ref m), (1, .int (nI cc)), (2, .int sh), (3, .int k9), (4, .int m9)] 17 [.int 0]
      refine x_if_eq C dX8_plot_17 (tgt := 33) rfl (fun _ => ?_) (fun q9 => by first | exact absurd q9 (by decide) | exact absurd (by decide) q9)
      refine x_bipush C dX8_plot_33 (v := (-2)) rfl ?_
      refine E dX8_plot_35 (rfl) ?_
      exact ⟨(-2), kf, mf, rfl, rfl, by (unfold o_plot o_plot_f); (try simp only [hncc]); (repeat (first | rw [if_pos (by first | (rw [if_pos (by decide)]; assumption) | (rw [if_neg (by decide), if_pos (by decide)]; assumption) | (rw [if_neg (by decide), if_neg (by decide)]; assumption) | assumption | decide | omega | exact o_one_t (by assumption) | (rw [o_one_f (by assumption)]; decide) | exact ⟨by assumption, by assumption⟩ | exact fun h9 => absurd h9.1 (by assumption) | exact fun h9 => absurd h9.2 (by assumption))] | rw [if_neg (by first | (rw [if_pos (by decide)]; assumption) | (rw [if_neg (by decide), if_pos (by decide)]; assumption) | (rw [if_neg (by decide), if_neg (by decide)]; assumption) | assumption | decide | omega | exact o_one_t (by assumption) | (rw [o_one_f (by assumption)]; decide) | exact ⟨by assumption, by assumption⟩ | exact fun h9 => absurd h9.1 (by assumption) | exact fun h9 => absurd h9.2 (by assumption))])); all_goals (first | rfl)⟩
  ·
    obtain ⟨rfl, rfl, hf39⟩ := h3
    show X 0 0 [(m, .inr (7, [.ref a_sky, .ref a_kind, .ref a_more, .ref a_strewn, .int (nI tn), .ref a_treeCell, .ref a_treeSort, .ref a_treeLeaves, .int i_raking, .long l_heaps, .int (nI tz), .ref a_tape, .int (nI wr), .int (nI lw), .ref a_code, .ref a_begins, .int i_made, .int i_at, .int i_from, .int i_sort, .int i_value, .int i_open, .ref a_stack, .ref a_dry, .ref a_wet, .ref a_covered, .ref a_hangs, .ref a_off, .int i_fell, .int i_fellToday, .int i_rotten, .int i_raked, .int i_cost, .ref a_dryGo, .ref a_wetGo, .ref a_keptSky, .int i_imaged, .int (nI itn), .int i_oldRaking, .long l_oldHeaps, .int (nI ilw), .ref a_oldSky, .ref a_oldCells, .ref a_sheetSort, .ref a_sheetSize, .ref a_items, .ref a_spare])), (a_kind, .inl (cI, 36, .inl kf)), (a_more, .inl (cI, 36, .inl mf))] [(0, .ref m), (1, .int c), (2, .int sh), (3, .int k9), (4, .int m9)] 4 [.int 0]
    refine x_if_eq C dX8_plot_4 (tgt := 33) rfl (fun _ => ?_) (fun q9 => by first | exact absurd q9 (by decide) | exact absurd (by decide) q9)
    refine x_bipush C dX8_plot_33 (v := (-2)) rfl ?_
    refine E dX8_plot_35 (rfl) ?_
    exact ⟨(-2), kf, mf, rfl, rfl, by (unfold o_plot o_plot_f); (repeat (first | rw [if_pos (by first | (rw [if_pos (by decide)]; assumption) | (rw [if_neg (by decide), if_pos (by decide)]; assumption) | (rw [if_neg (by decide), if_neg (by decide)]; assumption) | assumption | decide | omega | exact o_one_t (by assumption) | (rw [o_one_f (by assumption)]; decide) | exact ⟨by assumption, by assumption⟩ | exact fun h9 => absurd h9.1 (by assumption) | exact fun h9 => absurd h9.2 (by assumption))] | rw [if_neg (by first | (rw [if_pos (by decide)]; assumption) | (rw [if_neg (by decide), if_pos (by decide)]; assumption) | (rw [if_neg (by decide), if_neg (by decide)]; assumption) | assumption | decide | omega | exact o_one_t (by assumption) | (rw [o_one_f (by assumption)]; decide) | exact ⟨by assumption, by assumption⟩ | exact fun h9 => absurd h9.1 (by assumption) | exact fun h9 => absurd h9.2 (by assumption))])); all_goals (first | rfl)⟩
set_option maxHeartbeats 4000000 in
set_option maxRecDepth 100000 in
theorem c_X8_copy (l : Launch) (dG : va_G) (cI cM cW cS : ClassId) (m a_sky a_kind a_more a_strewn a_treeCell a_treeSort a_treeLeaves a_tape a_code a_begins a_stack a_dry a_wet a_covered a_hangs a_off a_dryGo a_wetGo a_keptSky a_oldSky a_oldCells a_sheetSort a_sheetSize a_items a_spare : Nat) (tn tz wr lw itn ilw : Nat) (i_raking i_made i_at i_from i_sort i_value i_open i_fell i_fellToday i_rotten i_raked i_cost i_imaged i_oldRaking : Int32) (l_heaps l_oldHeaps : Int64) (ssf itf spf : Nat → Int32) (nzf : Nat → Nat) (s i t j n : Int32) (hnz : ∀ j, j < 4 → nzf j ≤ 40) : rM l yX8_copy cX8_copy 7 (some .int) ({ frames := 1, cells := 0, slots := 0, locals := 22 } : Room) dG (tY cI cM cW cS) rZ0 [.ref m, .int s, .int i, .int t, .int j, .int n] [(m, .inr (7, [.ref a_sky, .ref a_kind, .ref a_more, .ref a_strewn, .int (nI tn), .ref a_treeCell, .ref a_treeSort, .ref a_treeLeaves, .int i_raking, .long l_heaps, .int (nI tz), .ref a_tape, .int (nI wr), .int (nI lw), .ref a_code, .ref a_begins, .int i_made, .int i_at, .int i_from, .int i_sort, .int i_value, .int i_open, .ref a_stack, .ref a_dry, .ref a_wet, .ref a_covered, .ref a_hangs, .ref a_off, .int i_fell, .int i_fellToday, .int i_rotten, .int i_raked, .int i_cost, .ref a_dryGo, .ref a_wetGo, .ref a_keptSky, .int i_imaged, .int (nI itn), .int i_oldRaking, .long l_oldHeaps, .int (nI ilw), .ref a_oldSky, .ref a_oldCells, .ref a_sheetSort, .ref a_sheetSize, .ref a_items, .ref a_spare])), (a_sheetSort, .inl (cI, 4, .inl ssf)), (a_sheetSize, .inl (cI, 4, .inl (nIf nzf))), (a_items, .inl (cI, 160, .inl itf)), (a_spare, .inl (cI, 40, .inl spf))] (fun ov oz => ∃ (r : Int32) (it' : Nat → Int32) (sp' : Nat → Int32), ov = some (.int r) ∧ oz = [(m, .inr (7, [.ref a_sky, .ref a_kind, .ref a_more, .ref a_strewn, .int (nI tn), .ref a_treeCell, .ref a_treeSort, .ref a_treeLeaves, .int i_raking, .long l_heaps, .int (nI tz), .ref a_tape, .int (nI wr), .int (nI lw), .ref a_code, .ref a_begins, .int i_made, .int i_at, .int i_from, .int i_sort, .int i_value, .int i_open, .ref a_stack, .ref a_dry, .ref a_wet, .ref a_covered, .ref a_hangs, .ref a_off, .int i_fell, .int i_fellToday, .int i_rotten, .int i_raked, .int i_cost, .ref a_dryGo, .ref a_wetGo, .ref a_keptSky, .int i_imaged, .int (nI itn), .int i_oldRaking, .long l_oldHeaps, .int (nI ilw), .ref a_oldSky, .ref a_oldCells, .ref a_sheetSort, .ref a_sheetSize, .ref a_items, .ref a_spare])), (a_sheetSort, .inl (cI, 4, .inl ssf)), (a_sheetSize, .inl (cI, 4, .inl (nIf nzf))), (a_items, .inl (cI, 160, .inl it')), (a_spare, .inl (cI, 40, .inl sp'))] ∧ (r, it') = (o_copy (ssf (o_n s)) (nzf (o_n s)) (ssf (o_n t)) (nzf (o_n t)) s i t j n, o_mcopy_g itf (ssf (o_n s)) (ssf (o_n t)) (nzf (o_n s)) (nzf (o_n t)) s i t j n)) := by
  refine rM_ofI rfl (Nat.le_of_ble_eq_true rfl) rfl (fun X C E => ?_)
  show X 0 0 [(m, .inr (7, [.ref a_sky, .ref a_kind, .ref a_more, .ref a_strewn, .int (nI tn), .ref a_treeCell, .ref a_treeSort, .ref a_treeLeaves, .int i_raking, .long l_heaps, .int (nI tz), .ref a_tape, .int (nI wr), .int (nI lw), .ref a_code, .ref a_begins, .int i_made, .int i_at, .int i_from, .int i_sort, .int i_value, .int i_open, .ref a_stack, .ref a_dry, .ref a_wet, .ref a_covered, .ref a_hangs, .ref a_off, .int i_fell, .int i_fellToday, .int i_rotten, .int i_raked, .int i_cost, .ref a_dryGo, .ref a_wetGo, .ref a_keptSky, .int i_imaged, .int (nI itn), .int i_oldRaking, .long l_oldHeaps, .int (nI ilw), .ref a_oldSky, .ref a_oldCells, .ref a_sheetSort, .ref a_sheetSize, .ref a_items, .ref a_spare])), (a_sheetSort, .inl (cI, 4, .inl ssf)), (a_sheetSize, .inl (cI, 4, .inl (nIf nzf))), (a_items, .inl (cI, 160, .inl itf)), (a_spare, .inl (cI, 40, .inl spf))] [(0, .ref m), (1, .int s), (2, .int i), (3, .int t), (4, .int j), (5, .int n)] 0 []
  refine x_iload_n C dX8_copy_0 1 rfl ?_
  refine x_iconst C dX8_copy_1 (v := 0) rfl ?_
  refine x_iconst C dX8_copy_2 (v := 3) rfl ?_
  refine x_callS C (As := [.int s, .int 0, .int 3]) (st := []) (wc := []) (wr := [(m, .inr (7, [.ref a_sky, .ref a_kind, .ref a_more, .ref a_strewn, .int (nI tn), .ref a_treeCell, .ref a_treeSort, .ref a_treeLeaves, .int i_raking, .long l_heaps, .int (nI tz), .ref a_tape, .int (nI wr), .int (nI lw), .ref a_code, .ref a_begins, .int i_made, .int i_at, .int i_from, .int i_sort, .int i_value, .int i_open, .ref a_stack, .ref a_dry, .ref a_wet, .ref a_covered, .ref a_hangs, .ref a_off, .int i_fell, .int i_fellToday, .int i_rotten, .int i_raked, .int i_cost, .ref a_dryGo, .ref a_wetGo, .ref a_keptSky, .int i_imaged, .int (nI itn), .int i_oldRaking, .long l_oldHeaps, .int (nI ilw), .ref a_oldSky, .ref a_oldCells, .ref a_sheetSort, .ref a_sheetSize, .ref a_items, .ref a_spare])), (a_sheetSort, .inl (cI, 4, .inl ssf)), (a_sheetSize, .inl (cI, 4, .inl (nIf nzf))), (a_items, .inl (cI, 160, .inl itf)), (a_spare, .inl (cI, 40, .inl spf))]) (c_X8_within l dG cI cM cW cS s 0 3 ) rZ0_ok (fun _ _ _ _ => trivial) kS_X8_108 hy_X8_within ⟨Nat.le_of_ble_eq_true rfl, Nat.le_of_ble_eq_true rfl⟩ ⟨Nat.le_of_ble_eq_true rfl, Nat.le_of_ble_eq_true rfl⟩ dX8_copy_3 [] [0, 1, 2, 3, 4] rfl rfl rfl rfl (by decide) rfl (Nat.le_of_ble_eq_true rfl) ?_
  intro v1 w2 h3
  rcases h3 with h3 | h3
  ·
    obtain ⟨rfl, rfl, hf4⟩ := h3
    show X 0 0 [(m, .inr (7, [.ref a_sky, .ref a_kind, .ref a_more, .ref a_strewn, .int (nI tn), .ref a_treeCell, .ref a_treeSort, .ref a_treeLeaves, .int i_raking, .long l_heaps, .int (nI tz), .ref a_tape, .int (nI wr), .int (nI lw), .ref a_code, .ref a_begins, .int i_made, .int i_at, .int i_from, .int i_sort, .int i_value, .int i_open, .ref a_stack, .ref a_dry, .ref a_wet, .ref a_covered, .ref a_hangs, .ref a_off, .int i_fell, .int i_fellToday, .int i_rotten, .int i_raked, .int i_cost, .ref a_dryGo, .ref a_wetGo, .ref a_keptSky, .int i_imaged, .int (nI itn), .int i_oldRaking, .long l_oldHeaps, .int (nI ilw), .ref a_oldSky, .ref a_oldCells, .ref a_sheetSort, .ref a_sheetSize, .ref a_items, .ref a_spare])), (a_sheetSort, .inl (cI, 4, .inl ssf)), (a_sheetSize, .inl (cI, 4, .inl (nIf nzf))), (a_items, .inl (cI, 160, .inl itf)), (a_spare, .inl (cI, 40, .inl spf))] [(0, .ref m), (1, .int s), (2, .int i), (3, .int t), (4, .int j), (5, .int n)] 6 [.int 1]
    have hr5 := hf4
    obtain ⟨j1, hj1, rfl⟩ := q_w (n := 3) rfl (by decide) hf4
    have hnj1 : o_n (nI j1) = j1 := o_n_nI (by omega)
    refine x_if_eq C dX8_copy_6 (tgt := 18) rfl (fun q9 => absurd q9 (by decide)) (fun _ => ?_)
    refine x_iload_n C dX8_copy_9 3 rfl ?_
    refine x_iconst C dX8_copy_10 (v := 0) rfl ?_
    refine x_iconst C dX8_copy_11 (v := 3) rfl ?_
    refine x_callS C (As := [.int t, .int 0, .int 3]) (st := []) (wc := []) (wr := [(m, .inr (7, [.ref a_sky, .ref a_kind, .ref a_more, .ref a_strewn, .int (nI tn), .ref a_treeCell, .ref a_treeSort, .ref a_treeLeaves, .int i_raking, .long l_heaps, .int (nI tz), .ref a_tape, .int (nI wr), .int (nI lw), .ref a_code, .ref a_begins, .int i_made, .int i_at, .int i_from, .int i_sort, .int i_value, .int i_open, .ref a_stack, .ref a_dry, .ref a_wet, .ref a_covered, .ref a_hangs, .ref a_off, .int i_fell, .int i_fellToday, .int i_rotten, .int i_raked, .int i_cost, .ref a_dryGo, .ref a_wetGo, .ref a_keptSky, .int i_imaged, .int (nI itn), .int i_oldRaking, .long l_oldHeaps, .int (nI ilw), .ref a_oldSky, .ref a_oldCells, .ref a_sheetSort, .ref a_sheetSize, .ref a_items, .ref a_spare])), (a_sheetSort, .inl (cI, 4, .inl ssf)), (a_sheetSize, .inl (cI, 4, .inl (nIf nzf))), (a_items, .inl (cI, 160, .inl itf)), (a_spare, .inl (cI, 40, .inl spf))]) (c_X8_within l dG cI cM cW cS t 0 3 ) rZ0_ok (fun _ _ _ _ => trivial) kS_X8_108 hy_X8_within ⟨Nat.le_of_ble_eq_true rfl, Nat.le_of_ble_eq_true rfl⟩ ⟨Nat.le_of_ble_eq_true rfl, Nat.le_of_ble_eq_true rfl⟩ dX8_copy_12 [] [0, 1, 2, 3, 4] rfl rfl rfl rfl (by decide) rfl (Nat.le_of_ble_eq_true rfl) ?_
    intro v6 w7 h8
    rcases h8 with h8 | h8
    ·
      obtain ⟨rfl, rfl, hf9⟩ := h8
      show X 0 0 [(m, .inr (7, [.ref a_sky, .ref a_kind, .ref a_more, .ref a_strewn, .int (nI tn), .ref a_treeCell, .ref a_treeSort, .ref a_treeLeaves, .int i_raking, .long l_heaps, .int (nI tz), .ref a_tape, .int (nI wr), .int (nI lw), .ref a_code, .ref a_begins, .int i_made, .int i_at, .int i_from, .int i_sort, .int i_value, .int i_open, .ref a_stack, .ref a_dry, .ref a_wet, .ref a_covered, .ref a_hangs, .ref a_off, .int i_fell, .int i_fellToday, .int i_rotten, .int i_raked, .int i_cost, .ref a_dryGo, .ref a_wetGo, .ref a_keptSky, .int i_imaged, .int (nI itn), .int i_oldRaking, .long l_oldHeaps, .int (nI ilw), .ref a_oldSky, .ref a_oldCells, .ref a_sheetSort, .ref a_sheetSize, .ref a_items, .ref a_spare])), (a_sheetSort, .inl (cI, 4, .inl ssf)), (a_sheetSize, .inl (cI, 4, .inl (nIf nzf))), (a_items, .inl (cI, 160, .inl itf)), (a_spare, .inl (cI, 40, .inl spf))] [(0, .ref m), (1, .int (nI j1)), (2, .int i), (3, .int t), (4, .int j), (5, .int n)] 15 [.int 1]
      have hr10 := hf9
      obtain ⟨j2, hj2, rfl⟩ := q_w (n := 3) rfl (by decide) hf9
      have hnj2 : o_n (nI j2) = j2 := o_n_nI (by omega)
      refine x_if_ne C dX8_copy_15 (tgt := 21) rfl (fun _ => ?_) (fun q9 => by first | exact absurd q9 (by decide) | exact absurd (by decide) q9)
      refine x_aload_n C dX8_copy_21 0 rfl ?_
      refine x_get C inlX8 rfl 43 (by decide) gw_11_15 dX8_copy_22 0 rfl rfl ?_
      refine x_iload_n C dX8_copy_25 1 rfl ?_
      refine x_iaload C 0 rfl dX8_copy_26 j1 (q_cl rfl (by omega)) (q_ix rfl (by omega) (by omega)) 1 rfl ?_
      refine x_iconst C dX8_copy_27 (v := (-1)) rfl ?_
      refine x_icmp_eq C dX8_copy_28 (tgt := 41) rfl (fun c11 => ?_) (fun c11 => ?_)
      ·
        have hm1 := c11
        refine x_bipush C dX8_copy_41 (v := (-11)) rfl ?_
        refine E dX8_copy_43 (rfl) ?_
        exact ⟨(-11), itf, spf, rfl, rfl, by (unfold o_copy o_mcopy_g); (try simp only [hnj1, hnj2]); (repeat (first | rw [if_pos (by first | (rw [if_pos (by decide)]; assumption) | (rw [if_neg (by decide), if_pos (by decide)]; assumption) | (rw [if_neg (by decide), if_neg (by decide)]; assumption) | assumption | decide | omega | exact o_one_t (by assumption) | (rw [o_one_f (by assumption)]; decide) | exact ⟨by assumption, by assumption⟩ | exact fun h9 => absurd h9.1 (by assumption) | exact fun h9 => absurd h9.2 (by assumption))] | rw [if_neg (by first | (rw [if_pos (by decide)]; assumption) | (rw [if_neg (by decide), if_pos (by decide)]; assumption) | (rw [if_neg (by decide), if_neg (by decide)]; assumption) | assumption | decide | omega | exact o_one_t (by assumption) | (rw [o_one_f (by assumption)]; decide) | exact ⟨by assumption, by assumption⟩ | exact fun h9 => absurd h9.1 (by assumption) | exact fun h9 => absurd h9.2 (by assumption))])); all_goals (first | rfl)⟩
      ·
        have hm1 := c11
        refine x_aload_n C dX8_copy_31 0 rfl ?_
        refine x_get C inlX8 rfl 43 (by decide) gw_11_15 dX8_copy_32 0 rfl rfl ?_
        refine x_iload_n C dX8_copy_35 3 rfl ?_
        refine x_iaload C 0 rfl dX8_copy_36 j2 (q_cl rfl (by omega)) (q_ix rfl (by omega) (by omega)) 1 rfl ?_
        refine x_iconst C dX8_copy_37 (v := (-1)) rfl ?_
        refine x_icmp_ne C dX8_copy_38 (tgt := 44) rfl (fun c12 => ?_) (fun c12 => ?_)
        ·
          have hm2 := c12
          refine x_aload_n C dX8_copy_44 0 rfl ?_
          refine x_get C inlX8 rfl 43 (by decide) gw_11_15 dX8_copy_45 0 rfl rfl ?_
          refine x_iload_n C dX8_copy_48 1 rfl ?_
          refine x_iaload C 0 rfl dX8_copy_49 j1 (q_cl rfl (by omega)) (q_ix rfl (by omega) (by omega)) 1 rfl ?_
          refine x_aload_n C dX8_copy_50 0 rfl ?_
          refine x_get C inlX8 rfl 43 (by decide) gw_11_15 dX8_copy_51 0 rfl rfl ?_
          refine x_iload_n C dX8_copy_54 3 rfl ?_
          refine x_iaload C 0 rfl dX8_copy_55 j2 (q_cl rfl (by omega)) (q_ix rfl (by omega) (by omega)) 1 rfl ?_
          refine x_icmp_eq C dX8_copy_56 (tgt := 62) rfl (fun c13 => ?_) (fun c13 => ?_)
          ·
            have hse := c13
            have hz1 := hnz j1 (by omega)
            have hz2 := hnz j2 (by omega)
            refine x_iload_n C dX8_copy_62 2 rfl ?_
            refine x_if_lt C dX8_copy_63 (tgt := 111) rfl (fun c14 => ?_) (fun c14 => ?_)
            ·
              have hi0 := c14
              refine x_bipush C dX8_copy_111 (v := (-12)) rfl ?_
              refine E dX8_copy_113 (rfl) ?_
              exact ⟨(-12), itf, spf, rfl, rfl, by rw [hnj1, hnj2]; exact o_copy_r (by assumption) (by assumption) hm1 hm2 hse (o_copy_x hz1 hz2 (Or.inl c14))⟩
            ·
              have hi0 := c14
              refine x_iload C dX8_copy_66 4 rfl ?_
              refine x_if_lt C dX8_copy_68 (tgt := 111) rfl (fun c15 => ?_) (fun c15 => ?_)
              ·
                have hj0 := c15
                refine x_bipush C dX8_copy_111 (v := (-12)) rfl ?_
                refine E dX8_copy_113 (rfl) ?_
                exact ⟨(-12), itf, spf, rfl, rfl, by rw [hnj1, hnj2]; exact o_copy_r (by assumption) (by assumption) hm1 hm2 hse (o_copy_x hz1 hz2 (Or.inr (Or.inl c15)))⟩
              ·
                have hj0 := c15
                refine x_iload C dX8_copy_71 5 rfl ?_
                refine x_if_lt C dX8_copy_73 (tgt := 111) rfl (fun c16 => ?_) (fun c16 => ?_)
                ·
                  have hn0 := c16
                  refine x_bipush C dX8_copy_111 (v := (-12)) rfl ?_
                  refine E dX8_copy_113 (rfl) ?_
                  exact ⟨(-12), itf, spf, rfl, rfl, by rw [hnj1, hnj2]; exact o_copy_r (by assumption) (by assumption) hm1 hm2 hse (o_copy_x hz1 hz2 (Or.inr (Or.inr (Or.inl c16))))⟩
                ·
                  have hn0 := c16
                  refine x_iload_n C dX8_copy_76 2 rfl ?_
                  refine x_i2l C dX8_copy_77 ?_
                  refine x_iload C dX8_copy_78 5 rfl ?_
                  refine x_i2l C dX8_copy_80 ?_
                  refine x_ladd C dX8_copy_81 ?_
                  refine x_aload_n C dX8_copy_82 0 rfl ?_
                  refine x_get C inlX8 rfl 44 (by decide) gw_11_16 dX8_copy_83 0 rfl rfl ?_
                  refine x_iload_n C dX8_copy_86 1 rfl ?_
                  refine x_iaload C 0 rfl dX8_copy_87 j1 (q_cl rfl (by omega)) (q_ix rfl (by omega) (by omega)) 2 rfl ?_
                  refine x_i2l C dX8_copy_88 ?_
                  show X _ _ _ _ 89 _
                  refine x_lcmp C dX8_copy_89 ?_
                  refine x_if_gt C dX8_copy_90 (tgt := 111) rfl (fun c17 => ?_) (fun c17 => ?_)
                  ·
                    have hl1 := c17
                    refine x_bipush C dX8_copy_111 (v := (-12)) rfl ?_
                    refine E dX8_copy_113 (rfl) ?_
                    exact ⟨(-12), itf, spf, rfl, rfl, by rw [hnj1, hnj2]; exact o_copy_r (by assumption) (by assumption) hm1 hm2 hse (o_copy_x hz1 hz2 (Or.inr (Or.inr (Or.inr (Or.inl c17)))))⟩
                  ·
                    have hl1 := c17
                    refine x_iload C dX8_copy_93 4 rfl ?_
                    refine x_i2l C dX8_copy_95 ?_
                    refine x_iload C dX8_copy_96 5 rfl ?_
                    refine x_i2l C dX8_copy_98 ?_
                    refine x_ladd C dX8_copy_99 ?_
                    refine x_aload_n C dX8_copy_100 0 rfl ?_
                    refine x_get C inlX8 rfl 44 (by decide) gw_11_16 dX8_copy_101 0 rfl rfl ?_
                    refine x_iload_n C dX8_copy_104 3 rfl ?_
                    refine x_iaload C 0 rfl dX8_copy_105 j2 (q_cl rfl (by omega)) (q_ix rfl (by omega) (by omega)) 2 rfl ?_
                    refine x_i2l C dX8_copy_106 ?_
                    show X _ _ _ _ 107 _
                    refine x_lcmp C dX8_copy_107 ?_
                    refine x_if_le C dX8_copy_108 (tgt := 114) rfl (fun c18 => ?_) (fun c18 => ?_)
                    ·
                      have hl2 := c18
                      obtain ⟨hA, hB⟩ := o_copy_y hz1 hz2 hi0 hj0 hn0 hl1 hl2
                      obtain ⟨a9, z9, rfl, rfl, haz⟩ := q_span hz1 hn0 hA
                      obtain ⟨b9, rfl, hbz⟩ := q_span2 hz2 (show z9 ≤ 40 by omega) hB
                      refine x_iconst C dX8_copy_114 (v := 0) rfl ?_
                      refine x_istore C dX8_copy_115 (by decide) (lv' := [(6, .int 0), (0, .ref m), (1, .int (nI j1)), (2, .int (nI a9)), (3, .int (nI j2)), (4, .int (nI b9)), (5, .int (nI z9))]) rfl ?_
                      have L117_18 : ∀ (fuel : Nat) (k : Nat) (g9 : Nat → Int32), (hk : k ≤ z9) → (hg9 : ∀ q, g9 q = if q < k then (fun q => itf (40 * j1 + a9 + q)) q else spf q) → z9 - k < fuel → X 0 0 [(m, .inr (7, [.ref a_sky, .ref a_kind, .ref a_more, .ref a_strewn, .int (nI tn), .ref a_treeCell, .ref a_treeSort, .ref a_treeLeaves, .int i_raking, .long l_heaps, .int (nI tz), .ref a_tape, .int (nI wr), .int (nI lw), .ref a_code, .ref a_begins, .int i_made, .int i_at, .int i_from, .int i_sort, .int i_value, .int i_open, .ref a_stack, .ref a_dry, .ref a_wet, .ref a_covered, .ref a_hangs, .ref a_off, .int i_fell, .int i_fellToday, .int i_rotten, .int i_raked, .int i_cost, .ref a_dryGo, .ref a_wetGo, .ref a_keptSky, .int i_imaged, .int (nI itn), .int i_oldRaking, .long l_oldHeaps, .int (nI ilw), .ref a_oldSky, .ref a_oldCells, .ref a_sheetSort, .ref a_sheetSize, .ref a_items, .ref a_spare])), (a_sheetSort, .inl (cI, 4, .inl ssf)), (a_sheetSize, .inl (cI, 4, .inl (nIf nzf))), (a_items, .inl (cI, 160, .inl itf)), (a_spare, .inl (cI, 40, .inl g9))] [(6, .int (nI k)), (5, .int (nI z9)), (4, .int (nI b9)), (3, .int (nI j2)), (2, .int (nI a9)), (1, .int (nI j1)), (0, .ref m)] 117 [] := by
                        intro fuel
                        induction fuel with
                        | zero => intros; omega
                        | succ fuel ihL117_18 =>
                          intro k g9 hk hg9 hfu
                          refine x_iload C dX8_copy_117 0 rfl ?_
                          refine x_iload C dX8_copy_119 1 rfl ?_
                          refine x_icmp_ge C dX8_copy_121 (tgt := 151) rfl (fun c20 => ?_) (fun c20 => ?_)
                          ·
                            have c20 : k ≥ z9 := q_ge_t rfl rfl (by omega) (by omega) c20
                            refine x_iconst C dX8_copy_151 (v := 0) rfl ?_
                            refine x_istore C dX8_copy_152 (by decide) (lv' := [(6, .int 0), (5, .int (nI z9)), (4, .int (nI b9)), (3, .int (nI j2)), (2, .int (nI a9)), (1, .int (nI j1)), (0, .ref m)]) rfl ?_
                            have L154_20 : ∀ (fuel : Nat) (k : Nat) (g8 : Nat → Int32), (hk2 : k ≤ z9) → (hg8 : ∀ q, g8 q = if 40 * j2 + b9 ≤ q ∧ q < 40 * j2 + b9 + k then itf (40 * j1 + a9 + (q - (40 * j2 + b9))) else itf q) → z9 - k < fuel → X 0 0 [(m, .inr (7, [.ref a_sky, .ref a_kind, .ref a_more, .ref a_strewn, .int (nI tn), .ref a_treeCell, .ref a_treeSort, .ref a_treeLeaves, .int i_raking, .long l_heaps, .int (nI tz), .ref a_tape, .int (nI wr), .int (nI lw), .ref a_code, .ref a_begins, .int i_made, .int i_at, .int i_from, .int i_sort, .int i_value, .int i_open, .ref a_stack, .ref a_dry, .ref a_wet, .ref a_covered, .ref a_hangs, .ref a_off, .int i_fell, .int i_fellToday, .int i_rotten, .int i_raked, .int i_cost, .ref a_dryGo, .ref a_wetGo, .ref a_keptSky, .int i_imaged, .int (nI itn), .int i_oldRaking, .long l_oldHeaps, .int (nI ilw), .ref a_oldSky, .ref a_oldCells, .ref a_sheetSort, .ref a_sheetSize, .ref a_items, .ref a_spare])), (a_sheetSort, .inl (cI, 4, .inl ssf)), (a_sheetSize, .inl (cI, 4, .inl (nIf nzf))), (a_items, .inl (cI, 160, .inl g8)), (a_spare, .inl (cI, 40, .inl g9))] [(6, .int (nI k)), (5, .int (nI z9)), (4, .int (nI b9)), (3, .int (nI j2)), (2, .int (nI a9)), (1, .int (nI j1)), (0, .ref m)] 154 [] := by
                              intro fuel
                              induction fuel with
                              | zero => intros; omega
                              | succ fuel ihL154_20 =>
                                intro k g8 hk2 hg8 hfu
                                refine x_iload C dX8_copy_154 0 rfl ?_
                                refine x_iload C dX8_copy_156 1 rfl ?_
                                refine x_icmp_ge C dX8_copy_158 (tgt := 189) rfl (fun c22 => ?_) (fun c22 => ?_)
                                ·
                                  have c22 : k ≥ z9 := q_ge_t rfl rfl (by omega) (by omega) c22
                                  rw [show k = z9 by omega] at hg8
                                  refine x_arr C 3 rfl (o_mcp itf (40 * j1 + a9) (40 * j2 + b9) z9) (fun q _ => hg8 q) ?_
                                  show X _ _ [(m, .inr (7, [.ref a_sky, .ref a_kind, .ref a_more, .ref a_strewn, .int (nI tn), .ref a_treeCell, .ref a_treeSort, .ref a_treeLeaves, .int i_raking, .long l_heaps, .int (nI tz), .ref a_tape, .int (nI wr), .int (nI lw), .ref a_code, .ref a_begins, .int i_made, .int i_at, .int i_from, .int i_sort, .int i_value, .int i_open, .ref a_stack, .ref a_dry, .ref a_wet, .ref a_covered, .ref a_hangs, .ref a_off, .int i_fell, .int i_fellToday, .int i_rotten, .int i_raked, .int i_cost, .ref a_dryGo, .ref a_wetGo, .ref a_keptSky, .int i_imaged, .int (nI itn), .int i_oldRaking, .long l_oldHeaps, .int (nI ilw), .ref a_oldSky, .ref a_oldCells, .ref a_sheetSort, .ref a_sheetSize, .ref a_items, .ref a_spare])), (a_sheetSort, .inl (cI, 4, .inl ssf)), (a_sheetSize, .inl (cI, 4, .inl (nIf nzf))), (a_items, .inl (cI, 160, .inl (o_mcp itf (40 * j1 + a9) (40 * j2 + b9) z9))), (a_spare, .inl (cI, 40, .inl g9))] _ _ _
                                  refine x_iload C dX8_copy_189 1 rfl ?_
                                  refine E dX8_copy_191 (rfl) ?_
                                  exact ⟨(nI z9), (o_mcp itf (40 * j1 + a9) (40 * j2 + b9) z9), g9, rfl, rfl, by rw [hnj1, hnj2]; exact o_copy_k (by assumption) (by assumption) hm1 hm2 hse hn0 hA hB (by omega) (by omega) (by omega) (by omega) (by omega) rfl rfl rfl⟩
                                ·
                                  have c22 : k < z9 := q_ge_f rfl rfl (by omega) (by omega) c22
                                  refine x_aload_n C dX8_copy_161 6 rfl ?_
                                  refine x_get C inlX8 rfl 45 (by decide) gw_11_17 dX8_copy_162 0 rfl rfl ?_
                                  refine x_bipush C dX8_copy_165 (v := 40) rfl ?_
                                  refine x_iload_n C dX8_copy_167 3 rfl ?_
                                  refine x_imul C dX8_copy_168 ?_
                                  refine x_iload C dX8_copy_169 2 rfl ?_
                                  refine x_iadd C dX8_copy_171 ?_
                                  refine x_iload C dX8_copy_172 0 rfl ?_
                                  refine x_iadd C dX8_copy_174 ?_
                                  refine x_aload_n C dX8_copy_175 6 rfl ?_
                                  show X _ _ _ _ 176 _
                                  refine x_get C inlX8 rfl 46 (by decide) gw_11_18 dX8_copy_176 0 rfl rfl ?_
                                  refine x_iload C dX8_copy_179 0 rfl ?_
                                  refine x_iaload C 0 rfl dX8_copy_181 k (q_cl rfl (by omega)) (q_ix rfl (by omega) (by omega)) 4 rfl ?_
                                  refine x_iastore C 0 rfl dX8_copy_182 (((40 * j2) + b9) + k) (q_cl (q_iadd (a := (40 * j2) + b9) (b := k) (q_iadd (a := 40 * j2) (b := b9) (q_imul (a := 40) (b := j2) (rfl : (40 : Int32) = nI 40) rfl) rfl) rfl) (by omega)) (q_ix (q_iadd (a := (40 * j2) + b9) (b := k) (q_iadd (a := 40 * j2) (b := b9) (q_imul (a := 40) (b := j2) (rfl : (40 : Int32) = nI 40) rfl) rfl) rfl) (by omega) (by omega)) 3 rfl ?_
                                  show X _ _ [(m, .inr (7, [.ref a_sky, .ref a_kind, .ref a_more, .ref a_strewn, .int (nI tn), .ref a_treeCell, .ref a_treeSort, .ref a_treeLeaves, .int i_raking, .long l_heaps, .int (nI tz), .ref a_tape, .int (nI wr), .int (nI lw), .ref a_code, .ref a_begins, .int i_made, .int i_at, .int i_from, .int i_sort, .int i_value, .int i_open, .ref a_stack, .ref a_dry, .ref a_wet, .ref a_covered, .ref a_hangs, .ref a_off, .int i_fell, .int i_fellToday, .int i_rotten, .int i_raked, .int i_cost, .ref a_dryGo, .ref a_wetGo, .ref a_keptSky, .int i_imaged, .int (nI itn), .int i_oldRaking, .long l_oldHeaps, .int (nI ilw), .ref a_oldSky, .ref a_oldCells, .ref a_sheetSort, .ref a_sheetSize, .ref a_items, .ref a_spare])), (a_sheetSort, .inl (cI, 4, .inl ssf)), (a_sheetSize, .inl (cI, 4, .inl (nIf nzf))), (a_items, .inl (cI, 160, .inl (upd g8 (((40 * j2) + b9) + k) (g9 k)))), (a_spare, .inl (cI, 40, .inl g9))] _ _ _
                                  refine x_iinc C dX8_copy_183 0 rfl (v := nI (k + 1)) (nI_1 _) (by decide) (lv' := [(6, .int (nI (k + 1))), (5, .int (nI z9)), (4, .int (nI b9)), (3, .int (nI j2)), (2, .int (nI a9)), (1, .int (nI j1)), (0, .ref m)]) rfl ?_
                                  refine x_goto C dX8_copy_186 (tgt := 154) rfl ?_
                                  exact ihL154_20 (k + 1) (upd g8 (((40 * j2) + b9) + k) (g9 k)) (by omega) (o_mcp_s hg8 ((hg9 k).trans (if_pos (by omega)))) (by omega)
                            show X 0 0 [(m, .inr (7, [.ref a_sky, .ref a_kind, .ref a_more, .ref a_strewn, .int (nI tn), .ref a_treeCell, .ref a_treeSort, .ref a_treeLeaves, .int i_raking, .long l_heaps, .int (nI tz), .ref a_tape, .int (nI wr), .int (nI lw), .ref a_code, .ref a_begins, .int i_made, .int i_at, .int i_from, .int i_sort, .int i_value, .int i_open, .ref a_stack, .ref a_dry, .ref a_wet, .ref a_covered, .ref a_hangs, .ref a_off, .int i_fell, .int i_fellToday, .int i_rotten, .int i_raked, .int i_cost, .ref a_dryGo, .ref a_wetGo, .ref a_keptSky, .int i_imaged, .int (nI itn), .int i_oldRaking, .long l_oldHeaps, .int (nI ilw), .ref a_oldSky, .ref a_oldCells, .ref a_sheetSort, .ref a_sheetSize, .ref a_items, .ref a_spare])), (a_sheetSort, .inl (cI, 4, .inl ssf)), (a_sheetSize, .inl (cI, 4, .inl (nIf nzf))), (a_items, .inl (cI, 160, .inl itf)), (a_spare, .inl (cI, 40, .inl g9))] [(6, .int (nI 0)), (5, .int (nI z9)), (4, .int (nI b9)), (3, .int (nI j2)), (2, .int (nI a9)), (1, .int (nI j1)), (0, .ref m)] 154 []
                            exact L154_20 ((z9 - 0) + 1) 0 itf (Nat.zero_le _) (o_mcp_0) (Nat.lt_succ_self _)
                          ·
                            have c20 : k < z9 := q_ge_f rfl rfl (by omega) (by omega) c20
                            refine x_aload_n C dX8_copy_124 6 rfl ?_
                            refine x_get C inlX8 rfl 46 (by decide) gw_11_18 dX8_copy_125 0 rfl rfl ?_
                            refine x_iload C dX8_copy_128 0 rfl ?_
                            refine x_aload_n C dX8_copy_130 6 rfl ?_
                            refine x_get C inlX8 rfl 45 (by decide) gw_11_17 dX8_copy_131 0 rfl rfl ?_
                            refine x_bipush C dX8_copy_134 (v := 40) rfl ?_
                            refine x_iload_n C dX8_copy_136 5 rfl ?_
                            refine x_imul C dX8_copy_137 ?_
                            refine x_iload_n C dX8_copy_138 4 rfl ?_
                            refine x_iadd C dX8_copy_139 ?_
                            show X _ _ _ _ 140 _
                            refine x_iload C dX8_copy_140 0 rfl ?_
                            refine x_iadd C dX8_copy_142 ?_
                            refine x_iaload C 0 rfl dX8_copy_143 (((40 * j1) + a9) + k) (q_cl (q_iadd (a := (40 * j1) + a9) (b := k) (q_iadd (a := 40 * j1) (b := a9) (q_imul (a := 40) (b := j1) (rfl : (40 : Int32) = nI 40) rfl) rfl) rfl) (by omega)) (q_ix (q_iadd (a := (40 * j1) + a9) (b := k) (q_iadd (a := 40 * j1) (b := a9) (q_imul (a := 40) (b := j1) (rfl : (40 : Int32) = nI 40) rfl) rfl) rfl) (by omega) (by omega)) 3 rfl ?_
                            refine x_iastore C 0 rfl dX8_copy_144 k (q_cl rfl (by omega)) (q_ix rfl (by omega) (by omega)) 4 rfl ?_
                            show X _ _ [(m, .inr (7, [.ref a_sky, .ref a_kind, .ref a_more, .ref a_strewn, .int (nI tn), .ref a_treeCell, .ref a_treeSort, .ref a_treeLeaves, .int i_raking, .long l_heaps, .int (nI tz), .ref a_tape, .int (nI wr), .int (nI lw), .ref a_code, .ref a_begins, .int i_made, .int i_at, .int i_from, .int i_sort, .int i_value, .int i_open, .ref a_stack, .ref a_dry, .ref a_wet, .ref a_covered, .ref a_hangs, .ref a_off, .int i_fell, .int i_fellToday, .int i_rotten, .int i_raked, .int i_cost, .ref a_dryGo, .ref a_wetGo, .ref a_keptSky, .int i_imaged, .int (nI itn), .int i_oldRaking, .long l_oldHeaps, .int (nI ilw), .ref a_oldSky, .ref a_oldCells, .ref a_sheetSort, .ref a_sheetSize, .ref a_items, .ref a_spare])), (a_sheetSort, .inl (cI, 4, .inl ssf)), (a_sheetSize, .inl (cI, 4, .inl (nIf nzf))), (a_items, .inl (cI, 160, .inl itf)), (a_spare, .inl (cI, 40, .inl (upd g9 k (itf (((40 * j1) + a9) + k)))))] _ _ _
                            refine x_iinc C dX8_copy_145 0 rfl (v := nI (k + 1)) (nI_1 _) (by decide) (lv' := [(6, .int (nI (k + 1))), (5, .int (nI z9)), (4, .int (nI b9)), (3, .int (nI j2)), (2, .int (nI a9)), (1, .int (nI j1)), (0, .ref m)]) rfl ?_
                            refine x_goto C dX8_copy_148 (tgt := 117) rfl ?_
                            exact ihL117_18 (k + 1) (upd g9 k (itf (((40 * j1) + a9) + k))) (by omega) (q_up hg9 rfl) (by omega)
                      refine x_lv C [0, 6, 5, 4, 3, 2, 1] (lv' := [(6, .int 0), (5, .int (nI z9)), (4, .int (nI b9)), (3, .int (nI j2)), (2, .int (nI a9)), (1, .int (nI j1)), (0, .ref m)]) rfl ?_
                      show X 0 0 [(m, .inr (7, [.ref a_sky, .ref a_kind, .ref a_more, .ref a_strewn, .int (nI tn), .ref a_treeCell, .ref a_treeSort, .ref a_treeLeaves, .int i_raking, .long l_heaps, .int (nI tz), .ref a_tape, .int (nI wr), .int (nI lw), .ref a_code, .ref a_begins, .int i_made, .int i_at, .int i_from, .int i_sort, .int i_value, .int i_open, .ref a_stack, .ref a_dry, .ref a_wet, .ref a_covered, .ref a_hangs, .ref a_off, .int i_fell, .int i_fellToday, .int i_rotten, .int i_raked, .int i_cost, .ref a_dryGo, .ref a_wetGo, .ref a_keptSky, .int i_imaged, .int (nI itn), .int i_oldRaking, .long l_oldHeaps, .int (nI ilw), .ref a_oldSky, .ref a_oldCells, .ref a_sheetSort, .ref a_sheetSize, .ref a_items, .ref a_spare])), (a_sheetSort, .inl (cI, 4, .inl ssf)), (a_sheetSize, .inl (cI, 4, .inl (nIf nzf))), (a_items, .inl (cI, 160, .inl itf)), (a_spare, .inl (cI, 40, .inl spf))] [(6, .int (nI 0)), (5, .int (nI z9)), (4, .int (nI b9)), (3, .int (nI j2)), (2, .int (nI a9)), (1, .int (nI j1)), (0, .ref m)] 117 []
                      exact L117_18 ((z9 - 0) + 1) 0 spf (Nat.zero_le _) (q_0) (Nat.lt_succ_self _)
                    ·
                      have hl2 := c18
                      refine x_bipush C dX8_copy_111 (v := (-12)) rfl ?_
                      refine E dX8_copy_113 (rfl) ?_
                      exact ⟨(-12), itf, spf, rfl, rfl, by rw [hnj1, hnj2]; exact o_copy_r (by assumption) (by assumption) hm1 hm2 hse (o_copy_x hz1 hz2 (Or.inr (Or.inr (Or.inr (Or.inr (Int32.not_le.mp c18))))))⟩
          ·
            have hse := c13
            refine x_bipush C dX8_copy_59 (v := (-13)) rfl ?_
            refine E dX8_copy_61 (rfl) ?_
            exact ⟨(-13), itf, spf, rfl, rfl, by (unfold o_copy o_mcopy_g); (try simp only [hnj1, hnj2]); (repeat (first | rw [if_pos (by first | (rw [if_pos (by decide)]; assumption) | (rw [if_neg (by decide), if_pos (by decide)]; assumption) | (rw [if_neg (by decide), if_neg (by decide)]; assumption) | assumption | decide | omega | exact o_one_t (by assumption) | (rw [o_one_f (by assumption)]; decide) | exact ⟨by assumption, by assumption⟩ | exact fun h9 => absurd h9.1 (by assumption) | exact fun h9 => absurd h9.2 (by assumption))] | rw [if_neg (by first | (rw [if_pos (by decide)]; assumption) | (rw [if_neg (by decide), if_pos (by decide)]; assumption) | (rw [if_neg (by decide), if_neg (by decide)]; assumption) | assumption | decide | omega | exact o_one_t (by assumption) | (rw [o_one_f (by assumption)]; decide) | exact ⟨by assumption, by assumption⟩ | exact fun h9 => absurd h9.1 (by assumption) | exact fun h9 => absurd h9.2 (by assumption))])); all_goals (first | rfl)⟩
        ·
          have hm2 := c12
          refine x_bipush C dX8_copy_41 (v := (-11)) rfl ?_
          refine E dX8_copy_43 (rfl) ?_
          exact ⟨(-11), itf, spf, rfl, rfl, by (unfold o_copy o_mcopy_g); (try simp only [hnj1, hnj2]); (repeat (first | rw [if_pos (by first | (rw [if_pos (by decide)]; assumption) | (rw [if_neg (by decide), if_pos (by decide)]; assumption) | (rw [if_neg (by decide), if_neg (by decide)]; assumption) | assumption | decide | omega | exact o_one_t (by assumption) | (rw [o_one_f (by assumption)]; decide) | exact ⟨by assumption, by assumption⟩ | exact fun h9 => absurd h9.1 (by assumption) | exact fun h9 => absurd h9.2 (by assumption))] | rw [if_neg (by first | (rw [if_pos (by decide)]; assumption) | (rw [if_neg (by decide), if_pos (by decide)]; assumption) | (rw [if_neg (by decide), if_neg (by decide)]; assumption) | assumption | decide | omega | exact o_one_t (by assumption) | (rw [o_one_f (by assumption)]; decide) | exact ⟨by assumption, by assumption⟩ | exact fun h9 => absurd h9.1 (by assumption) | exact fun h9 => absurd h9.2 (by assumption))])); all_goals (first | rfl)⟩
    ·
      obtain ⟨rfl, rfl, hf23⟩ := h8
      show X 0 0 [(m, .inr (7, [.ref a_sky, .ref a_kind, .ref a_more, .ref a_strewn, .int (nI tn), .ref a_treeCell, .ref a_treeSort, .ref a_treeLeaves, .int i_raking, .long l_heaps, .int (nI tz), .ref a_tape, .int (nI wr), .int (nI lw), .ref a_code, .ref a_begins, .int i_made, .int i_at, .int i_from, .int i_sort, .int i_value, .int i_open, .ref a_stack, .ref a_dry, .ref a_wet, .ref a_covered, .ref a_hangs, .ref a_off, .int i_fell, .int i_fellToday, .int i_rotten, .int i_raked, .int i_cost, .ref a_dryGo, .ref a_wetGo, .ref a_keptSky, .int i_imaged, .int (nI itn), .int i_oldRaking, .long l_oldHeaps, .int (nI ilw), .ref a_oldSky, .ref a_oldCells, .ref a_sheetSort, .ref a_sheetSize, .ref a_items, .ref a_spare])), (a_sheetSort, .inl (cI, 4, .inl ssf)), (a_sheetSize, .inl (cI, 4, .inl (nIf nzf))), (a_items, .inl (cI, 160, .inl itf)), (a_spare, .inl (cI, 40, .inl spf))] [(0, .ref m), (1, .int (nI j1)), (2, .int i), (3, .int t), (4, .int j), (5, .int n)] 15 [.int 0]
      refine x_if_ne C dX8_copy_15 (tgt := 21) rfl (fun q9 => absurd q9 (by decide)) (fun _ => ?_)
      refine x_bipush C dX8_copy_18 (v := (-2)) rfl ?_
      refine E dX8_copy_20 (rfl) ?_
      exact ⟨(-2), itf, spf, rfl, rfl, by (unfold o_copy o_mcopy_g); (try simp only [hnj1]); (repeat (first | rw [if_pos (by first | (rw [if_pos (by decide)]; assumption) | (rw [if_neg (by decide), if_pos (by decide)]; assumption) | (rw [if_neg (by decide), if_neg (by decide)]; assumption) | assumption | decide | omega | exact o_one_t (by assumption) | (rw [o_one_f (by assumption)]; decide) | exact ⟨by assumption, by assumption⟩ | exact fun h9 => absurd h9.1 (by assumption) | exact fun h9 => absurd h9.2 (by assumption))] | rw [if_neg (by first | (rw [if_pos (by decide)]; assumption) | (rw [if_neg (by decide), if_pos (by decide)]; assumption) | (rw [if_neg (by decide), if_neg (by decide)]; assumption) | assumption | decide | omega | exact o_one_t (by assumption) | (rw [o_one_f (by assumption)]; decide) | exact ⟨by assumption, by assumption⟩ | exact fun h9 => absurd h9.1 (by assumption) | exact fun h9 => absurd h9.2 (by assumption))])); all_goals (first | rfl)⟩
  ·
    obtain ⟨rfl, rfl, hf24⟩ := h3
    show X 0 0 [(m, .inr (7, [.ref a_sky, .ref a_kind, .ref a_more, .ref a_strewn, .int (nI tn), .ref a_treeCell, .ref a_treeSort, .ref a_treeLeaves, .int i_raking, .long l_heaps, .int (nI tz), .ref a_tape, .int (nI wr), .int (nI lw), .ref a_code, .ref a_begins, .int i_made, .int i_at, .int i_from, .int i_sort, .int i_value, .int i_open, .ref a_stack, .ref a_dry, .ref a_wet, .ref a_covered, .ref a_hangs, .ref a_off, .int i_fell, .int i_fellToday, .int i_rotten, .int i_raked, .int i_cost, .ref a_dryGo, .ref a_wetGo, .ref a_keptSky, .int i_imaged, .int (nI itn), .int i_oldRaking, .long l_oldHeaps, .int (nI ilw), .ref a_oldSky, .ref a_oldCells, .ref a_sheetSort, .ref a_sheetSize, .ref a_items, .ref a_spare])), (a_sheetSort, .inl (cI, 4, .inl ssf)), (a_sheetSize, .inl (cI, 4, .inl (nIf nzf))), (a_items, .inl (cI, 160, .inl itf)), (a_spare, .inl (cI, 40, .inl spf))] [(0, .ref m), (1, .int s), (2, .int i), (3, .int t), (4, .int j), (5, .int n)] 6 [.int 0]
    refine x_if_eq C dX8_copy_6 (tgt := 18) rfl (fun _ => ?_) (fun q9 => by first | exact absurd q9 (by decide) | exact absurd (by decide) q9)
    refine x_bipush C dX8_copy_18 (v := (-2)) rfl ?_
    refine E dX8_copy_20 (rfl) ?_
    exact ⟨(-2), itf, spf, rfl, rfl, by (unfold o_copy o_mcopy_g); (repeat (first | rw [if_pos (by first | (rw [if_pos (by decide)]; assumption) | (rw [if_neg (by decide), if_pos (by decide)]; assumption) | (rw [if_neg (by decide), if_neg (by decide)]; assumption) | assumption | decide | omega | exact o_one_t (by assumption) | (rw [o_one_f (by assumption)]; decide) | exact ⟨by assumption, by assumption⟩ | exact fun h9 => absurd h9.1 (by assumption) | exact fun h9 => absurd h9.2 (by assumption))] | rw [if_neg (by first | (rw [if_pos (by decide)]; assumption) | (rw [if_neg (by decide), if_pos (by decide)]; assumption) | (rw [if_neg (by decide), if_neg (by decide)]; assumption) | assumption | decide | omega | exact o_one_t (by assumption) | (rw [o_one_f (by assumption)]; decide) | exact ⟨by assumption, by assumption⟩ | exact fun h9 => absurd h9.1 (by assumption) | exact fun h9 => absurd h9.2 (by assumption))])); all_goals (first | rfl)⟩
theorem kV_X8_351 : GoodIn GW (wsV RX8 351 yX8_tree.cls yX8_tree (Cond.code yX8_tree cX8_tree 4 (some .int) :: GW)) := r_gV gw_43_14 gw_20_13 gw_20_14 gw_1_5 gw_20_15
theorem hy_X8_tree : yX8_tree.cls ≠ "java/lang/invoke/MethodHandle" ∧ yX8_tree.cls ≠ "java/lang/invoke/VarHandle" ∧ (parseMethodDescriptor yX8_tree.desc).map (fun d => d.parameters.length) = some 3 := ⟨by decide +kernel, by decide +kernel, by decide +kernel⟩
set_option maxHeartbeats 4000000 in
set_option maxRecDepth 100000 in
theorem c_X8_treesBy (l : Launch) (dG : va_G) (cI cM cW cS : ClassId) (m a_sky a_kind a_more a_strewn a_treeCell a_treeSort a_treeLeaves a_tape a_code a_begins a_stack a_dry a_wet a_covered a_hangs a_off a_dryGo a_wetGo a_keptSky a_oldSky a_oldCells a_sheetSort a_sheetSize a_items a_spare : Nat) (tn tz wr lw itn ilw : Nat) (i_raking i_made i_at i_from i_sort i_value i_open i_fell i_fellToday i_rotten i_raked i_cost i_imaged i_oldRaking : Int32) (l_heaps l_oldHeaps : Int64) (tcf tsf ttf : Nat → Int32) (ssf itf : Nat → Int32) (nzf : Nat → Nat) (s t at9 n : Int32) (htn : tn ≤ 4) (hnz : ∀ j, j < 4 → nzf j ≤ 40) : rM l yX8_treesBy cX8_treesBy 10 (some .int) ({ frames := 3, cells := 0, slots := 0, locals := 65 } : Room) dG (tY cI cM cW cS) rZ0 [.ref m, .int s, .int t, .int at9, .int n] [(m, .inr (7, [.ref a_sky, .ref a_kind, .ref a_more, .ref a_strewn, .int (nI tn), .ref a_treeCell, .ref a_treeSort, .ref a_treeLeaves, .int i_raking, .long l_heaps, .int (nI tz), .ref a_tape, .int (nI wr), .int (nI lw), .ref a_code, .ref a_begins, .int i_made, .int i_at, .int i_from, .int i_sort, .int i_value, .int i_open, .ref a_stack, .ref a_dry, .ref a_wet, .ref a_covered, .ref a_hangs, .ref a_off, .int i_fell, .int i_fellToday, .int i_rotten, .int i_raked, .int i_cost, .ref a_dryGo, .ref a_wetGo, .ref a_keptSky, .int i_imaged, .int (nI itn), .int i_oldRaking, .long l_oldHeaps, .int (nI ilw), .ref a_oldSky, .ref a_oldCells, .ref a_sheetSort, .ref a_sheetSize, .ref a_items, .ref a_spare])), (a_treeCell, .inl (cI, 4, .inl tcf)), (a_treeSort, .inl (cI, 4, .inl tsf)), (a_treeLeaves, .inl (cI, 4, .inl ttf)), (a_sheetSort, .inl (cI, 4, .inl ssf)), (a_sheetSize, .inl (cI, 4, .inl (nIf nzf))), (a_items, .inl (cI, 160, .inl itf))] (fun ov oz => ∃ (r : Int32) (n' : Nat) (a' : Nat → Int32) (b' : Nat → Int32) (c' : Nat → Int32) (e' : Nat), ov = some (.int r) ∧ oz = [(m, .inr (7, [.ref a_sky, .ref a_kind, .ref a_more, .ref a_strewn, .int (nI n'), .ref a_treeCell, .ref a_treeSort, .ref a_treeLeaves, .int i_raking, .long l_heaps, .int (nI tz), .ref a_tape, .int (nI wr), .int (nI lw), .ref a_code, .ref a_begins, .int i_made, .int i_at, .int i_from, .int i_sort, .int i_value, .int i_open, .ref a_stack, .ref a_dry, .ref a_wet, .ref a_covered, .ref a_hangs, .ref a_off, .int i_fell, .int i_fellToday, .int i_rotten, .int i_raked, .int i_cost, .ref a_dryGo, .ref a_wetGo, .ref a_keptSky, .int i_imaged, .int (nI itn), .int i_oldRaking, .long l_oldHeaps, .int (nI ilw), .ref a_oldSky, .ref a_oldCells, .ref a_sheetSort, .ref a_sheetSize, .ref a_items, .ref a_spare])), (a_treeCell, .inl (cI, 4, .inl a')), (a_treeSort, .inl (cI, 4, .inl b')), (a_treeLeaves, .inl (cI, 4, .inl c')), (a_sheetSort, .inl (cI, 4, .inl ssf)), (a_sheetSize, .inl (cI, 4, .inl (nIf nzf))), (a_items, .inl (cI, 160, .inl itf))] ∧ (r, n', a', b', c', e') = o_treesBy (o_row itf (o_n s)) (ssf (o_n s)) (nzf (o_n s)) (tn, tcf, tsf, ttf, 0) s t at9 n) := by
  refine rM_ofI rfl (Nat.le_of_ble_eq_true rfl) rfl (fun X C E => ?_)
  show X 0 0 [(m, .inr (7, [.ref a_sky, .ref a_kind, .ref a_more, .ref a_strewn, .int (nI tn), .ref a_treeCell, .ref a_treeSort, .ref a_treeLeaves, .int i_raking, .long l_heaps, .int (nI tz), .ref a_tape, .int (nI wr), .int (nI lw), .ref a_code, .ref a_begins, .int i_made, .int i_at, .int i_from, .int i_sort, .int i_value, .int i_open, .ref a_stack, .ref a_dry, .ref a_wet, .ref a_covered, .ref a_hangs, .ref a_off, .int i_fell, .int i_fellToday, .int i_rotten, .int i_raked, .int i_cost, .ref a_dryGo, .ref a_wetGo, .ref a_keptSky, .int i_imaged, .int (nI itn), .int i_oldRaking, .long l_oldHeaps, .int (nI ilw), .ref a_oldSky, .ref a_oldCells, .ref a_sheetSort, .ref a_sheetSize, .ref a_items, .ref a_spare])), (a_treeCell, .inl (cI, 4, .inl tcf)), (a_treeSort, .inl (cI, 4, .inl tsf)), (a_treeLeaves, .inl (cI, 4, .inl ttf)), (a_sheetSort, .inl (cI, 4, .inl ssf)), (a_sheetSize, .inl (cI, 4, .inl (nIf nzf))), (a_items, .inl (cI, 160, .inl itf))] [(0, .ref m), (1, .int s), (2, .int t), (3, .int at9), (4, .int n)] 0 []
  refine x_iload_n C dX8_treesBy_0 1 rfl ?_
  refine x_iconst C dX8_treesBy_1 (v := 0) rfl ?_
  refine x_iconst C dX8_treesBy_2 (v := 3) rfl ?_
  refine x_callS C (As := [.int s, .int 0, .int 3]) (st := []) (wc := []) (wr := [(m, .inr (7, [.ref a_sky, .ref a_kind, .ref a_more, .ref a_strewn, .int (nI tn), .ref a_treeCell, .ref a_treeSort, .ref a_treeLeaves, .int i_raking, .long l_heaps, .int (nI tz), .ref a_tape, .int (nI wr), .int (nI lw), .ref a_code, .ref a_begins, .int i_made, .int i_at, .int i_from, .int i_sort, .int i_value, .int i_open, .ref a_stack, .ref a_dry, .ref a_wet, .ref a_covered, .ref a_hangs, .ref a_off, .int i_fell, .int i_fellToday, .int i_rotten, .int i_raked, .int i_cost, .ref a_dryGo, .ref a_wetGo, .ref a_keptSky, .int i_imaged, .int (nI itn), .int i_oldRaking, .long l_oldHeaps, .int (nI ilw), .ref a_oldSky, .ref a_oldCells, .ref a_sheetSort, .ref a_sheetSize, .ref a_items, .ref a_spare])), (a_treeCell, .inl (cI, 4, .inl tcf)), (a_treeSort, .inl (cI, 4, .inl tsf)), (a_treeLeaves, .inl (cI, 4, .inl ttf)), (a_sheetSort, .inl (cI, 4, .inl ssf)), (a_sheetSize, .inl (cI, 4, .inl (nIf nzf))), (a_items, .inl (cI, 160, .inl itf))]) (c_X8_within l dG cI cM cW cS s 0 3 ) rZ0_ok (fun _ _ _ _ => trivial) kS_X8_108 hy_X8_within ⟨Nat.le_of_ble_eq_true rfl, Nat.le_of_ble_eq_true rfl⟩ ⟨Nat.le_of_ble_eq_true rfl, Nat.le_of_ble_eq_true rfl⟩ dX8_treesBy_3 [] [0, 1, 2, 3, 4, 5, 6] rfl rfl rfl rfl (by decide) rfl (Nat.le_of_ble_eq_true rfl) ?_
  intro v1 w2 h3
  rcases h3 with h3 | h3
  ·
    obtain ⟨rfl, rfl, hf4⟩ := h3
    show X 0 0 [(m, .inr (7, [.ref a_sky, .ref a_kind, .ref a_more, .ref a_strewn, .int (nI tn), .ref a_treeCell, .ref a_treeSort, .ref a_treeLeaves, .int i_raking, .long l_heaps, .int (nI tz), .ref a_tape, .int (nI wr), .int (nI lw), .ref a_code, .ref a_begins, .int i_made, .int i_at, .int i_from, .int i_sort, .int i_value, .int i_open, .ref a_stack, .ref a_dry, .ref a_wet, .ref a_covered, .ref a_hangs, .ref a_off, .int i_fell, .int i_fellToday, .int i_rotten, .int i_raked, .int i_cost, .ref a_dryGo, .ref a_wetGo, .ref a_keptSky, .int i_imaged, .int (nI itn), .int i_oldRaking, .long l_oldHeaps, .int (nI ilw), .ref a_oldSky, .ref a_oldCells, .ref a_sheetSort, .ref a_sheetSize, .ref a_items, .ref a_spare])), (a_treeCell, .inl (cI, 4, .inl tcf)), (a_treeSort, .inl (cI, 4, .inl tsf)), (a_treeLeaves, .inl (cI, 4, .inl ttf)), (a_sheetSort, .inl (cI, 4, .inl ssf)), (a_sheetSize, .inl (cI, 4, .inl (nIf nzf))), (a_items, .inl (cI, 160, .inl itf))] [(0, .ref m), (1, .int s), (2, .int t), (3, .int at9), (4, .int n)] 6 [.int 1]
    have hr5 := hf4
    obtain ⟨j, hj, rfl⟩ := q_w (n := 3) rfl (by decide) hf4
    have hnj : o_n (nI j) = j := o_n_nI (by omega)
    refine x_if_eq C dX8_treesBy_6 (tgt := 28) rfl (fun q9 => absurd q9 (by decide)) (fun _ => ?_)
    refine x_iload_n C dX8_treesBy_9 2 rfl ?_
    refine x_iconst C dX8_treesBy_10 (v := 0) rfl ?_
    refine x_iconst C dX8_treesBy_11 (v := 2) rfl ?_
    refine x_callS C (As := [.int t, .int 0, .int 2]) (st := []) (wc := []) (wr := [(m, .inr (7, [.ref a_sky, .ref a_kind, .ref a_more, .ref a_strewn, .int (nI tn), .ref a_treeCell, .ref a_treeSort, .ref a_treeLeaves, .int i_raking, .long l_heaps, .int (nI tz), .ref a_tape, .int (nI wr), .int (nI lw), .ref a_code, .ref a_begins, .int i_made, .int i_at, .int i_from, .int i_sort, .int i_value, .int i_open, .ref a_stack, .ref a_dry, .ref a_wet, .ref a_covered, .ref a_hangs, .ref a_off, .int i_fell, .int i_fellToday, .int i_rotten, .int i_raked, .int i_cost, .ref a_dryGo, .ref a_wetGo, .ref a_keptSky, .int i_imaged, .int (nI itn), .int i_oldRaking, .long l_oldHeaps, .int (nI ilw), .ref a_oldSky, .ref a_oldCells, .ref a_sheetSort, .ref a_sheetSize, .ref a_items, .ref a_spare])), (a_treeCell, .inl (cI, 4, .inl tcf)), (a_treeSort, .inl (cI, 4, .inl tsf)), (a_treeLeaves, .inl (cI, 4, .inl ttf)), (a_sheetSort, .inl (cI, 4, .inl ssf)), (a_sheetSize, .inl (cI, 4, .inl (nIf nzf))), (a_items, .inl (cI, 160, .inl itf))]) (c_X8_within l dG cI cM cW cS t 0 2 ) rZ0_ok (fun _ _ _ _ => trivial) kS_X8_108 hy_X8_within ⟨Nat.le_of_ble_eq_true rfl, Nat.le_of_ble_eq_true rfl⟩ ⟨Nat.le_of_ble_eq_true rfl, Nat.le_of_ble_eq_true rfl⟩ dX8_treesBy_12 [] [0, 1, 2, 3, 4, 5, 6] rfl rfl rfl rfl (by decide) rfl (Nat.le_of_ble_eq_true rfl) ?_
    intro v6 w7 h8
    rcases h8 with h8 | h8
    ·
      obtain ⟨rfl, rfl, hf9⟩ := h8
      show X 0 0 [(m, .inr (7, [.ref a_sky, .ref a_kind, .ref a_more, .ref a_strewn, .int (nI tn), .ref a_treeCell, .ref a_treeSort, .ref a_treeLeaves, .int i_raking, .long l_heaps, .int (nI tz), .ref a_tape, .int (nI wr), .int (nI lw), .ref a_code, .ref a_begins, .int i_made, .int i_at, .int i_from, .int i_sort, .int i_value, .int i_open, .ref a_stack, .ref a_dry, .ref a_wet, .ref a_covered, .ref a_hangs, .ref a_off, .int i_fell, .int i_fellToday, .int i_rotten, .int i_raked, .int i_cost, .ref a_dryGo, .ref a_wetGo, .ref a_keptSky, .int i_imaged, .int (nI itn), .int i_oldRaking, .long l_oldHeaps, .int (nI ilw), .ref a_oldSky, .ref a_oldCells, .ref a_sheetSort, .ref a_sheetSize, .ref a_items, .ref a_spare])), (a_treeCell, .inl (cI, 4, .inl tcf)), (a_treeSort, .inl (cI, 4, .inl tsf)), (a_treeLeaves, .inl (cI, 4, .inl ttf)), (a_sheetSort, .inl (cI, 4, .inl ssf)), (a_sheetSize, .inl (cI, 4, .inl (nIf nzf))), (a_items, .inl (cI, 160, .inl itf))] [(0, .ref m), (1, .int (nI j)), (2, .int t), (3, .int at9), (4, .int n)] 15 [.int 1]
      refine x_if_eq C dX8_treesBy_15 (tgt := 28) rfl (fun q9 => absurd q9 (by decide)) (fun _ => ?_)
      refine x_iload C dX8_treesBy_18 4 rfl ?_
      refine x_iconst C dX8_treesBy_20 (v := 0) rfl ?_
      refine x_iconst C dX8_treesBy_21 (v := 4) rfl ?_
      refine x_callS C (As := [.int n, .int 0, .int 4]) (st := []) (wc := []) (wr := [(m, .inr (7, [.ref a_sky, .ref a_kind, .ref a_more, .ref a_strewn, .int (nI tn), .ref a_treeCell, .ref a_treeSort, .ref a_treeLeaves, .int i_raking, .long l_heaps, .int (nI tz), .ref a_tape, .int (nI wr), .int (nI lw), .ref a_code, .ref a_begins, .int i_made, .int i_at, .int i_from, .int i_sort, .int i_value, .int i_open, .ref a_stack, .ref a_dry, .ref a_wet, .ref a_covered, .ref a_hangs, .ref a_off, .int i_fell, .int i_fellToday, .int i_rotten, .int i_raked, .int i_cost, .ref a_dryGo, .ref a_wetGo, .ref a_keptSky, .int i_imaged, .int (nI itn), .int i_oldRaking, .long l_oldHeaps, .int (nI ilw), .ref a_oldSky, .ref a_oldCells, .ref a_sheetSort, .ref a_sheetSize, .ref a_items, .ref a_spare])), (a_treeCell, .inl (cI, 4, .inl tcf)), (a_treeSort, .inl (cI, 4, .inl tsf)), (a_treeLeaves, .inl (cI, 4, .inl ttf)), (a_sheetSort, .inl (cI, 4, .inl ssf)), (a_sheetSize, .inl (cI, 4, .inl (nIf nzf))), (a_items, .inl (cI, 160, .inl itf))]) (c_X8_within l dG cI cM cW cS n 0 4 ) rZ0_ok (fun _ _ _ _ => trivial) kS_X8_108 hy_X8_within ⟨Nat.le_of_ble_eq_true rfl, Nat.le_of_ble_eq_true rfl⟩ ⟨Nat.le_of_ble_eq_true rfl, Nat.le_of_ble_eq_true rfl⟩ dX8_treesBy_22 [] [0, 1, 2, 3, 4, 5, 6] rfl rfl rfl rfl (by decide) rfl (Nat.le_of_ble_eq_true rfl) ?_
      intro v10 w11 h12
      rcases h12 with h12 | h12
      ·
        obtain ⟨rfl, rfl, hf13⟩ := h12
        show X 0 0 [(m, .inr (7, [.ref a_sky, .ref a_kind, .ref a_more, .ref a_strewn, .int (nI tn), .ref a_treeCell, .ref a_treeSort, .ref a_treeLeaves, .int i_raking, .long l_heaps, .int (nI tz), .ref a_tape, .int (nI wr), .int (nI lw), .ref a_code, .ref a_begins, .int i_made, .int i_at, .int i_from, .int i_sort, .int i_value, .int i_open, .ref a_stack, .ref a_dry, .ref a_wet, .ref a_covered, .ref a_hangs, .ref a_off, .int i_fell, .int i_fellToday, .int i_rotten, .int i_raked, .int i_cost, .ref a_dryGo, .ref a_wetGo, .ref a_keptSky, .int i_imaged, .int (nI itn), .int i_oldRaking, .long l_oldHeaps, .int (nI ilw), .ref a_oldSky, .ref a_oldCells, .ref a_sheetSort, .ref a_sheetSize, .ref a_items, .ref a_spare])), (a_treeCell, .inl (cI, 4, .inl tcf)), (a_treeSort, .inl (cI, 4, .inl tsf)), (a_treeLeaves, .inl (cI, 4, .inl ttf)), (a_sheetSort, .inl (cI, 4, .inl ssf)), (a_sheetSize, .inl (cI, 4, .inl (nIf nzf))), (a_items, .inl (cI, 160, .inl itf))] [(0, .ref m), (1, .int (nI j)), (2, .int t), (3, .int at9), (4, .int n)] 25 [.int 1]
        have hr14 := hf13
        obtain ⟨nn, hnn, rfl⟩ := q_w (n := 4) rfl (by decide) hf13
        have hnnn : o_n (nI nn) = nn := o_n_nI (by omega)
        refine x_if_ne C dX8_treesBy_25 (tgt := 31) rfl (fun _ => ?_) (fun q9 => by first | exact absurd q9 (by decide) | exact absurd (by decide) q9)
        refine x_aload_n C dX8_treesBy_31 0 rfl ?_
        refine x_get C inlX8 rfl 43 (by decide) gw_11_15 dX8_treesBy_32 0 rfl rfl ?_
        refine x_iload_n C dX8_treesBy_35 1 rfl ?_
        refine x_iaload C 0 rfl dX8_treesBy_36 j (q_cl rfl (by omega)) (q_ix rfl (by omega) (by omega)) 4 rfl ?_
        refine x_iconst C dX8_treesBy_37 (v := (-1)) rfl ?_
        refine x_icmp_ne C dX8_treesBy_38 (tgt := 44) rfl (fun c15 => ?_) (fun c15 => ?_)
        ·
          refine x_aload_n C dX8_treesBy_44 0 rfl ?_
          refine x_get C inlX8 rfl 43 (by decide) gw_11_15 dX8_treesBy_45 0 rfl rfl ?_
          refine x_iload_n C dX8_treesBy_48 1 rfl ?_
          refine x_iaload C 0 rfl dX8_treesBy_49 j (q_cl rfl (by omega)) (q_ix rfl (by omega) (by omega)) 4 rfl ?_
          refine x_iload_n C dX8_treesBy_50 2 rfl ?_
          refine x_icmp_eq C dX8_treesBy_51 (tgt := 57) rfl (fun c16 => ?_) (fun c16 => ?_)
          ·
            have hz1 := hnz j (by omega)
            refine x_iconst C dX8_treesBy_57 (v := 0) rfl ?_
            refine x_istore C dX8_treesBy_58 (by decide) (lv' := [(5, .int 0), (0, .ref m), (1, .int (nI j)), (2, .int t), (3, .int at9), (4, .int (nI nn))]) rfl ?_
            refine x_iconst C dX8_treesBy_60 (v := 0) rfl ?_
            refine x_istore C dX8_treesBy_61 (by decide) (lv' := [(6, .int 0), (5, .int 0), (0, .ref m), (1, .int (nI j)), (2, .int t), (3, .int at9), (4, .int (nI nn))]) rfl ?_
            have L63_16 : ∀ (fuel : Nat) (k n1 e1 : Nat) (a1 b1 c1 : Nat → Int32), (hk : k ≤ nn) → (hn1 : n1 ≤ 4) → (hk0 : k = 0 ∨ 0 ≤ at9.toInt) → (hq : o_tbl (o_row itf j) (nzf j) at9 (nn - k) k (n1, a1, b1, c1, e1) = o_tbl (o_row itf j) (nzf j) at9 nn 0 (tn, tcf, tsf, ttf, 0)) → nn - k < fuel → X 0 0 [(m, .inr (7, [.ref a_sky, .ref a_kind, .ref a_more, .ref a_strewn, .int (nI n1), .ref a_treeCell, .ref a_treeSort, .ref a_treeLeaves, .int i_raking, .long l_heaps, .int (nI tz), .ref a_tape, .int (nI wr), .int (nI lw), .ref a_code, .ref a_begins, .int i_made, .int i_at, .int i_from, .int i_sort, .int i_value, .int i_open, .ref a_stack, .ref a_dry, .ref a_wet, .ref a_covered, .ref a_hangs, .ref a_off, .int i_fell, .int i_fellToday, .int i_rotten, .int i_raked, .int i_cost, .ref a_dryGo, .ref a_wetGo, .ref a_keptSky, .int i_imaged, .int (nI itn), .int i_oldRaking, .long l_oldHeaps, .int (nI ilw), .ref a_oldSky, .ref a_oldCells, .ref a_sheetSort, .ref a_sheetSize, .ref a_items, .ref a_spare])), (a_treeCell, .inl (cI, 4, .inl a1)), (a_treeSort, .inl (cI, 4, .inl b1)), (a_treeLeaves, .inl (cI, 4, .inl c1)), (a_sheetSort, .inl (cI, 4, .inl ssf)), (a_sheetSize, .inl (cI, 4, .inl (nIf nzf))), (a_items, .inl (cI, 160, .inl itf))] [(6, .int (nI k)), (5, .int (nI e1)), (4, .int (nI nn)), (3, .int at9), (1, .int (nI j)), (0, .ref m)] 63 [] := by
              intro fuel
              induction fuel with
              | zero => intros; omega
              | succ fuel ihL63_16 =>
                intro k n1 e1 a1 b1 c1 hk hn1 hk0 hq hfu
                refine x_iload C dX8_treesBy_63 0 rfl ?_
                refine x_iload C dX8_treesBy_65 2 rfl ?_
                refine x_icmp_ge C dX8_treesBy_67 (tgt := 160) rfl (fun c18 => ?_) (fun c18 => ?_)
                ·
                  have c18 : k ≥ nn := q_ge_t rfl rfl (by omega) (by omega) c18
                  refine x_iload C dX8_treesBy_160 1 rfl ?_
                  refine E dX8_treesBy_162 (rfl) ?_
                  exact ⟨(nI e1), n1, a1, b1, c1, e1, rfl, rfl, by rw [hnj, o_treesBy_l (by assumption) (by assumption) (by assumption) (by assumption) (by assumption) hnn, ← hq]; exact (o_tbl_e (q := (n1, a1, b1, c1, e1)) (show k = nn by omega)).symm⟩
                ·
                  have c18 : k < nn := q_ge_f rfl rfl (by omega) (by omega) c18
                  refine x_iload_n C dX8_treesBy_70 3 rfl ?_
                  refine x_i2l C dX8_treesBy_71 ?_
                  refine x_ldc2 C gw_43_12 dX8_treesBy_72 ?_
                  refine x_iload C dX8_treesBy_75 0 rfl ?_
                  refine x_i2l C dX8_treesBy_77 ?_
                  refine x_lmul C dX8_treesBy_78 ?_
                  refine x_ladd C dX8_treesBy_79 ?_
                  refine x_lstore C dX8_treesBy_80 (by decide) (lv' := [(7, .long (at9.toInt64 + (3 * ((nI k).toInt64)))), (6, .int (nI k)), (5, .int (nI e1)), (4, .int (nI nn)), (3, .int at9), (1, .int (nI j)), (0, .ref m)]) rfl ?_
                  refine x_lload C dX8_treesBy_82 0 rfl ?_
                  refine x_lconst C dX8_treesBy_84 (v := 0) rfl ?_
                  show X _ _ _ _ 85 _
                  refine x_lcmp C dX8_treesBy_85 ?_
                  refine x_if_lt C dX8_treesBy_86 (tgt := 106) rfl (fun c19 => ?_) (fun c19 => ?_)
                  ·
                    have hl0 := c19
                    refine x_bipush C dX8_treesBy_106 (v := (-12)) rfl ?_
                    refine E dX8_treesBy_108 (rfl) ?_
                    exact ⟨(-12), n1, a1, b1, c1, e1, rfl, rfl, by rw [hnj, o_treesBy_l (by assumption) (by assumption) (by assumption) (by assumption) (by assumption) hnn, ← hq]; exact (o_tbl_x (by assumption) (by first | exact fun h9 => ((q_at3n hz1 (show k ≤ 4 by omega) hk0).mp h9).1 hl0 | exact fun h9 => hl1 ((q_at3n hz1 (show k ≤ 4 by omega) hk0).mp h9).2)).symm⟩
                  ·
                    have hl0 := c19
                    refine x_lload C dX8_treesBy_89 0 rfl ?_
                    refine x_ldc2 C gw_43_13 dX8_treesBy_91 ?_
                    refine x_ladd C dX8_treesBy_94 ?_
                    refine x_aload_n C dX8_treesBy_95 6 rfl ?_
                    refine x_get C inlX8 rfl 44 (by decide) gw_11_16 dX8_treesBy_96 0 rfl rfl ?_
                    refine x_iload_n C dX8_treesBy_99 5 rfl ?_
                    refine x_iaload C 0 rfl dX8_treesBy_100 j (q_cl rfl (by omega)) (q_ix rfl (by omega) (by omega)) 5 rfl ?_
                    refine x_i2l C dX8_treesBy_101 ?_
                    refine x_lcmp C dX8_treesBy_102 ?_
                    refine x_if_lt C dX8_treesBy_103 (tgt := 109) rfl (fun c20 => ?_) (fun c20 => ?_)
                    ·
                      have hl1 := c20
                      have hv9 := (q_at3n hz1 (show k ≤ 4 by omega) hk0).mpr ⟨hl0, hl1⟩
                      obtain ⟨p, hp, hp3⟩ := q_at3 hz1 (show k ≤ 4 by omega) hv9
                      refine x_bipush C dX8_treesBy_109 (v := 40) rfl ?_
                      refine x_iload_n C dX8_treesBy_111 5 rfl ?_
                      refine x_imul C dX8_treesBy_112 ?_
                      refine x_lload C dX8_treesBy_113 0 rfl ?_
                      refine x_l2i C dX8_treesBy_115 ?_
                      refine x_topi C (nI (p + 3 * k)) (by rw [hp]; exact q_at3c (by omega) (by omega)) ?_
                      refine x_iadd C dX8_treesBy_116 ?_
                      refine x_istore C dX8_treesBy_117 (by decide) (lv' := [(9, .int ((40 * (nI j)) + (nI (p + 3 * k)))), (7, .long (at9.toInt64 + (3 * ((nI k).toInt64)))), (6, .int (nI k)), (5, .int (nI e1)), (4, .int (nI nn)), (3, .int at9), (1, .int (nI j)), (0, .ref m)]) rfl ?_
                      refine x_aload_n C dX8_treesBy_119 7 rfl ?_
                      refine x_aload_n C dX8_treesBy_120 7 rfl ?_
                      refine x_get C inlX8 rfl 45 (by decide) gw_11_17 dX8_treesBy_121 0 rfl rfl ?_
                      show X _ _ _ _ 124 _
                      refine x_iload C dX8_treesBy_124 0 rfl ?_
                      refine x_iaload C 0 rfl dX8_treesBy_126 ((40 * j) + (p + 3 * k)) (q_cl (q_iadd (a := 40 * j) (b := p + 3 * k) (q_imul (a := 40) (b := j) (rfl : (40 : Int32) = nI 40) rfl) rfl) (by omega)) (q_ix (q_iadd (a := 40 * j) (b := p + 3 * k) (q_imul (a := 40) (b := j) (rfl : (40 : Int32) = nI 40) rfl) rfl) (by omega) (by omega)) 6 rfl ?_
                      refine x_topi C (o_row itf j (p + 3 * k)) (show itf _ = itf _ from congrArg itf (by omega)) ?_
                      refine x_aload_n C dX8_treesBy_127 7 rfl ?_
                      refine x_get C inlX8 rfl 45 (by decide) gw_11_17 dX8_treesBy_128 0 rfl rfl ?_
                      refine x_iload C dX8_treesBy_131 0 rfl ?_
                      refine x_iconst C dX8_treesBy_133 (v := 1) rfl ?_
                      refine x_iadd C dX8_treesBy_134 ?_
                      refine x_iaload C 0 rfl dX8_treesBy_135 (((40 * j) + (p + 3 * k)) + 1) (q_cl (q_iadd (a := (40 * j) + (p + 3 * k)) (b := 1) (q_iadd (a := 40 * j) (b := p + 3 * k) (q_imul (a := 40) (b := j) (rfl : (40 : Int32) = nI 40) rfl) rfl) (rfl : (1 : Int32) = nI 1)) (by omega)) (q_ix (q_iadd (a := (40 * j) + (p + 3 * k)) (b := 1) (q_iadd (a := 40 * j) (b := p + 3 * k) (q_imul (a := 40) (b := j) (rfl : (40 : Int32) = nI 40) rfl) rfl) (rfl : (1 : Int32) = nI 1)) (by omega) (by omega)) 6 rfl ?_
                      refine x_topi C (o_row itf j (p + 3 * k + 1)) (show itf _ = itf _ from congrArg itf (by omega)) ?_
                      refine x_aload_n C dX8_treesBy_136 7 rfl ?_
                      refine x_get C inlX8 rfl 45 (by decide) gw_11_17 dX8_treesBy_137 0 rfl rfl ?_
                      show X _ _ _ _ 140 _
                      refine x_iload C dX8_treesBy_140 0 rfl ?_
                      refine x_iconst C dX8_treesBy_142 (v := 2) rfl ?_
                      refine x_iadd C dX8_treesBy_143 ?_
                      refine x_iaload C 0 rfl dX8_treesBy_144 (((40 * j) + (p + 3 * k)) + 2) (q_cl (q_iadd (a := (40 * j) + (p + 3 * k)) (b := 2) (q_iadd (a := 40 * j) (b := p + 3 * k) (q_imul (a := 40) (b := j) (rfl : (40 : Int32) = nI 40) rfl) rfl) (rfl : (2 : Int32) = nI 2)) (by omega)) (q_ix (q_iadd (a := (40 * j) + (p + 3 * k)) (b := 2) (q_iadd (a := 40 * j) (b := p + 3 * k) (q_imul (a := 40) (b := j) (rfl : (40 : Int32) = nI 40) rfl) rfl) (rfl : (2 : Int32) = nI 2)) (by omega) (by omega)) 6 rfl ?_
                      refine x_topi C (o_row itf j (p + 3 * k + 2)) (show itf _ = itf _ from congrArg itf (by omega)) ?_
                      refine x_callV C (As := [.int (o_row itf j (p + 3 * k)), .int (o_row itf j (p + 3 * k + 1)), .int (o_row itf j (p + 3 * k + 2))]) (st := []) (wc := [(m, .inr (7, [.ref a_sky, .ref a_kind, .ref a_more, .ref a_strewn, .int (nI n1), .ref a_treeCell, .ref a_treeSort, .ref a_treeLeaves, .int i_raking, .long l_heaps, .int (nI tz), .ref a_tape, .int (nI wr), .int (nI lw), .ref a_code, .ref a_begins, .int i_made, .int i_at, .int i_from, .int i_sort, .int i_value, .int i_open, .ref a_stack, .ref a_dry, .ref a_wet, .ref a_covered, .ref a_hangs, .ref a_off, .int i_fell, .int i_fellToday, .int i_rotten, .int i_raked, .int i_cost, .ref a_dryGo, .ref a_wetGo, .ref a_keptSky, .int i_imaged, .int (nI itn), .int i_oldRaking, .long l_oldHeaps, .int (nI ilw), .ref a_oldSky, .ref a_oldCells, .ref a_sheetSort, .ref a_sheetSize, .ref a_items, .ref a_spare])), (a_treeCell, .inl (cI, 4, .inl a1)), (a_treeSort, .inl (cI, 4, .inl b1)), (a_treeLeaves, .inl (cI, 4, .inl c1))]) (wr := [(a_sheetSort, .inl (cI, 4, .inl ssf)), (a_sheetSize, .inl (cI, 4, .inl (nIf nzf))), (a_items, .inl (cI, 160, .inl itf))]) (c_X8_tree l dG cI cM cW cS m a_sky a_kind a_more a_strewn a_treeCell a_treeSort a_treeLeaves a_tape a_code a_begins a_stack a_dry a_wet a_covered a_hangs a_off a_dryGo a_wetGo a_keptSky a_oldSky a_oldCells a_sheetSort a_sheetSize a_items a_spare n1 tz wr lw itn ilw i_raking i_made i_at i_from i_sort i_value i_open i_fell i_fellToday i_rotten i_raked i_cost i_imaged i_oldRaking l_heaps l_oldHeaps a1 b1 c1 (o_row itf j (p + 3 * k)) (o_row itf j (p + 3 * k + 1)) (o_row itf j (p + 3 * k + 2)) (by first | assumption | omega | decide)) rZ0_ok (fun _ _ _ _ => trivial) kV_X8_351 ⟨rfl, hy_X8_tree⟩ ⟨Nat.le_of_ble_eq_true rfl, Nat.le_of_ble_eq_true rfl⟩ ⟨Nat.le_of_ble_eq_true rfl, Nat.le_of_ble_eq_true rfl⟩ dX8_treesBy_145 0 rfl rfl [0, 1, 2, 3] [4, 5, 6] rfl rfl rfl rfl (by decide) rfl (Nat.le_of_ble_eq_true rfl) ?_
                      intro v21 w22 h23
                      obtain ⟨r_24, n_25, a_26, b_27, c_28, rfl, rfl, hf29⟩ := h23
                      show X 0 0 [(a_sheetSort, .inl (cI, 4, .inl ssf)), (a_sheetSize, .inl (cI, 4, .inl (nIf nzf))), (a_items, .inl (cI, 160, .inl itf)), (m, .inr (7, [.ref a_sky, .ref a_kind, .ref a_more, .ref a_strewn, .int (nI n_25), .ref a_treeCell, .ref a_treeSort, .ref a_treeLeaves, .int i_raking, .long l_heaps, .int (nI tz), .ref a_tape, .int (nI wr), .int (nI lw), .ref a_code, .ref a_begins, .int i_made, .int i_at, .int i_from, .int i_sort, .int i_value, .int i_open, .ref a_stack, .ref a_dry, .ref a_wet, .ref a_covered, .ref a_hangs, .ref a_off, .int i_fell, .int i_fellToday, .int i_rotten, .int i_raked, .int i_cost, .ref a_dryGo, .ref a_wetGo, .ref a_keptSky, .int i_imaged, .int (nI itn), .int i_oldRaking, .long l_oldHeaps, .int (nI ilw), .ref a_oldSky, .ref a_oldCells, .ref a_sheetSort, .ref a_sheetSize, .ref a_items, .ref a_spare])), (a_treeCell, .inl (cI, 4, .inl a_26)), (a_treeSort, .inl (cI, 4, .inl b_27)), (a_treeLeaves, .inl (cI, 4, .inl c_28))] [(9, .int ((40 * (nI j)) + (nI (p + 3 * k)))), (7, .long (at9.toInt64 + (3 * ((nI k).toInt64)))), (6, .int (nI k)), (5, .int (nI e1)), (4, .int (nI nn)), (3, .int at9), (1, .int (nI j)), (0, .ref m)] 148 [.int r_24]
                      simp only [Prod.mk.injEq] at hf29
                      obtain ⟨rfl, rfl, rfl, rfl, rfl⟩ := hf29
                      show X 0 0 [(a_sheetSort, .inl (cI, 4, .inl ssf)), (a_sheetSize, .inl (cI, 4, .inl (nIf nzf))), (a_items, .inl (cI, 160, .inl itf)), (m, .inr (7, [.ref a_sky, .ref a_kind, .ref a_more, .ref a_strewn, .int (nI (o_tree_n n1 (o_row itf j (p + 3 * k)) (o_row itf j (p + 3 * k + 1)) (o_row itf j (p + 3 * k + 2)))), .ref a_treeCell, .ref a_treeSort, .ref a_treeLeaves, .int i_raking, .long l_heaps, .int (nI tz), .ref a_tape, .int (nI wr), .int (nI lw), .ref a_code, .ref a_begins, .int i_made, .int i_at, .int i_from, .int i_sort, .int i_value, .int i_open, .ref a_stack, .ref a_dry, .ref a_wet, .ref a_covered, .ref a_hangs, .ref a_off, .int i_fell, .int i_fellToday, .int i_rotten, .int i_raked, .int i_cost, .ref a_dryGo, .ref a_wetGo, .ref a_keptSky, .int i_imaged, .int (nI itn), .int i_oldRaking, .long l_oldHeaps, .int (nI ilw), .ref a_oldSky, .ref a_oldCells, .ref a_sheetSort, .ref a_sheetSize, .ref a_items, .ref a_spare])), (a_treeCell, .inl (cI, 4, .inl (o_tree_f a1 n1 (o_row itf j (p + 3 * k)) (o_row itf j (p + 3 * k + 1)) (o_row itf j (p + 3 * k + 2)) (o_row itf j (p + 3 * k))))), (a_treeSort, .inl (cI, 4, .inl (o_tree_f b1 n1 (o_row itf j (p + 3 * k)) (o_row itf j (p + 3 * k + 1)) (o_row itf j (p + 3 * k + 2)) (o_row itf j (p + 3 * k + 1))))), (a_treeLeaves, .inl (cI, 4, .inl (o_tree_f c1 n1 (o_row itf j (p + 3 * k)) (o_row itf j (p + 3 * k + 1)) (o_row itf j (p + 3 * k + 2)) (o_row itf j (p + 3 * k + 2)))))] [(9, .int ((40 * (nI j)) + (nI (p + 3 * k)))), (7, .long (at9.toInt64 + (3 * ((nI k).toInt64)))), (6, .int (nI k)), (5, .int (nI e1)), (4, .int (nI nn)), (3, .int at9), (1, .int (nI j)), (0, .ref m)] 148 [.int (o_tree n1 (o_row itf j (p + 3 * k)) (o_row itf j (p + 3 * k + 1)) (o_row itf j (p + 3 * k + 2)))]
                      refine x_if_lt C dX8_treesBy_148 (tgt := 154) rfl (fun c30 => ?_) (fun c30 => ?_)
                      ·
                        have hlt : o_tree n1 (o_row itf j (p + 3 * k)) (o_row itf j (p + 3 * k + 1)) (o_row itf j (p + 3 * k + 2)) < 0 := c30
                        refine x_iinc C dX8_treesBy_154 2 rfl (v := nI (k + 1)) (nI_1 _) (by decide) (lv' := [(6, .int (nI (k + 1))), (9, .int ((40 * (nI j)) + (nI (p + 3 * k)))), (7, .long (at9.toInt64 + (3 * ((nI k).toInt64)))), (5, .int (nI e1)), (4, .int (nI nn)), (3, .int at9), (1, .int (nI j)), (0, .ref m)]) rfl ?_
                        refine x_goto C dX8_treesBy_157 (tgt := 63) rfl ?_
                        refine x_lv C [0, 3, 4, 5, 6, 7] (lv' := [(6, .int (nI (k + 1))), (5, .int (nI e1)), (4, .int (nI nn)), (3, .int at9), (1, .int (nI j)), (0, .ref m)]) rfl ?_
                        refine x_sub C [3, 4, 5, 6, 0, 1, 2] (ws' := [(m, .inr (7, [.ref a_sky, .ref a_kind, .ref a_more, .ref a_strewn, .int (nI (o_tree_n n1 (o_row itf j (p + 3 * k)) (o_row itf j (p + 3 * k + 1)) (o_row itf j (p + 3 * k + 2)))), .ref a_treeCell, .ref a_treeSort, .ref a_treeLeaves, .int i_raking, .long l_heaps, .int (nI tz), .ref a_tape, .int (nI wr), .int (nI lw), .ref a_code, .ref a_begins, .int i_made, .int i_at, .int i_from, .int i_sort, .int i_value, .int i_open, .ref a_stack, .ref a_dry, .ref a_wet, .ref a_covered, .ref a_hangs, .ref a_off, .int i_fell, .int i_fellToday, .int i_rotten, .int i_raked, .int i_cost, .ref a_dryGo, .ref a_wetGo, .ref a_keptSky, .int i_imaged, .int (nI itn), .int i_oldRaking, .long l_oldHeaps, .int (nI ilw), .ref a_oldSky, .ref a_oldCells, .ref a_sheetSort, .ref a_sheetSize, .ref a_items, .ref a_spare])), (a_treeCell, .inl (cI, 4, .inl (o_tree_f a1 n1 (o_row itf j (p + 3 * k)) (o_row itf j (p + 3 * k + 1)) (o_row itf j (p + 3 * k + 2)) (o_row itf j (p + 3 * k))))), (a_treeSort, .inl (cI, 4, .inl (o_tree_f b1 n1 (o_row itf j (p + 3 * k)) (o_row itf j (p + 3 * k + 1)) (o_row itf j (p + 3 * k + 2)) (o_row itf j (p + 3 * k + 1))))), (a_treeLeaves, .inl (cI, 4, .inl (o_tree_f c1 n1 (o_row itf j (p + 3 * k)) (o_row itf j (p + 3 * k + 1)) (o_row itf j (p + 3 * k + 2)) (o_row itf j (p + 3 * k + 2))))), (a_sheetSort, .inl (cI, 4, .inl ssf)), (a_sheetSize, .inl (cI, 4, .inl (nIf nzf))), (a_items, .inl (cI, 160, .inl itf))]) rfl rfl ?_
                        exact ihL63_16 (k + 1) (o_tree_n n1 (o_row itf j (p + 3 * k)) (o_row itf j (p + 3 * k + 1)) (o_row itf j (p + 3 * k + 2))) e1 (o_tree_f a1 n1 (o_row itf j (p + 3 * k)) (o_row itf j (p + 3 * k + 1)) (o_row itf j (p + 3 * k + 2)) (o_row itf j (p + 3 * k))) (o_tree_f b1 n1 (o_row itf j (p + 3 * k)) (o_row itf j (p + 3 * k + 1)) (o_row itf j (p + 3 * k + 2)) (o_row itf j (p + 3 * k + 1))) (o_tree_f c1 n1 (o_row itf j (p + 3 * k)) (o_row itf j (p + 3 * k + 1)) (o_row itf j (p + 3 * k + 2)) (o_row itf j (p + 3 * k + 2))) (by omega) (o_tree_n_le hn1) (Or.inr (by rw [hp, nI_toInt (by omega)]; omega)) (by rw [← hq]; exact o_tbl_s (by omega) hv9 hp (by omega) (by first | exact (if_pos hlt).symm | exact (if_neg hlt).symm)) (by omega)
                      ·
                        have hlt : ¬ o_tree n1 (o_row itf j (p + 3 * k)) (o_row itf j (p + 3 * k + 1)) (o_row itf j (p + 3 * k + 2)) < 0 := c30
                        refine x_iinc C dX8_treesBy_151 3 rfl (v := nI (e1 + 1)) (nI_1 _) (by decide) (lv' := [(5, .int (nI (e1 + 1))), (9, .int ((40 * (nI j)) + (nI (p + 3 * k)))), (7, .long (at9.toInt64 + (3 * ((nI k).toInt64)))), (6, .int (nI k)), (4, .int (nI nn)), (3, .int at9), (1, .int (nI j)), (0, .ref m)]) rfl ?_
                        refine x_iinc C dX8_treesBy_154 3 rfl (v := nI (k + 1)) (nI_1 _) (by decide) (lv' := [(6, .int (nI (k + 1))), (5, .int (nI (e1 + 1))), (9, .int ((40 * (nI j)) + (nI (p + 3 * k)))), (7, .long (at9.toInt64 + (3 * ((nI k).toInt64)))), (4, .int (nI nn)), (3, .int at9), (1, .int (nI j)), (0, .ref m)]) rfl ?_
                        refine x_goto C dX8_treesBy_157 (tgt := 63) rfl ?_
                        refine x_lv C [0, 1, 4, 5, 6, 7] (lv' := [(6, .int (nI (k + 1))), (5, .int (nI (e1 + 1))), (4, .int (nI nn)), (3, .int at9), (1, .int (nI j)), (0, .ref m)]) rfl ?_
                        refine x_sub C [3, 4, 5, 6, 0, 1, 2] (ws' := [(m, .inr (7, [.ref a_sky, .ref a_kind, .ref a_more, .ref a_strewn, .int (nI (o_tree_n n1 (o_row itf j (p + 3 * k)) (o_row itf j (p + 3 * k + 1)) (o_row itf j (p + 3 * k + 2)))), .ref a_treeCell, .ref a_treeSort, .ref a_treeLeaves, .int i_raking, .long l_heaps, .int (nI tz), .ref a_tape, .int (nI wr), .int (nI lw), .ref a_code, .ref a_begins, .int i_made, .int i_at, .int i_from, .int i_sort, .int i_value, .int i_open, .ref a_stack, .ref a_dry, .ref a_wet, .ref a_covered, .ref a_hangs, .ref a_off, .int i_fell, .int i_fellToday, .int i_rotten, .int i_raked, .int i_cost, .ref a_dryGo, .ref a_wetGo, .ref a_keptSky, .int i_imaged, .int (nI itn), .int i_oldRaking, .long l_oldHeaps, .int (nI ilw), .ref a_oldSky, .ref a_oldCells, .ref a_sheetSort, .ref a_sheetSize, .ref a_items, .ref a_spare])), (a_treeCell, .inl (cI, 4, .inl (o_tree_f a1 n1 (o_row itf j (p + 3 * k)) (o_row itf j (p + 3 * k + 1)) (o_row itf j (p + 3 * k + 2)) (o_row itf j (p + 3 * k))))), (a_treeSort, .inl (cI, 4, .inl (o_tree_f b1 n1 (o_row itf j (p + 3 * k)) (o_row itf j (p + 3 * k + 1)) (o_row itf j (p + 3 * k + 2)) (o_row itf j (p + 3 * k + 1))))), (a_treeLeaves, .inl (cI, 4, .inl (o_tree_f c1 n1 (o_row itf j (p + 3 * k)) (o_row itf j (p + 3 * k + 1)) (o_row itf j (p + 3 * k + 2)) (o_row itf j (p + 3 * k + 2))))), (a_sheetSort, .inl (cI, 4, .inl ssf)), (a_sheetSize, .inl (cI, 4, .inl (nIf nzf))), (a_items, .inl (cI, 160, .inl itf))]) rfl rfl ?_
                        exact ihL63_16 (k + 1) (o_tree_n n1 (o_row itf j (p + 3 * k)) (o_row itf j (p + 3 * k + 1)) (o_row itf j (p + 3 * k + 2))) (e1 + 1) (o_tree_f a1 n1 (o_row itf j (p + 3 * k)) (o_row itf j (p + 3 * k + 1)) (o_row itf j (p + 3 * k + 2)) (o_row itf j (p + 3 * k))) (o_tree_f b1 n1 (o_row itf j (p + 3 * k)) (o_row itf j (p + 3 * k + 1)) (o_row itf j (p + 3 * k + 2)) (o_row itf j (p + 3 * k + 1))) (o_tree_f c1 n1 (o_row itf j (p + 3 * k)) (o_row itf j (p + 3 * k + 1)) (o_row itf j (p + 3 * k + 2)) (o_row itf j (p + 3 * k + 2))) (by omega) (o_tree_n_le hn1) (Or.inr (by rw [hp, nI_toInt (by omega)]; omega)) (by rw [← hq]; exact o_tbl_s (by omega) hv9 hp (by omega) (by first | exact (if_pos hlt).symm | exact (if_neg hlt).symm)) (by omega)
                    ·
                      have hl1 := c20
                      refine x_bipush C dX8_treesBy_106 (v := (-12)) rfl ?_
                      refine E dX8_treesBy_108 (rfl) ?_
                      exact ⟨(-12), n1, a1, b1, c1, e1, rfl, rfl, by rw [hnj, o_treesBy_l (by assumption) (by assumption) (by assumption) (by assumption) (by assumption) hnn, ← hq]; exact (o_tbl_x (by assumption) (by first | exact fun h9 => ((q_at3n hz1 (show k ≤ 4 by omega) hk0).mp h9).1 hl0 | exact fun h9 => hl1 ((q_at3n hz1 (show k ≤ 4 by omega) hk0).mp h9).2)).symm⟩
            refine x_lv C [0, 1, 6, 5, 3, 2] (lv' := [(6, .int 0), (5, .int 0), (4, .int (nI nn)), (3, .int at9), (1, .int (nI j)), (0, .ref m)]) rfl ?_
            show X 0 0 [(m, .inr (7, [.ref a_sky, .ref a_kind, .ref a_more, .ref a_strewn, .int (nI tn), .ref a_treeCell, .ref a_treeSort, .ref a_treeLeaves, .int i_raking, .long l_heaps, .int (nI tz), .ref a_tape, .int (nI wr), .int (nI lw), .ref a_code, .ref a_begins, .int i_made, .int i_at, .int i_from, .int i_sort, .int i_value, .int i_open, .ref a_stack, .ref a_dry, .ref a_wet, .ref a_covered, .ref a_hangs, .ref a_off, .int i_fell, .int i_fellToday, .int i_rotten, .int i_raked, .int i_cost, .ref a_dryGo, .ref a_wetGo, .ref a_keptSky, .int i_imaged, .int (nI itn), .int i_oldRaking, .long l_oldHeaps, .int (nI ilw), .ref a_oldSky, .ref a_oldCells, .ref a_sheetSort, .ref a_sheetSize, .ref a_items, .ref a_spare])), (a_treeCell, .inl (cI, 4, .inl tcf)), (a_treeSort, .inl (cI, 4, .inl tsf)), (a_treeLeaves, .inl (cI, 4, .inl ttf)), (a_sheetSort, .inl (cI, 4, .inl ssf)), (a_sheetSize, .inl (cI, 4, .inl (nIf nzf))), (a_items, .inl (cI, 160, .inl itf))] [(6, .int (nI 0)), (5, .int (nI 0)), (4, .int (nI nn)), (3, .int at9), (1, .int (nI j)), (0, .ref m)] 63 []
            exact L63_16 ((nn - 0) + 1) 0 tn 0 tcf tsf ttf (Nat.zero_le _) (htn) (Or.inl rfl) (rfl) (Nat.lt_succ_self _)
          ·
            refine x_bipush C dX8_treesBy_54 (v := (-13)) rfl ?_
            refine E dX8_treesBy_56 (rfl) ?_
            exact ⟨(-13), tn, tcf, tsf, ttf, 0, rfl, rfl, by (unfold o_treesBy); (try simp only [hnj, hnnn]); (repeat (first | rw [if_pos (by first | (rw [if_pos (by decide)]; assumption) | (rw [if_neg (by decide), if_pos (by decide)]; assumption) | (rw [if_neg (by decide), if_neg (by decide)]; assumption) | assumption | decide | omega | exact o_one_t (by assumption) | (rw [o_one_f (by assumption)]; decide) | exact ⟨by assumption, by assumption⟩ | exact fun h9 => absurd h9.1 (by assumption) | exact fun h9 => absurd h9.2 (by assumption))] | rw [if_neg (by first | (rw [if_pos (by decide)]; assumption) | (rw [if_neg (by decide), if_pos (by decide)]; assumption) | (rw [if_neg (by decide), if_neg (by decide)]; assumption) | assumption | decide | omega | exact o_one_t (by assumption) | (rw [o_one_f (by assumption)]; decide) | exact ⟨by assumption, by assumption⟩ | exact fun h9 => absurd h9.1 (by assumption) | exact fun h9 => absurd h9.2 (by assumption))])); all_goals (first | rfl)⟩
        ·
          refine x_bipush C dX8_treesBy_41 (v := (-11)) rfl ?_
          refine E dX8_treesBy_43 (rfl) ?_
          exact ⟨(-11), tn, tcf, tsf, ttf, 0, rfl, rfl, by (unfold o_treesBy); (try simp only [hnj, hnnn]); (repeat (first | rw [if_pos (by first | (rw [if_pos (by decide)]; assumption) | (rw [if_neg (by decide), if_pos (by decide)]; assumption) | (rw [if_neg (by decide), if_neg (by decide)]; assumption) | assumption | decide | omega | exact o_one_t (by assumption) | (rw [o_one_f (by assumption)]; decide) | exact ⟨by assumption, by assumption⟩ | exact fun h9 => absurd h9.1 (by assumption) | exact fun h9 => absurd h9.2 (by assumption))] | rw [if_neg (by first | (rw [if_pos (by decide)]; assumption) | (rw [if_neg (by decide), if_pos (by decide)]; assumption) | (rw [if_neg (by decide), if_neg (by decide)]; assumption) | assumption | decide | omega | exact o_one_t (by assumption) | (rw [o_one_f (by assumption)]; decide) | exact ⟨by assumption, by assumption⟩ | exact fun h9 => absurd h9.1 (by assumption) | exact fun h9 => absurd h9.2 (by assumption))])); all_goals (first | rfl)⟩
      ·
        obtain ⟨rfl, rfl, hf31⟩ := h12
        show X 0 0 [(m, .inr (7, [.ref a_sky, .ref a_kind, .ref a_more, .ref a_strewn, .int (nI tn), .ref a_treeCell, .ref a_treeSort, .ref a_treeLeaves, .int i_raking, .long l_heaps, .int (nI tz), .ref a_tape, .int (nI wr), .int (nI lw), .ref a_code, .ref a_begins, .int i_made, .int i_at, .int i_from, .int i_sort, .int i_value, .int i_open, .ref a_stack, .ref a_dry, .ref a_wet, .ref a_covered, .ref a_hangs, .ref a_off, .int i_fell, .int i_fellToday, .int i_rotten, .int i_raked, .int i_cost, .ref a_dryGo, .ref a_wetGo, .ref a_keptSky, .int i_imaged, .int (nI itn), .int i_oldRaking, .long l_oldHeaps, .int (nI ilw), .ref a_oldSky, .ref a_oldCells, .ref a_sheetSort, .ref a_sheetSize, .ref a_items, .ref a_spare])), (a_treeCell, .inl (cI, 4, .inl tcf)), (a_treeSort, .inl (cI, 4, .inl tsf)), (a_treeLeaves, .inl (cI, 4, .inl ttf)), (a_sheetSort, .inl (cI, 4, .inl ssf)), (a_sheetSize, .inl (cI, 4, .inl (nIf nzf))), (a_items, .inl (cI, 160, .inl itf))] [(0, .ref m), (1, .int (nI j)), (2, .int t), (3, .int at9), (4, .int n)] 25 [.int 0]
        refine x_if_ne C dX8_treesBy_25 (tgt := 31) rfl (fun q9 => absurd q9 (by decide)) (fun _ => ?_)
        refine x_bipush C dX8_treesBy_28 (v := (-2)) rfl ?_
        refine E dX8_treesBy_30 (rfl) ?_
        exact ⟨(-2), tn, tcf, tsf, ttf, 0, rfl, rfl, by (unfold o_treesBy); (try simp only [hnj]); (repeat (first | rw [if_pos (by first | (rw [if_pos (by decide)]; assumption) | (rw [if_neg (by decide), if_pos (by decide)]; assumption) | (rw [if_neg (by decide), if_neg (by decide)]; assumption) | assumption | decide | omega | exact o_one_t (by assumption) | (rw [o_one_f (by assumption)]; decide) | exact ⟨by assumption, by assumption⟩ | exact fun h9 => absurd h9.1 (by assumption) | exact fun h9 => absurd h9.2 (by assumption))] | rw [if_neg (by first | (rw [if_pos (by decide)]; assumption) | (rw [if_neg (by decide), if_pos (by decide)]; assumption) | (rw [if_neg (by decide), if_neg (by decide)]; assumption) | assumption | decide | omega | exact o_one_t (by assumption) | (rw [o_one_f (by assumption)]; decide) | exact ⟨by assumption, by assumption⟩ | exact fun h9 => absurd h9.1 (by assumption) | exact fun h9 => absurd h9.2 (by assumption))])); all_goals (first | rfl)⟩
    ·
      obtain ⟨rfl, rfl, hf32⟩ := h8
      show X 0 0 [(m, .inr (7, [.ref a_sky, .ref a_kind, .ref a_more, .ref a_strewn, .int (nI tn), .ref a_treeCell, .ref a_treeSort, .ref a_treeLeaves, .int i_raking, .long l_heaps, .int (nI tz), .ref a_tape, .int (nI wr), .int (nI lw), .ref a_code, .ref a_begins, .int i_made, .int i_at, .int i_from, .int i_sort, .int i_value, .int i_open, .ref a_stack, .ref a_dry, .ref a_wet, .ref a_covered, .ref a_hangs, .ref a_off, .int i_fell, .int i_fellToday, .int i_rotten, .int i_raked, .int i_cost, .ref a_dryGo, .ref a_wetGo, .ref a_keptSky, .int i_imaged, .int (nI itn), .int i_oldRaking, .long l_oldHeaps, .int (nI ilw), .ref a_oldSky, .ref a_oldCells, .ref a_sheetSort, .ref a_sheetSize, .ref a_items, .ref a_spare])), (a_treeCell, .inl (cI, 4, .inl tcf)), (a_treeSort, .inl (cI, 4, .inl tsf)), (a_treeLeaves, .inl (cI, 4, .inl ttf)), (a_sheetSort, .inl (cI, 4, .inl ssf)), (a_sheetSize, .inl (cI, 4, .inl (nIf nzf))), (a_items, .inl (cI, 160, .inl itf))] [(0, .ref m), (1, .int (nI j)), (2, .int t), (3, .int at9), (4, .int n)] 15 [.int 0]
      refine x_if_eq C dX8_treesBy_15 (tgt := 28) rfl (fun _ => ?_) (fun q9 => by first | exact absurd q9 (by decide) | exact absurd (by decide) q9)
      refine x_bipush C dX8_treesBy_28 (v := (-2)) rfl ?_
      refine E dX8_treesBy_30 (rfl) ?_
      exact ⟨(-2), tn, tcf, tsf, ttf, 0, rfl, rfl, by (unfold o_treesBy); (try simp only [hnj]); (repeat (first | rw [if_pos (by first | (rw [if_pos (by decide)]; assumption) | (rw [if_neg (by decide), if_pos (by decide)]; assumption) | (rw [if_neg (by decide), if_neg (by decide)]; assumption) | assumption | decide | omega | exact o_one_t (by assumption) | (rw [o_one_f (by assumption)]; decide) | exact ⟨by assumption, by assumption⟩ | exact fun h9 => absurd h9.1 (by assumption) | exact fun h9 => absurd h9.2 (by assumption))] | rw [if_neg (by first | (rw [if_pos (by decide)]; assumption) | (rw [if_neg (by decide), if_pos (by decide)]; assumption) | (rw [if_neg (by decide), if_neg (by decide)]; assumption) | assumption | decide | omega | exact o_one_t (by assumption) | (rw [o_one_f (by assumption)]; decide) | exact ⟨by assumption, by assumption⟩ | exact fun h9 => absurd h9.1 (by assumption) | exact fun h9 => absurd h9.2 (by assumption))])); all_goals (first | rfl)⟩
  ·
    obtain ⟨rfl, rfl, hf33⟩ := h3
    show X 0 0 [(m, .inr (7, [.ref a_sky, .ref a_kind, .ref a_more, .ref a_strewn, .int (nI tn), .ref a_treeCell, .ref a_treeSort, .ref a_treeLeaves, .int i_raking, .long l_heaps, .int (nI tz), .ref a_tape, .int (nI wr), .int (nI lw), .ref a_code, .ref a_begins, .int i_made, .int i_at, .int i_from, .int i_sort, .int i_value, .int i_open, .ref a_stack, .ref a_dry, .ref a_wet, .ref a_covered, .ref a_hangs, .ref a_off, .int i_fell, .int i_fellToday, .int i_rotten, .int i_raked, .int i_cost, .ref a_dryGo, .ref a_wetGo, .ref a_keptSky, .int i_imaged, .int (nI itn), .int i_oldRaking, .long l_oldHeaps, .int (nI ilw), .ref a_oldSky, .ref a_oldCells, .ref a_sheetSort, .ref a_sheetSize, .ref a_items, .ref a_spare])), (a_treeCell, .inl (cI, 4, .inl tcf)), (a_treeSort, .inl (cI, 4, .inl tsf)), (a_treeLeaves, .inl (cI, 4, .inl ttf)), (a_sheetSort, .inl (cI, 4, .inl ssf)), (a_sheetSize, .inl (cI, 4, .inl (nIf nzf))), (a_items, .inl (cI, 160, .inl itf))] [(0, .ref m), (1, .int s), (2, .int t), (3, .int at9), (4, .int n)] 6 [.int 0]
    refine x_if_eq C dX8_treesBy_6 (tgt := 28) rfl (fun _ => ?_) (fun q9 => by first | exact absurd q9 (by decide) | exact absurd (by decide) q9)
    refine x_bipush C dX8_treesBy_28 (v := (-2)) rfl ?_
    refine E dX8_treesBy_30 (rfl) ?_
    exact ⟨(-2), tn, tcf, tsf, ttf, 0, rfl, rfl, by (unfold o_treesBy); (repeat (first | rw [if_pos (by first | (rw [if_pos (by decide)]; assumption) | (rw [if_neg (by decide), if_pos (by decide)]; assumption) | (rw [if_neg (by decide), if_neg (by decide)]; assumption) | assumption | decide | omega | exact o_one_t (by assumption) | (rw [o_one_f (by assumption)]; decide) | exact ⟨by assumption, by assumption⟩ | exact fun h9 => absurd h9.1 (by assumption) | exact fun h9 => absurd h9.2 (by assumption))] | rw [if_neg (by first | (rw [if_pos (by decide)]; assumption) | (rw [if_neg (by decide), if_pos (by decide)]; assumption) | (rw [if_neg (by decide), if_neg (by decide)]; assumption) | assumption | decide | omega | exact o_one_t (by assumption) | (rw [o_one_f (by assumption)]; decide) | exact ⟨by assumption, by assumption⟩ | exact fun h9 => absurd h9.1 (by assumption) | exact fun h9 => absurd h9.2 (by assumption))])); all_goals (first | rfl)⟩
