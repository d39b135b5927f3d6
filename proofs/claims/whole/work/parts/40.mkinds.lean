set_option maxHeartbeats 4000000 in
set_option maxRecDepth 100000 in
theorem c_X8_goesOff (l : Launch) (dG : va_G) (cI cM cW cS : ClassId) (m a_sky a_kind a_more a_strewn a_treeCell a_treeSort a_treeLeaves a_tape a_code a_begins a_stack a_dry a_wet a_covered a_hangs a_off a_dryGo a_wetGo a_keptSky a_oldSky a_oldCells a_sheetSort a_sheetSize a_items a_spare : Nat) (tn tz wr lw itn ilw : Nat) (i_raking i_made i_at i_from i_sort i_value i_open i_fell i_fellToday i_rotten i_raked i_cost i_imaged i_oldRaking : Int32) (l_heaps l_oldHeaps : Int64) (kf mf : Nat → Int32) (c : Nat) (z : Int32) (hc : c < 36) : rM l yX8_goesOff cX8_goesOff 3 (some .int) ({ frames := 1, cells := 0, slots := 0, locals := 13 } : Room) dG (tY cI cM cW cS) rZ0 [.ref m, .int (nI c), .int z] [(m, .inr (7, [.ref a_sky, .ref a_kind, .ref a_more, .ref a_strewn, .int (nI tn), .ref a_treeCell, .ref a_treeSort, .ref a_treeLeaves, .int i_raking, .long l_heaps, .int (nI tz), .ref a_tape, .int (nI wr), .int (nI lw), .ref a_code, .ref a_begins, .int i_made, .int i_at, .int i_from, .int i_sort, .int i_value, .int i_open, .ref a_stack, .ref a_dry, .ref a_wet, .ref a_covered, .ref a_hangs, .ref a_off, .int i_fell, .int i_fellToday, .int i_rotten, .int i_raked, .int i_cost, .ref a_dryGo, .ref a_wetGo, .ref a_keptSky, .int i_imaged, .int (nI itn), .int i_oldRaking, .long l_oldHeaps, .int (nI ilw), .ref a_oldSky, .ref a_oldCells, .ref a_sheetSort, .ref a_sheetSize, .ref a_items, .ref a_spare])), (a_kind, .inl (cI, 36, .inl kf)), (a_more, .inl (cI, 36, .inl mf))] (fun ov oz => ∃ (r : Int32), ov = some (.int r) ∧ oz = [(m, .inr (7, [.ref a_sky, .ref a_kind, .ref a_more, .ref a_strewn, .int (nI tn), .ref a_treeCell, .ref a_treeSort, .ref a_treeLeaves, .int i_raking, .long l_heaps, .int (nI tz), .ref a_tape, .int (nI wr), .int (nI lw), .ref a_code, .ref a_begins, .int i_made, .int i_at, .int i_from, .int i_sort, .int i_value, .int i_open, .ref a_stack, .ref a_dry, .ref a_wet, .ref a_covered, .ref a_hangs, .ref a_off, .int i_fell, .int i_fellToday, .int i_rotten, .int i_raked, .int i_cost, .ref a_dryGo, .ref a_wetGo, .ref a_keptSky, .int i_imaged, .int (nI itn), .int i_oldRaking, .long l_oldHeaps, .int (nI ilw), .ref a_oldSky, .ref a_oldCells, .ref a_sheetSort, .ref a_sheetSize, .ref a_items, .ref a_spare])), (a_kind, .inl (cI, 36, .inl kf)), (a_more, .inl (cI, 36, .inl mf))] ∧ r = s_goff (kf c) (mf c) z) := by
  refine rM_ofI rfl (Nat.le_of_ble_eq_true rfl) rfl (fun X C E => ?_)
  show X 0 0 [(m, .inr (7, [.ref a_sky, .ref a_kind, .ref a_more, .ref a_strewn, .int (nI tn), .ref a_treeCell, .ref a_treeSort, .ref a_treeLeaves, .int i_raking, .long l_heaps, .int (nI tz), .ref a_tape, .int (nI wr), .int (nI lw), .ref a_code, .ref a_begins, .int i_made, .int i_at, .int i_from, .int i_sort, .int i_value, .int i_open, .ref a_stack, .ref a_dry, .ref a_wet, .ref a_covered, .ref a_hangs, .ref a_off, .int i_fell, .int i_fellToday, .int i_rotten, .int i_raked, .int i_cost, .ref a_dryGo, .ref a_wetGo, .ref a_keptSky, .int i_imaged, .int (nI itn), .int i_oldRaking, .long l_oldHeaps, .int (nI ilw), .ref a_oldSky, .ref a_oldCells, .ref a_sheetSort, .ref a_sheetSize, .ref a_items, .ref a_spare])), (a_kind, .inl (cI, 36, .inl kf)), (a_more, .inl (cI, 36, .inl mf))] [(0, .ref m), (1, .int (nI c)), (2, .int z)] 0 []
  refine x_aload_n C dX8_goesOff_0 0 rfl ?_
  refine x_get C inlX8 rfl 1 (by decide) gw_10_19 dX8_goesOff_1 0 rfl rfl ?_
  refine x_iload_n C dX8_goesOff_4 1 rfl ?_
  refine x_iaload C 0 rfl dX8_goesOff_5 c (q_cl rfl (by omega)) (q_ix rfl (by omega) (by omega)) 1 rfl ?_
  rcases q_sw (kf c) (1) (4) with q1 | q1
  ·
    refine x_tableOut C dX8_goesOff_6 q1 (tgt := 66) rfl ?_
    have hk : ¬ kf c = 1 ∧ ¬ kf c = 3 ∧ ¬ kf c = 4 := by refine ⟨?_, ?_, ?_⟩ <;> (intro h; rw [h] at q1; revert q1; decide)
    refine x_iload_n C dX8_goesOff_66 2 rfl ?_
    refine E dX8_goesOff_67 (rfl) ?_
    exact ⟨z, rfl, rfl, by first | (simp [s_goff, s_min, *]; done) | (simp [s_goff, *]; exact q_max0 _) | (simp_all [s_goff, s_min]; done)⟩
  ·
    rcases q_sw_1_4 q1 with q1 | q1 | q1 | q1
    ·
      have q1 : (kf c) = 1 := q1
      refine x_tableIn C dX8_goesOff_6 (by rw [q1]; decide) (by rw [q1]; decide) (off := 30) (tgt := 36) (by rw [q1]; rfl) rfl ?_
      refine x_iload_n C dX8_goesOff_36 2 rfl ?_
      refine x_iconst C dX8_goesOff_37 (v := 2) rfl ?_
      refine x_idiv C dX8_goesOff_38 (by decide) ?_
      refine E dX8_goesOff_39 (rfl) ?_
      exact ⟨(z / 2), rfl, rfl, by first | (simp [s_goff, s_min, *]; done) | (simp [s_goff, *]; exact q_max0 _) | (simp_all [s_goff, s_min]; done)⟩
    ·
      have q1 : (kf c) = 2 := q1
      refine x_tableIn C dX8_goesOff_6 (by rw [q1]; decide) (by rw [q1]; decide) (off := 60) (tgt := 66) (by rw [q1]; rfl) rfl ?_
      refine x_iload_n C dX8_goesOff_66 2 rfl ?_
      refine E dX8_goesOff_67 (rfl) ?_
      exact ⟨z, rfl, rfl, by first | (simp [s_goff, s_min, *]; done) | (simp [s_goff, *]; exact q_max0 _) | (simp_all [s_goff, s_min]; done)⟩
    ·
      have q1 : (kf c) = 3 := q1
      refine x_tableIn C dX8_goesOff_6 (by rw [q1]; decide) (by rw [q1]; decide) (off := 34) (tgt := 40) (by rw [q1]; rfl) rfl ?_
      refine x_iload_n C dX8_goesOff_40 2 rfl ?_
      refine x_iconst C dX8_goesOff_41 (v := 2) rfl ?_
      refine x_idiv C dX8_goesOff_42 (by decide) ?_
      refine x_aload_n C dX8_goesOff_43 0 rfl ?_
      refine x_get C inlX8 rfl 2 (by decide) gw_10_20 dX8_goesOff_44 0 rfl rfl ?_
      refine x_iload_n C dX8_goesOff_47 1 rfl ?_
      refine x_iaload C 0 rfl dX8_goesOff_48 c (q_cl rfl (by omega)) (q_ix rfl (by omega) (by omega)) 2 rfl ?_
      refine x_mmin C gw_18_15 gw_17_16 gw_17_17 gw_17_18 (Nat.le_of_ble_eq_true rfl) (Nat.le_of_ble_eq_true rfl) (Nat.le_of_ble_eq_true rfl) (Nat.le_of_ble_eq_true rfl) dX8_goesOff_49 ?_
      refine E dX8_goesOff_52 (rfl) ?_
      exact ⟨(if (mf c) < (z / 2) then (mf c) else (z / 2)), rfl, rfl, by first | (simp [s_goff, s_min, *]; done) | (simp [s_goff, *]; exact q_max0 _) | (simp_all [s_goff, s_min]; done)⟩
    ·
      have q1 : (kf c) = 4 := q1
      refine x_tableIn C dX8_goesOff_6 (by rw [q1]; decide) (by rw [q1]; decide) (off := 47) (tgt := 53) (by rw [q1]; rfl) rfl ?_
      refine x_iconst C dX8_goesOff_53 (v := 0) rfl ?_
      refine x_iload_n C dX8_goesOff_54 2 rfl ?_
      refine x_aload_n C dX8_goesOff_55 0 rfl ?_
      refine x_get C inlX8 rfl 2 (by decide) gw_10_20 dX8_goesOff_56 0 rfl rfl ?_
      refine x_iload_n C dX8_goesOff_59 1 rfl ?_
      refine x_iaload C 0 rfl dX8_goesOff_60 c (q_cl rfl (by omega)) (q_ix rfl (by omega) (by omega)) 2 rfl ?_
      refine x_isub C dX8_goesOff_61 ?_
      refine x_mmax C gw_18_16 gw_17_20 gw_17_17 gw_17_21 (Nat.le_of_ble_eq_true rfl) (Nat.le_of_ble_eq_true rfl) (Nat.le_of_ble_eq_true rfl) (Nat.le_of_ble_eq_true rfl) dX8_goesOff_62 ?_
      refine E dX8_goesOff_65 (rfl) ?_
      exact ⟨(if 0 < (z - (mf c)) then (z - (mf c)) else 0), rfl, rfl, by first | (simp [s_goff, s_min, *]; done) | (simp [s_goff, *]; exact q_max0 _) | (simp_all [s_goff, s_min]; done)⟩
set_option maxHeartbeats 4000000 in
set_option maxRecDepth 100000 in
theorem c_X8_comes (l : Launch) (dG : va_G) (cI cM cW cS : ClassId) (m a_sky a_kind a_more a_strewn a_treeCell a_treeSort a_treeLeaves a_tape a_code a_begins a_stack a_dry a_wet a_covered a_hangs a_off a_dryGo a_wetGo a_keptSky a_oldSky a_oldCells a_sheetSort a_sheetSize a_items a_spare : Nat) (tn tz wr lw itn ilw : Nat) (i_raking i_made i_at i_from i_sort i_value i_open i_fell i_fellToday i_rotten i_raked i_cost i_imaged i_oldRaking : Int32) (l_heaps l_oldHeaps : Int64) (kf mf : Nat → Int32) (c : Nat) (z : Int32) (hc : c < 36) : rM l yX8_comes cX8_comes 3 (some .int) ({ frames := 1, cells := 0, slots := 0, locals := 13 } : Room) dG (tY cI cM cW cS) rZ0 [.ref m, .int (nI c), .int z] [(m, .inr (7, [.ref a_sky, .ref a_kind, .ref a_more, .ref a_strewn, .int (nI tn), .ref a_treeCell, .ref a_treeSort, .ref a_treeLeaves, .int i_raking, .long l_heaps, .int (nI tz), .ref a_tape, .int (nI wr), .int (nI lw), .ref a_code, .ref a_begins, .int i_made, .int i_at, .int i_from, .int i_sort, .int i_value, .int i_open, .ref a_stack, .ref a_dry, .ref a_wet, .ref a_covered, .ref a_hangs, .ref a_off, .int i_fell, .int i_fellToday, .int i_rotten, .int i_raked, .int i_cost, .ref a_dryGo, .ref a_wetGo, .ref a_keptSky, .int i_imaged, .int (nI itn), .int i_oldRaking, .long l_oldHeaps, .int (nI ilw), .ref a_oldSky, .ref a_oldCells, .ref a_sheetSort, .ref a_sheetSize, .ref a_items, .ref a_spare])), (a_kind, .inl (cI, 36, .inl kf)), (a_more, .inl (cI, 36, .inl mf))] (fun ov oz => ∃ (r : Int32), ov = some (.int r) ∧ oz = [(m, .inr (7, [.ref a_sky, .ref a_kind, .ref a_more, .ref a_strewn, .int (nI tn), .ref a_treeCell, .ref a_treeSort, .ref a_treeLeaves, .int i_raking, .long l_heaps, .int (nI tz), .ref a_tape, .int (nI wr), .int (nI lw), .ref a_code, .ref a_begins, .int i_made, .int i_at, .int i_from, .int i_sort, .int i_value, .int i_open, .ref a_stack, .ref a_dry, .ref a_wet, .ref a_covered, .ref a_hangs, .ref a_off, .int i_fell, .int i_fellToday, .int i_rotten, .int i_raked, .int i_cost, .ref a_dryGo, .ref a_wetGo, .ref a_keptSky, .int i_imaged, .int (nI itn), .int i_oldRaking, .long l_oldHeaps, .int (nI ilw), .ref a_oldSky, .ref a_oldCells, .ref a_sheetSort, .ref a_sheetSize, .ref a_items, .ref a_spare])), (a_kind, .inl (cI, 36, .inl kf)), (a_more, .inl (cI, 36, .inl mf))] ∧ r = s_come (kf c) (mf c) z) := by
  refine rM_ofI rfl (Nat.le_of_ble_eq_true rfl) rfl (fun X C E => ?_)
  show X 0 0 [(m, .inr (7, [.ref a_sky, .ref a_kind, .ref a_more, .ref a_strewn, .int (nI tn), .ref a_treeCell, .ref a_treeSort, .ref a_treeLeaves, .int i_raking, .long l_heaps, .int (nI tz), .ref a_tape, .int (nI wr), .int (nI lw), .ref a_code, .ref a_begins, .int i_made, .int i_at, .int i_from, .int i_sort, .int i_value, .int i_open, .ref a_stack, .ref a_dry, .ref a_wet, .ref a_covered, .ref a_hangs, .ref a_off, .int i_fell, .int i_fellToday, .int i_rotten, .int i_raked, .int i_cost, .ref a_dryGo, .ref a_wetGo, .ref a_keptSky, .int i_imaged, .int (nI itn), .int i_oldRaking, .long l_oldHeaps, .int (nI ilw), .ref a_oldSky, .ref a_oldCells, .ref a_sheetSort, .ref a_sheetSize, .ref a_items, .ref a_spare])), (a_kind, .inl (cI, 36, .inl kf)), (a_more, .inl (cI, 36, .inl mf))] [(0, .ref m), (1, .int (nI c)), (2, .int z)] 0 []
  refine x_aload_n C dX8_comes_0 0 rfl ?_
  refine x_get C inlX8 rfl 1 (by decide) gw_10_19 dX8_comes_1 0 rfl rfl ?_
  refine x_iload_n C dX8_comes_4 1 rfl ?_
  refine x_iaload C 0 rfl dX8_comes_5 c (q_cl rfl (by omega)) (q_ix rfl (by omega) (by omega)) 1 rfl ?_
  refine x_iconst C dX8_comes_6 (v := 2) rfl ?_
  refine x_icmp_ne C dX8_comes_7 (tgt := 14) rfl (fun c1 => ?_) (fun c1 => ?_)
  ·
    refine x_aload_n C dX8_comes_14 0 rfl ?_
    refine x_get C inlX8 rfl 1 (by decide) gw_10_19 dX8_comes_15 0 rfl rfl ?_
    refine x_iload_n C dX8_comes_18 1 rfl ?_
    refine x_iaload C 0 rfl dX8_comes_19 c (q_cl rfl (by omega)) (q_ix rfl (by omega) (by omega)) 1 rfl ?_
    refine x_iconst C dX8_comes_20 (v := 5) rfl ?_
    refine x_icmp_ne C dX8_comes_21 (tgt := 37) rfl (fun c2 => ?_) (fun c2 => ?_)
    ·
      refine x_iload_n C dX8_comes_37 2 rfl ?_
      refine E dX8_comes_38 (rfl) ?_
      exact ⟨z, rfl, rfl, by first | (simp [s_come, s_min, *]; done) | (simp_all [s_come, s_min]; done)⟩
    ·
      refine x_iload_n C dX8_comes_24 2 rfl ?_
      refine x_aload_n C dX8_comes_25 0 rfl ?_
      refine x_get C inlX8 rfl 2 (by decide) gw_10_20 dX8_comes_26 0 rfl rfl ?_
      refine x_iload_n C dX8_comes_29 1 rfl ?_
      refine x_iaload C 0 rfl dX8_comes_30 c (q_cl rfl (by omega)) (q_ix rfl (by omega) (by omega)) 2 rfl ?_
      refine x_mmin C gw_18_15 gw_17_16 gw_17_17 gw_17_18 (Nat.le_of_ble_eq_true rfl) (Nat.le_of_ble_eq_true rfl) (Nat.le_of_ble_eq_true rfl) (Nat.le_of_ble_eq_true rfl) dX8_comes_31 ?_
      refine x_goto C dX8_comes_34 (tgt := 38) rfl ?_
      refine E dX8_comes_38 (rfl) ?_
      exact ⟨(if (mf c) < z then (mf c) else z), rfl, rfl, by first | (simp [s_come, s_min, *]; done) | (simp_all [s_come, s_min]; done)⟩
  ·
    refine x_iconst C dX8_comes_10 (v := 0) rfl ?_
    refine x_goto C dX8_comes_11 (tgt := 38) rfl ?_
    refine E dX8_comes_38 (rfl) ?_
    exact ⟨0, rfl, rfl, by first | (simp [s_come, s_min, *]; done) | (simp_all [s_come, s_min]; done)⟩
set_option maxHeartbeats 4000000 in
set_option maxRecDepth 100000 in
theorem c_X8_on (l : Launch) (dG : va_G) (cI cM cW cS : ClassId) (c w : Nat) (hc : c < 36) (hw : w < 4) : rM l yX8_on cX8_on 2 (some .int) ({ frames := 0, cells := 0, slots := 0, locals := 0 } : Room) dG (tY cI cM cW cS) rZ0 [.int (nI c), .int (nI w)] [] (fun ov oz => (∃ (t : Nat), ov = some (.int (nI t)) ∧ oz = [] ∧ s_on w c = some t) ∨ (ov = some (.int (-1)) ∧ oz = [] ∧ s_on w c = none)) := by
  refine rM_ofI rfl (Nat.le_of_ble_eq_true rfl) rfl (fun X C E => ?_)
  show X 0 0 [] [(0, .int (nI c)), (1, .int (nI w))] 0 []
  refine x_iload_n C dX8_on_0 1 rfl ?_
  rcases q_sw (nI w) (0) (2) with q1 | q1
  ·
    refine x_tableOut C dX8_on_1 q1 (tgt := 73) rfl ?_
    have hw3 : w = 3 := by have h9 := nI_toInt (n := w) (by omega); rw [h9] at q1; omega
    refine x_iload_n C dX8_on_73 0 rfl ?_
    refine x_bipush C dX8_on_74 (v := 6) rfl ?_
    refine x_irem C dX8_on_76 (by decide) ?_
    refine x_if_le C dX8_on_77 (tgt := 86) rfl (fun c2 => ?_) (fun c2 => ?_)
    ·
      have c2 : c % 6 ≤ 0 := q_le_t (q_irem (a := c) (b := 6) rfl (rfl : (6 : Int32) = nI 6) (by omega) (by decide) (by decide)) (rfl : (0 : Int32) = nI 0) (by omega) (by omega) c2
      refine x_iconst C dX8_on_86 (v := (-1)) rfl ?_
      refine E dX8_on_87 (rfl) ?_
      exact Or.inr (⟨rfl, rfl, by unfold s_on; first | (rw [if_pos (by omega)]; first | (rw [if_pos (by omega)]; done) | (rw [if_neg (by omega)]; done)) | (rw [if_neg (by omega)]; first | (rw [if_pos (by omega)]; first | (rw [if_pos (by omega)]; done) | (rw [if_neg (by omega)]; done)) | (rw [if_neg (by omega)]; first | (rw [if_pos (by omega)]; first | (rw [if_pos (by omega)]; done) | (rw [if_neg (by omega)]; done)) | (rw [if_neg (by omega)]; first | (rw [if_pos (by omega)]; done) | (rw [if_neg (by omega)]; done))))⟩)
    ·
      have c2 : c % 6 > 0 := q_le_f (q_irem (a := c) (b := 6) rfl (rfl : (6 : Int32) = nI 6) (by omega) (by decide) (by decide)) (rfl : (0 : Int32) = nI 0) (by omega) (by omega) c2
      refine x_iload_n C dX8_on_80 0 rfl ?_
      refine x_iconst C dX8_on_81 (v := 1) rfl ?_
      refine x_isub C dX8_on_82 ?_
      refine x_goto C dX8_on_83 (tgt := 87) rfl ?_
      refine x_topi C (nI (c - 1)) (q_isub (a := c) (b := 1) rfl (rfl : (1 : Int32) = nI 1) (by omega)) ?_
      refine E dX8_on_87 (rfl) ?_
      exact Or.inl ⟨(c - 1), rfl, rfl, by unfold s_on; first | (rw [if_pos (by omega)]; first | (rw [if_pos (by omega)]; done) | (rw [if_neg (by omega)]; done)) | (rw [if_neg (by omega)]; first | (rw [if_pos (by omega)]; first | (rw [if_pos (by omega)]; done) | (rw [if_neg (by omega)]; done)) | (rw [if_neg (by omega)]; first | (rw [if_pos (by omega)]; first | (rw [if_pos (by omega)]; done) | (rw [if_neg (by omega)]; done)) | (rw [if_neg (by omega)]; first | (rw [if_pos (by omega)]; done) | (rw [if_neg (by omega)]; done))))⟩
  ·
    rcases q_sw_0_2 q1 with q1 | q1 | q1
    ·
      have q1 : (nI w) = 0 := q1
      refine x_tableIn C dX8_on_1 (by rw [q1]; decide) (by rw [q1]; decide) (off := 27) (tgt := 28) (by rw [q1]; rfl) rfl ?_
      have hw0 : w = 0 := by have h9 := nI_toInt (n := w) (by omega); rw [q1] at h9; have h8 : ((0 : Int32)).toInt = 0 := rfl; omega
      refine x_iload_n C dX8_on_28 0 rfl ?_
      refine x_bipush C dX8_on_29 (v := 30) rfl ?_
      refine x_icmp_ge C dX8_on_31 (tgt := 41) rfl (fun c3 => ?_) (fun c3 => ?_)
      ·
        have c3 : c ≥ 30 := q_ge_t rfl (rfl : (30 : Int32) = nI 30) (by omega) (by omega) c3
        refine x_iconst C dX8_on_41 (v := (-1)) rfl ?_
        refine E dX8_on_42 (rfl) ?_
        exact Or.inr (⟨rfl, rfl, by unfold s_on; first | (rw [if_pos (by omega)]; first | (rw [if_pos (by omega)]; done) | (rw [if_neg (by omega)]; done)) | (rw [if_neg (by omega)]; first | (rw [if_pos (by omega)]; first | (rw [if_pos (by omega)]; done) | (rw [if_neg (by omega)]; done)) | (rw [if_neg (by omega)]; first | (rw [if_pos (by omega)]; first | (rw [if_pos (by omega)]; done) | (rw [if_neg (by omega)]; done)) | (rw [if_neg (by omega)]; first | (rw [if_pos (by omega)]; done) | (rw [if_neg (by omega)]; done))))⟩)
      ·
        have c3 : c < 30 := q_ge_f rfl (rfl : (30 : Int32) = nI 30) (by omega) (by omega) c3
        refine x_iload_n C dX8_on_34 0 rfl ?_
        refine x_bipush C dX8_on_35 (v := 6) rfl ?_
        refine x_iadd C dX8_on_37 ?_
        refine x_goto C dX8_on_38 (tgt := 42) rfl ?_
        refine x_topi C (nI (c + 6)) (q_iadd (a := c) (b := 6) rfl (rfl : (6 : Int32) = nI 6)) ?_
        refine E dX8_on_42 (rfl) ?_
        exact Or.inl ⟨(c + 6), rfl, rfl, by unfold s_on; first | (rw [if_pos (by omega)]; first | (rw [if_pos (by omega)]; done) | (rw [if_neg (by omega)]; done)) | (rw [if_neg (by omega)]; first | (rw [if_pos (by omega)]; first | (rw [if_pos (by omega)]; done) | (rw [if_neg (by omega)]; done)) | (rw [if_neg (by omega)]; first | (rw [if_pos (by omega)]; first | (rw [if_pos (by omega)]; done) | (rw [if_neg (by omega)]; done)) | (rw [if_neg (by omega)]; first | (rw [if_pos (by omega)]; done) | (rw [if_neg (by omega)]; done))))⟩
    ·
      have q1 : (nI w) = 1 := q1
      refine x_tableIn C dX8_on_1 (by rw [q1]; decide) (by rw [q1]; decide) (off := 42) (tgt := 43) (by rw [q1]; rfl) rfl ?_
      have hw1 : w = 1 := by have h9 := nI_toInt (n := w) (by omega); rw [q1] at h9; have h8 : ((1 : Int32)).toInt = 1 := rfl; omega
      refine x_iload_n C dX8_on_43 0 rfl ?_
      refine x_bipush C dX8_on_44 (v := 6) rfl ?_
      refine x_irem C dX8_on_46 (by decide) ?_
      refine x_iconst C dX8_on_47 (v := 5) rfl ?_
      refine x_icmp_ge C dX8_on_48 (tgt := 57) rfl (fun c4 => ?_) (fun c4 => ?_)
      ·
        have c4 : c % 6 ≥ 5 := q_ge_t (q_irem (a := c) (b := 6) rfl (rfl : (6 : Int32) = nI 6) (by omega) (by decide) (by decide)) (rfl : (5 : Int32) = nI 5) (by omega) (by omega) c4
        refine x_iconst C dX8_on_57 (v := (-1)) rfl ?_
        refine E dX8_on_58 (rfl) ?_
        exact Or.inr (⟨rfl, rfl, by unfold s_on; first | (rw [if_pos (by omega)]; first | (rw [if_pos (by omega)]; done) | (rw [if_neg (by omega)]; done)) | (rw [if_neg (by omega)]; first | (rw [if_pos (by omega)]; first | (rw [if_pos (by omega)]; done) | (rw [if_neg (by omega)]; done)) | (rw [if_neg (by omega)]; first | (rw [if_pos (by omega)]; first | (rw [if_pos (by omega)]; done) | (rw [if_neg (by omega)]; done)) | (rw [if_neg (by omega)]; first | (rw [if_pos (by omega)]; done) | (rw [if_neg (by omega)]; done))))⟩)
      ·
        have c4 : c % 6 < 5 := q_ge_f (q_irem (a := c) (b := 6) rfl (rfl : (6 : Int32) = nI 6) (by omega) (by decide) (by decide)) (rfl : (5 : Int32) = nI 5) (by omega) (by omega) c4
        refine x_iload_n C dX8_on_51 0 rfl ?_
        refine x_iconst C dX8_on_52 (v := 1) rfl ?_
        refine x_iadd C dX8_on_53 ?_
        refine x_goto C dX8_on_54 (tgt := 58) rfl ?_
        refine x_topi C (nI (c + 1)) (q_iadd (a := c) (b := 1) rfl (rfl : (1 : Int32) = nI 1)) ?_
        refine E dX8_on_58 (rfl) ?_
        exact Or.inl ⟨(c + 1), rfl, rfl, by unfold s_on; first | (rw [if_pos (by omega)]; first | (rw [if_pos (by omega)]; done) | (rw [if_neg (by omega)]; done)) | (rw [if_neg (by omega)]; first | (rw [if_pos (by omega)]; first | (rw [if_pos (by omega)]; done) | (rw [if_neg (by omega)]; done)) | (rw [if_neg (by omega)]; first | (rw [if_pos (by omega)]; first | (rw [if_pos (by omega)]; done) | (rw [if_neg (by omega)]; done)) | (rw [if_neg (by omega)]; first | (rw [if_pos (by omega)]; done) | (rw [if_neg (by omega)]; done))))⟩
    ·
      have q1 : (nI w) = 2 := q1
      refine x_tableIn C dX8_on_1 (by rw [q1]; decide) (by rw [q1]; decide) (off := 58) (tgt := 59) (by rw [q1]; rfl) rfl ?_
      have hw2 : w = 2 := by have h9 := nI_toInt (n := w) (by omega); rw [q1] at h9; have h8 : ((2 : Int32)).toInt = 2 := rfl; omega
      refine x_iload_n C dX8_on_59 0 rfl ?_
      refine x_iconst C dX8_on_60 (v := 5) rfl ?_
      refine x_icmp_le C dX8_on_61 (tgt := 71) rfl (fun c5 => ?_) (fun c5 => ?_)
      ·
        have c5 : c ≤ 5 := q_le_t rfl (rfl : (5 : Int32) = nI 5) (by omega) (by omega) c5
        refine x_iconst C dX8_on_71 (v := (-1)) rfl ?_
        refine E dX8_on_72 (rfl) ?_
        exact Or.inr (⟨rfl, rfl, by unfold s_on; first | (rw [if_pos (by omega)]; first | (rw [if_pos (by omega)]; done) | (rw [if_neg (by omega)]; done)) | (rw [if_neg (by omega)]; first | (rw [if_pos (by omega)]; first | (rw [if_pos (by omega)]; done) | (rw [if_neg (by omega)]; done)) | (rw [if_neg (by omega)]; first | (rw [if_pos (by omega)]; first | (rw [if_pos (by omega)]; done) | (rw [if_neg (by omega)]; done)) | (rw [if_neg (by omega)]; first | (rw [if_pos (by omega)]; done) | (rw [if_neg (by omega)]; done))))⟩)
      ·
        have c5 : c > 5 := q_le_f rfl (rfl : (5 : Int32) = nI 5) (by omega) (by omega) c5
        refine x_iload_n C dX8_on_64 0 rfl ?_
        refine x_bipush C dX8_on_65 (v := 6) rfl ?_
        refine x_isub C dX8_on_67 ?_
        refine x_goto C dX8_on_68 (tgt := 72) rfl ?_
        refine x_topi C (nI (c - 6)) (q_isub (a := c) (b := 6) rfl (rfl : (6 : Int32) = nI 6) (by omega)) ?_
        refine E dX8_on_72 (rfl) ?_
        exact Or.inl ⟨(c - 6), rfl, rfl, by unfold s_on; first | (rw [if_pos (by omega)]; first | (rw [if_pos (by omega)]; done) | (rw [if_neg (by omega)]; done)) | (rw [if_neg (by omega)]; first | (rw [if_pos (by omega)]; first | (rw [if_pos (by omega)]; done) | (rw [if_neg (by omega)]; done)) | (rw [if_neg (by omega)]; first | (rw [if_pos (by omega)]; first | (rw [if_pos (by omega)]; done) | (rw [if_neg (by omega)]; done)) | (rw [if_neg (by omega)]; first | (rw [if_pos (by omega)]; done) | (rw [if_neg (by omega)]; done))))⟩
