set_option maxHeartbeats 4000000 in
set_option maxRecDepth 100000 in
theorem c_X8_sky (l : Launch) (dG : va_G) (cI cM cW cS : ClassId) (m a_sky a_kind a_more a_strewn a_treeCell a_treeSort a_treeLeaves a_tape a_code a_begins a_stack a_dry a_wet a_covered a_hangs a_off a_dryGo a_wetGo a_keptSky a_oldSky a_oldCells a_sheetSort a_sheetSize a_items a_spare : Nat) (tn tz wr lw itn ilw : Nat) (i_raking i_made i_at i_from i_sort i_value i_open i_fell i_fellToday i_rotten i_raked i_cost i_imaged i_oldRaking : Int32) (l_heaps l_oldHeaps : Int64) (skf : Nat → Int32) (d wh v : Int32) : rM l yX8_sky cX8_sky 5 (some .int) ({ frames := 1, cells := 0, slots := 0, locals := 22 } : Room) dG (tY cI cM cW cS) rZ0 [.ref m, .int d, .int wh, .int v] [(m, .inr (7, [.ref a_sky, .ref a_kind, .ref a_more, .ref a_strewn, .int (nI tn), .ref a_treeCell, .ref a_treeSort, .ref a_treeLeaves, .int i_raking, .long l_heaps, .int (nI tz), .ref a_tape, .int (nI wr), .int (nI lw), .ref a_code, .ref a_begins, .int i_made, .int i_at, .int i_from, .int i_sort, .int i_value, .int i_open, .ref a_stack, .ref a_dry, .ref a_wet, .ref a_covered, .ref a_hangs, .ref a_off, .int i_fell, .int i_fellToday, .int i_rotten, .int i_raked, .int i_cost, .ref a_dryGo, .ref a_wetGo, .ref a_keptSky, .int i_imaged, .int (nI itn), .int i_oldRaking, .long l_oldHeaps, .int (nI ilw), .ref a_oldSky, .ref a_oldCells, .ref a_sheetSort, .ref a_sheetSize, .ref a_items, .ref a_spare])), (a_sky, .inl (cI, 56, .inl skf))] (fun ov oz => ∃ (r : Int32) (s' : Nat → Int32), ov = some (.int r) ∧ oz = [(m, .inr (7, [.ref a_sky, .ref a_kind, .ref a_more, .ref a_strewn, .int (nI tn), .ref a_treeCell, .ref a_treeSort, .ref a_treeLeaves, .int i_raking, .long l_heaps, .int (nI tz), .ref a_tape, .int (nI wr), .int (nI lw), .ref a_code, .ref a_begins, .int i_made, .int i_at, .int i_from, .int i_sort, .int i_value, .int i_open, .ref a_stack, .ref a_dry, .ref a_wet, .ref a_covered, .ref a_hangs, .ref a_off, .int i_fell, .int i_fellToday, .int i_rotten, .int i_raked, .int i_cost, .ref a_dryGo, .ref a_wetGo, .ref a_keptSky, .int i_imaged, .int (nI itn), .int i_oldRaking, .long l_oldHeaps, .int (nI ilw), .ref a_oldSky, .ref a_oldCells, .ref a_sheetSort, .ref a_sheetSize, .ref a_items, .ref a_spare])), (a_sky, .inl (cI, 56, .inl s'))] ∧ (r, s') = (o_msky skf d wh v, o_msky_f skf d wh v)) := by
  refine rM_ofI rfl (Nat.le_of_ble_eq_true rfl) rfl (fun X C E => ?_)
  show X 0 0 [(m, .inr (7, [.ref a_sky, .ref a_kind, .ref a_more, .ref a_strewn, .int (nI tn), .ref a_treeCell, .ref a_treeSort, .ref a_treeLeaves, .int i_raking, .long l_heaps, .int (nI tz), .ref a_tape, .int (nI wr), .int (nI lw), .ref a_code, .ref a_begins, .int i_made, .int i_at, .int i_from, .int i_sort, .int i_value, .int i_open, .ref a_stack, .ref a_dry, .ref a_wet, .ref a_covered, .ref a_hangs, .ref a_off, .int i_fell, .int i_fellToday, .int i_rotten, .int i_raked, .int i_cost, .ref a_dryGo, .ref a_wetGo, .ref a_keptSky, .int i_imaged, .int (nI itn), .int i_oldRaking, .long l_oldHeaps, .int (nI ilw), .ref a_oldSky, .ref a_oldCells, .ref a_sheetSort, .ref a_sheetSize, .ref a_items, .ref a_spare])), (a_sky, .inl (cI, 56, .inl skf))] [(0, .ref m), (1, .int d), (2, .int wh), (3, .int v)] 0 []
  refine x_iload_n C dX8_sky_0 1 rfl ?_
  refine x_iconst C dX8_sky_1 (v := 0) rfl ?_
  refine x_bipush C dX8_sky_2 (v := 13) rfl ?_
  refine x_callS C (As := [.int d, .int 0, .int 13]) (st := []) (wc := []) (wr := [(m, .inr (7, [.ref a_sky, .ref a_kind, .ref a_more, .ref a_strewn, .int (nI tn), .ref a_treeCell, .ref a_treeSort, .ref a_treeLeaves, .int i_raking, .long l_heaps, .int (nI tz), .ref a_tape, .int (nI wr), .int (nI lw), .ref a_code, .ref a_begins, .int i_made, .int i_at, .int i_from, .int i_sort, .int i_value, .int i_open, .ref a_stack, .ref a_dry, .ref a_wet, .ref a_covered, .ref a_hangs, .ref a_off, .int i_fell, .int i_fellToday, .int i_rotten, .int i_raked, .int i_cost, .ref a_dryGo, .ref a_wetGo, .ref a_keptSky, .int i_imaged, .int (nI itn), .int i_oldRaking, .long l_oldHeaps, .int (nI ilw), .ref a_oldSky, .ref a_oldCells, .ref a_sheetSort, .ref a_sheetSize, .ref a_items, .ref a_spare])), (a_sky, .inl (cI, 56, .inl skf))]) (c_X8_within l dG cI cM cW cS d 0 13 ) rZ0_ok (fun _ _ _ _ => trivial) kS_X8_108 hy_X8_within ⟨Nat.le_of_ble_eq_true rfl, Nat.le_of_ble_eq_true rfl⟩ ⟨Nat.le_of_ble_eq_true rfl, Nat.le_of_ble_eq_true rfl⟩ dX8_sky_4 [] [0, 1] rfl rfl rfl rfl (by decide) rfl (Nat.le_of_ble_eq_true rfl) ?_
  intro v1 w2 h3
  rcases h3 with h3 | h3
  ·
    obtain ⟨rfl, rfl, hf4⟩ := h3
    show X 0 0 [(m, .inr (7, [.ref a_sky, .ref a_kind, .ref a_more, .ref a_strewn, .int (nI tn), .ref a_treeCell, .ref a_treeSort, .ref a_treeLeaves, .int i_raking, .long l_heaps, .int (nI tz), .ref a_tape, .int (nI wr), .int (nI lw), .ref a_code, .ref a_begins, .int i_made, .int i_at, .int i_from, .int i_sort, .int i_value, .int i_open, .ref a_stack, .ref a_dry, .ref a_wet, .ref a_covered, .ref a_hangs, .ref a_off, .int i_fell, .int i_fellToday, .int i_rotten, .int i_raked, .int i_cost, .ref a_dryGo, .ref a_wetGo, .ref a_keptSky, .int i_imaged, .int (nI itn), .int i_oldRaking, .long l_oldHeaps, .int (nI ilw), .ref a_oldSky, .ref a_oldCells, .ref a_sheetSort, .ref a_sheetSize, .ref a_items, .ref a_spare])), (a_sky, .inl (cI, 56, .inl skf))] [(0, .ref m), (1, .int d), (2, .int wh), (3, .int v)] 7 [.int 1]
    have hr5 := hf4
    obtain ⟨j, hj, rfl⟩ := q_w (n := 13) rfl (by decide) hf4
    have hnj : o_n (nI j) = j := o_n_nI (by omega)
    refine x_if_ne C dX8_sky_7 (tgt := 13) rfl (fun _ => ?_) (fun q9 => by first | exact absurd q9 (by decide) | exact absurd (by decide) q9)
    refine x_iload_n C dX8_sky_13 2 rfl ?_
    refine x_iconst C dX8_sky_14 (v := 0) rfl ?_
    refine x_iconst C dX8_sky_15 (v := 3) rfl ?_
    refine x_callS C (As := [.int wh, .int 0, .int 3]) (st := []) (wc := []) (wr := [(m, .inr (7, [.ref a_sky, .ref a_kind, .ref a_more, .ref a_strewn, .int (nI tn), .ref a_treeCell, .ref a_treeSort, .ref a_treeLeaves, .int i_raking, .long l_heaps, .int (nI tz), .ref a_tape, .int (nI wr), .int (nI lw), .ref a_code, .ref a_begins, .int i_made, .int i_at, .int i_from, .int i_sort, .int i_value, .int i_open, .ref a_stack, .ref a_dry, .ref a_wet, .ref a_covered, .ref a_hangs, .ref a_off, .int i_fell, .int i_fellToday, .int i_rotten, .int i_raked, .int i_cost, .ref a_dryGo, .ref a_wetGo, .ref a_keptSky, .int i_imaged, .int (nI itn), .int i_oldRaking, .long l_oldHeaps, .int (nI ilw), .ref a_oldSky, .ref a_oldCells, .ref a_sheetSort, .ref a_sheetSize, .ref a_items, .ref a_spare])), (a_sky, .inl (cI, 56, .inl skf))]) (c_X8_within l dG cI cM cW cS wh 0 3 ) rZ0_ok (fun _ _ _ _ => trivial) kS_X8_108 hy_X8_within ⟨Nat.le_of_ble_eq_true rfl, Nat.le_of_ble_eq_true rfl⟩ ⟨Nat.le_of_ble_eq_true rfl, Nat.le_of_ble_eq_true rfl⟩ dX8_sky_16 [] [0, 1] rfl rfl rfl rfl (by decide) rfl (Nat.le_of_ble_eq_true rfl) ?_
    intro v6 w7 h8
    rcases h8 with h8 | h8
    ·
      obtain ⟨rfl, rfl, hf9⟩ := h8
      show X 0 0 [(m, .inr (7, [.ref a_sky, .ref a_kind, .ref a_more, .ref a_strewn, .int (nI tn), .ref a_treeCell, .ref a_treeSort, .ref a_treeLeaves, .int i_raking, .long l_heaps, .int (nI tz), .ref a_tape, .int (nI wr), .int (nI lw), .ref a_code, .ref a_begins, .int i_made, .int i_at, .int i_from, .int i_sort, .int i_value, .int i_open, .ref a_stack, .ref a_dry, .ref a_wet, .ref a_covered, .ref a_hangs, .ref a_off, .int i_fell, .int i_fellToday, .int i_rotten, .int i_raked, .int i_cost, .ref a_dryGo, .ref a_wetGo, .ref a_keptSky, .int i_imaged, .int (nI itn), .int i_oldRaking, .long l_oldHeaps, .int (nI ilw), .ref a_oldSky, .ref a_oldCells, .ref a_sheetSort, .ref a_sheetSize, .ref a_items, .ref a_spare])), (a_sky, .inl (cI, 56, .inl skf))] [(0, .ref m), (1, .int (nI j)), (2, .int wh), (3, .int v)] 19 [.int 1]
      have hr10 := hf9
      rcases q_in4 hf9 with rfl | rfl | rfl | rfl
      ·
        have hn9 : o_n 0 = 0 := rfl
        refine x_if_eq C dX8_sky_19 (tgt := 49) rfl (fun q9 => absurd q9 (by decide)) (fun _ => ?_)
        refine x_iload_n C dX8_sky_22 3 rfl ?_
        refine x_iconst C dX8_sky_23 (v := 0) rfl ?_
        refine x_iload_n C dX8_sky_24 2 rfl ?_
        refine x_if_ne C dX8_sky_25 (tgt := 32) rfl (fun q9 => absurd q9 (by decide)) (fun _ => ?_)
        refine x_iconst C dX8_sky_28 (v := 3) rfl ?_
        refine x_goto C dX8_sky_29 (tgt := 43) rfl ?_
        refine x_callS C (As := [.int v, .int 0, .int 3]) (st := []) (wc := []) (wr := [(m, .inr (7, [.ref a_sky, .ref a_kind, .ref a_more, .ref a_strewn, .int (nI tn), .ref a_treeCell, .ref a_treeSort, .ref a_treeLeaves, .int i_raking, .long l_heaps, .int (nI tz), .ref a_tape, .int (nI wr), .int (nI lw), .ref a_code, .ref a_begins, .int i_made, .int i_at, .int i_from, .int i_sort, .int i_value, .int i_open, .ref a_stack, .ref a_dry, .ref a_wet, .ref a_covered, .ref a_hangs, .ref a_off, .int i_fell, .int i_fellToday, .int i_rotten, .int i_raked, .int i_cost, .ref a_dryGo, .ref a_wetGo, .ref a_keptSky, .int i_imaged, .int (nI itn), .int i_oldRaking, .long l_oldHeaps, .int (nI ilw), .ref a_oldSky, .ref a_oldCells, .ref a_sheetSort, .ref a_sheetSize, .ref a_items, .ref a_spare])), (a_sky, .inl (cI, 56, .inl skf))]) (c_X8_within l dG cI cM cW cS v 0 3 ) rZ0_ok (fun _ _ _ _ => trivial) kS_X8_108 hy_X8_within ⟨Nat.le_of_ble_eq_true rfl, Nat.le_of_ble_eq_true rfl⟩ ⟨Nat.le_of_ble_eq_true rfl, Nat.le_of_ble_eq_true rfl⟩ dX8_sky_43 [] [0, 1] rfl rfl rfl rfl (by decide) rfl (Nat.le_of_ble_eq_true rfl) ?_
        intro v11 w12 h13
        rcases h13 with h13 | h13
        ·
          obtain ⟨rfl, rfl, hf14⟩ := h13
          show X 0 0 [(m, .inr (7, [.ref a_sky, .ref a_kind, .ref a_more, .ref a_strewn, .int (nI tn), .ref a_treeCell, .ref a_treeSort, .ref a_treeLeaves, .int i_raking, .long l_heaps, .int (nI tz), .ref a_tape, .int (nI wr), .int (nI lw), .ref a_code, .ref a_begins, .int i_made, .int i_at, .int i_from, .int i_sort, .int i_value, .int i_open, .ref a_stack, .ref a_dry, .ref a_wet, .ref a_covered, .ref a_hangs, .ref a_off, .int i_fell, .int i_fellToday, .int i_rotten, .int i_raked, .int i_cost, .ref a_dryGo, .ref a_wetGo, .ref a_keptSky, .int i_imaged, .int (nI itn), .int i_oldRaking, .long l_oldHeaps, .int (nI ilw), .ref a_oldSky, .ref a_oldCells, .ref a_sheetSort, .ref a_sheetSize, .ref a_items, .ref a_spare])), (a_sky, .inl (cI, 56, .inl skf))] [(0, .ref m), (1, .int (nI j)), (2, .int 0), (3, .int v)] 46 [.int 1]
          refine x_if_ne C dX8_sky_46 (tgt := 52) rfl (fun _ => ?_) (fun q9 => by first | exact absurd q9 (by decide) | exact absurd (by decide) q9)
          refine x_aload_n C dX8_sky_52 0 rfl ?_
          refine x_get C inlX8 rfl 0 (by decide) gw_10_18 dX8_sky_53 0 rfl rfl ?_
          refine x_iconst C dX8_sky_56 (v := 4) rfl ?_
          refine x_iload_n C dX8_sky_57 1 rfl ?_
          refine x_imul C dX8_sky_58 ?_
          refine x_iload_n C dX8_sky_59 2 rfl ?_
          refine x_iadd C dX8_sky_60 ?_
          refine x_iaload C 0 rfl dX8_sky_61 ((4 * j) + 0) (q_cl (q_iadd (a := 4 * j) (b := 0) (q_imul (a := 4) (b := j) (rfl : (4 : Int32) = nI 4) rfl) (rfl : (0 : Int32) = nI 0)) (by omega)) (q_ix (q_iadd (a := 4 * j) (b := 0) (q_imul (a := 4) (b := j) (rfl : (4 : Int32) = nI 4) rfl) (rfl : (0 : Int32) = nI 0)) (by omega) (by omega)) 1 rfl ?_
          refine x_istore C dX8_sky_62 (by decide) (lv' := [(4, .int (skf ((4 * j) + 0))), (0, .ref m), (1, .int (nI j)), (2, .int 0), (3, .int v)]) rfl ?_
          show X _ _ _ _ 64 _
          refine x_aload_n C dX8_sky_64 1 rfl ?_
          refine x_get C inlX8 rfl 0 (by decide) gw_10_18 dX8_sky_65 0 rfl rfl ?_
          refine x_iconst C dX8_sky_68 (v := 4) rfl ?_
          refine x_iload_n C dX8_sky_69 2 rfl ?_
          refine x_imul C dX8_sky_70 ?_
          refine x_iload_n C dX8_sky_71 3 rfl ?_
          refine x_iadd C dX8_sky_72 ?_
          refine x_iload_n C dX8_sky_73 4 rfl ?_
          refine x_iastore C 0 rfl dX8_sky_74 ((4 * j) + 0) (q_cl (q_iadd (a := 4 * j) (b := 0) (q_imul (a := 4) (b := j) (rfl : (4 : Int32) = nI 4) rfl) (rfl : (0 : Int32) = nI 0)) (by omega)) (q_ix (q_iadd (a := 4 * j) (b := 0) (q_imul (a := 4) (b := j) (rfl : (4 : Int32) = nI 4) rfl) (rfl : (0 : Int32) = nI 0)) (by omega) (by omega)) 1 rfl ?_
          show X _ _ [(m, .inr (7, [.ref a_sky, .ref a_kind, .ref a_more, .ref a_strewn, .int (nI tn), .ref a_treeCell, .ref a_treeSort, .ref a_treeLeaves, .int i_raking, .long l_heaps, .int (nI tz), .ref a_tape, .int (nI wr), .int (nI lw), .ref a_code, .ref a_begins, .int i_made, .int i_at, .int i_from, .int i_sort, .int i_value, .int i_open, .ref a_stack, .ref a_dry, .ref a_wet, .ref a_covered, .ref a_hangs, .ref a_off, .int i_fell, .int i_fellToday, .int i_rotten, .int i_raked, .int i_cost, .ref a_dryGo, .ref a_wetGo, .ref a_keptSky, .int i_imaged, .int (nI itn), .int i_oldRaking, .long l_oldHeaps, .int (nI ilw), .ref a_oldSky, .ref a_oldCells, .ref a_sheetSort, .ref a_sheetSize, .ref a_items, .ref a_spare])), (a_sky, .inl (cI, 56, .inl (upd skf ((4 * j) + 0) v)))] _ _ _
          refine x_iload C dX8_sky_75 0 rfl ?_
          show X _ _ _ _ 77 _
          refine E dX8_sky_77 (rfl) ?_
          exact ⟨(skf ((4 * j) + 0)), (upd skf ((4 * j) + 0) v), rfl, rfl, by (unfold o_msky o_msky_f); (try simp only [hnj, hn9]); (repeat (first | rw [if_pos (by first | (rw [if_pos (by decide)]; assumption) | (rw [if_neg (by decide), if_pos (by decide)]; assumption) | (rw [if_neg (by decide), if_neg (by decide)]; assumption) | assumption | decide | omega | exact o_one_t (by assumption) | (rw [o_one_f (by assumption)]; decide) | exact ⟨by assumption, by assumption⟩ | exact fun h9 => absurd h9.1 (by assumption) | exact fun h9 => absurd h9.2 (by assumption))] | rw [if_neg (by first | (rw [if_pos (by decide)]; assumption) | (rw [if_neg (by decide), if_pos (by decide)]; assumption) | (rw [if_neg (by decide), if_neg (by decide)]; assumption) | assumption | decide | omega | exact o_one_t (by assumption) | (rw [o_one_f (by assumption)]; decide) | exact ⟨by assumption, by assumption⟩ | exact fun h9 => absurd h9.1 (by assumption) | exact fun h9 => absurd h9.2 (by assumption))])); all_goals (first | rfl)⟩
        ·
          obtain ⟨rfl, rfl, hf15⟩ := h13
          show X 0 0 [(m, .inr (7, [.ref a_sky, .ref a_kind, .ref a_more, .ref a_strewn, .int (nI tn), .ref a_treeCell, .ref a_treeSort, .ref a_treeLeaves, .int i_raking, .long l_heaps, .int (nI tz), .ref a_tape, .int (nI wr), .int (nI lw), .ref a_code, .ref a_begins, .int i_made, .int i_at, .int i_from, .int i_sort, .int i_value, .int i_open, .ref a_stack, .ref a_dry, .ref a_wet, .ref a_covered, .ref a_hangs, .ref a_off, .int i_fell, .int i_fellToday, .int i_rotten, .int i_raked, .int i_cost, .ref a_dryGo, .ref a_wetGo, .ref a_keptSky, .int i_imaged, .int (nI itn), .int i_oldRaking, .long l_oldHeaps, .int (nI ilw), .ref a_oldSky, .ref a_oldCells, .ref a_sheetSort, .ref a_sheetSize, .ref a_items, .ref a_spare])), (a_sky, .inl (cI, 56, .inl skf))] [(0, .ref m), (1, .int (nI j)), (2, .int 0), (3, .int v)] 46 [.int 0]
          refine x_if_ne C dX8_sky_46 (tgt := 52) rfl (fun q9 => absurd q9 (by decide)) (fun _ => ?_)
          refine x_bipush C dX8_sky_49 (v := (-7)) rfl ?_
          refine E dX8_sky_51 (rfl) ?_
          exact ⟨(-7), skf, rfl, rfl, by (unfold o_msky o_msky_f); (try simp only [hnj, hn9]); (repeat (first | rw [if_pos (by first | (rw [if_pos (by decide)]; assumption) | (rw [if_neg (by decide), if_pos (by decide)]; assumption) | (rw [if_neg (by decide), if_neg (by decide)]; assumption) | assumption | decide | omega | exact o_one_t (by assumption) | (rw [o_one_f (by assumption)]; decide) | exact ⟨by assumption, by assumption⟩ | exact fun h9 => absurd h9.1 (by assumption) | exact fun h9 => absurd h9.2 (by assumption))] | rw [if_neg (by first | (rw [if_pos (by decide)]; assumption) | (rw [if_neg (by decide), if_pos (by decide)]; assumption) | (rw [if_neg (by decide), if_neg (by decide)]; assumption) | assumption | decide | omega | exact o_one_t (by assumption) | (rw [o_one_f (by assumption)]; decide) | exact ⟨by assumption, by assumption⟩ | exact fun h9 => absurd h9.1 (by assumption) | exact fun h9 => absurd h9.2 (by assumption))])); all_goals (first | rfl)⟩
      ·
        have hn9 : o_n 1 = 1 := rfl
        refine x_if_eq C dX8_sky_19 (tgt := 49) rfl (fun q9 => absurd q9 (by decide)) (fun _ => ?_)
        refine x_iload_n C dX8_sky_22 3 rfl ?_
        refine x_iconst C dX8_sky_23 (v := 0) rfl ?_
        refine x_iload_n C dX8_sky_24 2 rfl ?_
        refine x_if_ne C dX8_sky_25 (tgt := 32) rfl (fun _ => ?_) (fun q9 => by first | exact absurd q9 (by decide) | exact absurd (by decide) q9)
        refine x_iload_n C dX8_sky_32 2 rfl ?_
        refine x_iconst C dX8_sky_33 (v := 1) rfl ?_
        refine x_icmp_ne C dX8_sky_34 (tgt := 42) rfl (fun q9 => absurd q9 (by decide)) (fun _ => ?_)
        refine x_bipush C dX8_sky_37 (v := 9) rfl ?_
        refine x_goto C dX8_sky_39 (tgt := 43) rfl ?_
        show X _ _ _ _ 43 _
        refine x_callS C (As := [.int v, .int 0, .int 9]) (st := []) (wc := []) (wr := [(m, .inr (7, [.ref a_sky, .ref a_kind, .ref a_more, .ref a_strewn, .int (nI tn), .ref a_treeCell, .ref a_treeSort, .ref a_treeLeaves, .int i_raking, .long l_heaps, .int (nI tz), .ref a_tape, .int (nI wr), .int (nI lw), .ref a_code, .ref a_begins, .int i_made, .int i_at, .int i_from, .int i_sort, .int i_value, .int i_open, .ref a_stack, .ref a_dry, .ref a_wet, .ref a_covered, .ref a_hangs, .ref a_off, .int i_fell, .int i_fellToday, .int i_rotten, .int i_raked, .int i_cost, .ref a_dryGo, .ref a_wetGo, .ref a_keptSky, .int i_imaged, .int (nI itn), .int i_oldRaking, .long l_oldHeaps, .int (nI ilw), .ref a_oldSky, .ref a_oldCells, .ref a_sheetSort, .ref a_sheetSize, .ref a_items, .ref a_spare])), (a_sky, .inl (cI, 56, .inl skf))]) (c_X8_within l dG cI cM cW cS v 0 9 ) rZ0_ok (fun _ _ _ _ => trivial) kS_X8_108 hy_X8_within ⟨Nat.le_of_ble_eq_true rfl, Nat.le_of_ble_eq_true rfl⟩ ⟨Nat.le_of_ble_eq_true rfl, Nat.le_of_ble_eq_true rfl⟩ dX8_sky_43 [] [0, 1] rfl rfl rfl rfl (by decide) rfl (Nat.le_of_ble_eq_true rfl) ?_
        intro v16 w17 h18
        rcases h18 with h18 | h18
        ·
          obtain ⟨rfl, rfl, hf19⟩ := h18
          show X 0 0 [(m, .inr (7, [.ref a_sky, .ref a_kind, .ref a_more, .ref a_strewn, .int (nI tn), .ref a_treeCell, .ref a_treeSort, .ref a_treeLeaves, .int i_raking, .long l_heaps, .int (nI tz), .ref a_tape, .int (nI wr), .int (nI lw), .ref a_code, .ref a_begins, .int i_made, .int i_at, .int i_from, .int i_sort, .int i_value, .int i_open, .ref a_stack, .ref a_dry, .ref a_wet, .ref a_covered, .ref a_hangs, .ref a_off, .int i_fell, .int i_fellToday, .int i_rotten, .int i_raked, .int i_cost, .ref a_dryGo, .ref a_wetGo, .ref a_keptSky, .int i_imaged, .int (nI itn), .int i_oldRaking, .long l_oldHeaps, .int (nI ilw), .ref a_oldSky, .ref a_oldCells, .ref a_sheetSort, .ref a_sheetSize, .ref a_items, .ref a_spare])), (a_sky, .inl (cI, 56, .inl skf))] [(0, .ref m), (1, .int (nI j)), (2, .int 1), (3, .int v)] 46 [.int 1]
          refine x_if_ne C dX8_sky_46 (tgt := 52) rfl (fun _ => ?_) (fun q9 => by first | exact absurd q9 (by decide) | exact absurd (by decide) q9)
          refine x_aload_n C dX8_sky_52 0 rfl ?_
          refine x_get C inlX8 rfl 0 (by decide) gw_10_18 dX8_sky_53 0 rfl rfl ?_
          refine x_iconst C dX8_sky_56 (v := 4) rfl ?_
          refine x_iload_n C dX8_sky_57 1 rfl ?_
          refine x_imul C dX8_sky_58 ?_
          refine x_iload_n C dX8_sky_59 2 rfl ?_
          refine x_iadd C dX8_sky_60 ?_
          refine x_iaload C 0 rfl dX8_sky_61 ((4 * j) + 1) (q_cl (q_iadd (a := 4 * j) (b := 1) (q_imul (a := 4) (b := j) (rfl : (4 : Int32) = nI 4) rfl) (rfl : (1 : Int32) = nI 1)) (by omega)) (q_ix (q_iadd (a := 4 * j) (b := 1) (q_imul (a := 4) (b := j) (rfl : (4 : Int32) = nI 4) rfl) (rfl : (1 : Int32) = nI 1)) (by omega) (by omega)) 1 rfl ?_
          refine x_istore C dX8_sky_62 (by decide) (lv' := [(4, .int (skf ((4 * j) + 1))), (0, .ref m), (1, .int (nI j)), (2, .int 1), (3, .int v)]) rfl ?_
          show X _ _ _ _ 64 _
          refine x_aload_n C dX8_sky_64 1 rfl ?_
          refine x_get C inlX8 rfl 0 (by decide) gw_10_18 dX8_sky_65 0 rfl rfl ?_
          refine x_iconst C dX8_sky_68 (v := 4) rfl ?_
          refine x_iload_n C dX8_sky_69 2 rfl ?_
          refine x_imul C dX8_sky_70 ?_
          refine x_iload_n C dX8_sky_71 3 rfl ?_
          refine x_iadd C dX8_sky_72 ?_
          refine x_iload_n C dX8_sky_73 4 rfl ?_
          refine x_iastore C 0 rfl dX8_sky_74 ((4 * j) + 1) (q_cl (q_iadd (a := 4 * j) (b := 1) (q_imul (a := 4) (b := j) (rfl : (4 : Int32) = nI 4) rfl) (rfl : (1 : Int32) = nI 1)) (by omega)) (q_ix (q_iadd (a := 4 * j) (b := 1) (q_imul (a := 4) (b := j) (rfl : (4 : Int32) = nI 4) rfl) (rfl : (1 : Int32) = nI 1)) (by omega) (by omega)) 1 rfl ?_
          show X _ _ [(m, .inr (7, [.ref a_sky, .ref a_kind, .ref a_more, .ref a_strewn, .int (nI tn), .ref a_treeCell, .ref a_treeSort, .ref a_treeLeaves, .int i_raking, .long l_heaps, .int (nI tz), .ref a_tape, .int (nI wr), .int (nI lw), .ref a_code, .ref a_begins, .int i_made, .int i_at, .int i_from, .int i_sort, .int i_value, .int i_open, .ref a_stack, .ref a_dry, .ref a_wet, .ref a_covered, .ref a_hangs, .ref a_off, .int i_fell, .int i_fellToday, .int i_rotten, .int i_raked, .int i_cost, .ref a_dryGo, .ref a_wetGo, .ref a_keptSky, .int i_imaged, .int (nI itn), .int i_oldRaking, .long l_oldHeaps, .int (nI ilw), .ref a_oldSky, .ref a_oldCells, .ref a_sheetSort, .ref a_sheetSize, .ref a_items, .ref a_spare])), (a_sky, .inl (cI, 56, .inl (upd skf ((4 * j) + 1) v)))] _ _ _
          refine x_iload C dX8_sky_75 0 rfl ?_
          show X _ _ _ _ 77 _
          refine E dX8_sky_77 (rfl) ?_
          exact ⟨(skf ((4 * j) + 1)), (upd skf ((4 * j) + 1) v), rfl, rfl, by (unfold o_msky o_msky_f); (try simp only [hnj, hn9]); (repeat (first | rw [if_pos (by first | (rw [if_pos (by decide)]; assumption) | (rw [if_neg (by decide), if_pos (by decide)]; assumption) | (rw [if_neg (by decide), if_neg (by decide)]; assumption) | assumption | decide | omega | exact o_one_t (by assumption) | (rw [o_one_f (by assumption)]; decide) | exact ⟨by assumption, by assumption⟩ | exact fun h9 => absurd h9.1 (by assumption) | exact fun h9 => absurd h9.2 (by assumption))] | rw [if_neg (by first | (rw [if_pos (by decide)]; assumption) | (rw [if_neg (by decide), if_pos (by decide)]; assumption) | (rw [if_neg (by decide), if_neg (by decide)]; assumption) | assumption | decide | omega | exact o_one_t (by assumption) | (rw [o_one_f (by assumption)]; decide) | exact ⟨by assumption, by assumption⟩ | exact fun h9 => absurd h9.1 (by assumption) | exact fun h9 => absurd h9.2 (by assumption))])); all_goals (first | rfl)⟩
        ·
          obtain ⟨rfl, rfl, hf20⟩ := h18
          show X 0 0 [(m, .inr (7, [.ref a_sky, .ref a_kind, .ref a_more, .ref a_strewn, .int (nI tn), .ref a_treeCell, .ref a_treeSort, .ref a_treeLeaves, .int i_raking, .long l_heaps, .int (nI tz), .ref a_tape, .int (nI wr), .int (nI lw), .ref a_code, .ref a_begins, .int i_made, .int i_at, .int i_from, .int i_sort, .int i_value, .int i_open, .ref a_stack, .ref a_dry, .ref a_wet, .ref a_covered, .ref a_hangs, .ref a_off, .int i_fell, .int i_fellToday, .int i_rotten, .int i_raked, .int i_cost, .ref a_dryGo, .ref a_wetGo, .ref a_keptSky, .int i_imaged, .int (nI itn), .int i_oldRaking, .long l_oldHeaps, .int (nI ilw), .ref a_oldSky, .ref a_oldCells, .ref a_sheetSort, .ref a_sheetSize, .ref a_items, .ref a_spare])), (a_sky, .inl (cI, 56, .inl skf))] [(0, .ref m), (1, .int (nI j)), (2, .int 1), (3, .int v)] 46 [.int 0]
          refine x_if_ne C dX8_sky_46 (tgt := 52) rfl (fun q9 => absurd q9 (by decide)) (fun _ => ?_)
          refine x_bipush C dX8_sky_49 (v := (-7)) rfl ?_
          refine E dX8_sky_51 (rfl) ?_
          exact ⟨(-7), skf, rfl, rfl, by (unfold o_msky o_msky_f); (try simp only [hnj, hn9]); (repeat (first | rw [if_pos (by first | (rw [if_pos (by decide)]; assumption) | (rw [if_neg (by decide), if_pos (by decide)]; assumption) | (rw [if_neg (by decide), if_neg (by decide)]; assumption) | assumption | decide | omega | exact o_one_t (by assumption) | (rw [o_one_f (by assumption)]; decide) | exact ⟨by assumption, by assumption⟩ | exact fun h9 => absurd h9.1 (by assumption) | exact fun h9 => absurd h9.2 (by assumption))] | rw [if_neg (by first | (rw [if_pos (by decide)]; assumption) | (rw [if_neg (by decide), if_pos (by decide)]; assumption) | (rw [if_neg (by decide), if_neg (by decide)]; assumption) | assumption | decide | omega | exact o_one_t (by assumption) | (rw [o_one_f (by assumption)]; decide) | exact ⟨by assumption, by assumption⟩ | exact fun h9 => absurd h9.1 (by assumption) | exact fun h9 => absurd h9.2 (by assumption))])); all_goals (first | rfl)⟩
      ·
        have hn9 : o_n 2 = 2 := rfl
        refine x_if_eq C dX8_sky_19 (tgt := 49) rfl (fun q9 => absurd q9 (by decide)) (fun _ => ?_)
        refine x_iload_n C dX8_sky_22 3 rfl ?_
        refine x_iconst C dX8_sky_23 (v := 0) rfl ?_
        refine x_iload_n C dX8_sky_24 2 rfl ?_
        refine x_if_ne C dX8_sky_25 (tgt := 32) rfl (fun _ => ?_) (fun q9 => by first | exact absurd q9 (by decide) | exact absurd (by decide) q9)
        refine x_iload_n C dX8_sky_32 2 rfl ?_
        refine x_iconst C dX8_sky_33 (v := 1) rfl ?_
        refine x_icmp_ne C dX8_sky_34 (tgt := 42) rfl (fun _ => ?_) (fun q9 => by first | exact absurd q9 (by decide) | exact absurd (by decide) q9)
        refine x_iconst C dX8_sky_42 (v := 1) rfl ?_
        refine x_callS C (As := [.int v, .int 0, .int 1]) (st := []) (wc := []) (wr := [(m, .inr (7, [.ref a_sky, .ref a_kind, .ref a_more, .ref a_strewn, .int (nI tn), .ref a_treeCell, .ref a_treeSort, .ref a_treeLeaves, .int i_raking, .long l_heaps, .int (nI tz), .ref a_tape, .int (nI wr), .int (nI lw), .ref a_code, .ref a_begins, .int i_made, .int i_at, .int i_from, .int i_sort, .int i_value, .int i_open, .ref a_stack, .ref a_dry, .ref a_wet, .ref a_covered, .ref a_hangs, .ref a_off, .int i_fell, .int i_fellToday, .int i_rotten, .int i_raked, .int i_cost, .ref a_dryGo, .ref a_wetGo, .ref a_keptSky, .int i_imaged, .int (nI itn), .int i_oldRaking, .long l_oldHeaps, .int (nI ilw), .ref a_oldSky, .ref a_oldCells, .ref a_sheetSort, .ref a_sheetSize, .ref a_items, .ref a_spare])), (a_sky, .inl (cI, 56, .inl skf))]) (c_X8_within l dG cI cM cW cS v 0 1 ) rZ0_ok (fun _ _ _ _ => trivial) kS_X8_108 hy_X8_within ⟨Nat.le_of_ble_eq_true rfl, Nat.le_of_ble_eq_true rfl⟩ ⟨Nat.le_of_ble_eq_true rfl, Nat.le_of_ble_eq_true rfl⟩ dX8_sky_43 [] [0, 1] rfl rfl rfl rfl (by decide) rfl (Nat.le_of_ble_eq_true rfl) ?_
        intro v21 w22 h23
        rcases h23 with h23 | h23
        ·
          obtain ⟨rfl, rfl, hf24⟩ := h23
          show X 0 0 [(m, .inr (7, [.ref a_sky, .ref a_kind, .ref a_more, .ref a_strewn, .int (nI tn), .ref a_treeCell, .ref a_treeSort, .ref a_treeLeaves, .int i_raking, .long l_heaps, .int (nI tz), .ref a_tape, .int (nI wr), .int (nI lw), .ref a_code, .ref a_begins, .int i_made, .int i_at, .int i_from, .int i_sort, .int i_value, .int i_open, .ref a_stack, .ref a_dry, .ref a_wet, .ref a_covered, .ref a_hangs, .ref a_off, .int i_fell, .int i_fellToday, .int i_rotten, .int i_raked, .int i_cost, .ref a_dryGo, .ref a_wetGo, .ref a_keptSky, .int i_imaged, .int (nI itn), .int i_oldRaking, .long l_oldHeaps, .int (nI ilw), .ref a_oldSky, .ref a_oldCells, .ref a_sheetSort, .ref a_sheetSize, .ref a_items, .ref a_spare])), (a_sky, .inl (cI, 56, .inl skf))] [(0, .ref m), (1, .int (nI j)), (2, .int 2), (3, .int v)] 46 [.int 1]
          refine x_if_ne C dX8_sky_46 (tgt := 52) rfl (fun _ => ?_) (fun q9 => by first | exact absurd q9 (by decide) | exact absurd (by decide) q9)
          refine x_aload_n C dX8_sky_52 0 rfl ?_
          refine x_get C inlX8 rfl 0 (by decide) gw_10_18 dX8_sky_53 0 rfl rfl ?_
          refine x_iconst C dX8_sky_56 (v := 4) rfl ?_
          refine x_iload_n C dX8_sky_57 1 rfl ?_
          refine x_imul C dX8_sky_58 ?_
          refine x_iload_n C dX8_sky_59 2 rfl ?_
          refine x_iadd C dX8_sky_60 ?_
          refine x_iaload C 0 rfl dX8_sky_61 ((4 * j) + 2) (q_cl (q_iadd (a := 4 * j) (b := 2) (q_imul (a := 4) (b := j) (rfl : (4 : Int32) = nI 4) rfl) (rfl : (2 : Int32) = nI 2)) (by omega)) (q_ix (q_iadd (a := 4 * j) (b := 2) (q_imul (a := 4) (b := j) (rfl : (4 : Int32) = nI 4) rfl) (rfl : (2 : Int32) = nI 2)) (by omega) (by omega)) 1 rfl ?_
          refine x_istore C dX8_sky_62 (by decide) (lv' := [(4, .int (skf ((4 * j) + 2))), (0, .ref m), (1, .int (nI j)), (2, .int 2), (3, .int v)]) rfl ?_
          show X _ _ _ _ 64 _
          refine x_aload_n C dX8_sky_64 1 rfl ?_
          refine x_get C inlX8 rfl 0 (by decide) gw_10_18 dX8_sky_65 0 rfl rfl ?_
          refine x_iconst C dX8_sky_68 (v := 4) rfl ?_
          refine x_iload_n C dX8_sky_69 2 rfl ?_
          refine x_imul C dX8_sky_70 ?_
          refine x_iload_n C dX8_sky_71 3 rfl ?_
          refine x_iadd C dX8_sky_72 ?_
          refine x_iload_n C dX8_sky_73 4 rfl ?_
          refine x_iastore C 0 rfl dX8_sky_74 ((4 * j) + 2) (q_cl (q_iadd (a := 4 * j) (b := 2) (q_imul (a := 4) (b := j) (rfl : (4 : Int32) = nI 4) rfl) (rfl : (2 : Int32) = nI 2)) (by omega)) (q_ix (q_iadd (a := 4 * j) (b := 2) (q_imul (a := 4) (b := j) (rfl : (4 : Int32) = nI 4) rfl) (rfl : (2 : Int32) = nI 2)) (by omega) (by omega)) 1 rfl ?_
          show X _ _ [(m, .inr (7, [.ref a_sky, .ref a_kind, .ref a_more, .ref a_strewn, .int (nI tn), .ref a_treeCell, .ref a_treeSort, .ref a_treeLeaves, .int i_raking, .long l_heaps, .int (nI tz), .ref a_tape, .int (nI wr), .int (nI lw), .ref a_code, .ref a_begins, .int i_made, .int i_at, .int i_from, .int i_sort, .int i_value, .int i_open, .ref a_stack, .ref a_dry, .ref a_wet, .ref a_covered, .ref a_hangs, .ref a_off, .int i_fell, .int i_fellToday, .int i_rotten, .int i_raked, .int i_cost, .ref a_dryGo, .ref a_wetGo, .ref a_keptSky, .int i_imaged, .int (nI itn), .int i_oldRaking, .long l_oldHeaps, .int (nI ilw), .ref a_oldSky, .ref a_oldCells, .ref a_sheetSort, .ref a_sheetSize, .ref a_items, .ref a_spare])), (a_sky, .inl (cI, 56, .inl (upd skf ((4 * j) + 2) v)))] _ _ _
          refine x_iload C dX8_sky_75 0 rfl ?_
          show X _ _ _ _ 77 _
          refine E dX8_sky_77 (rfl) ?_
          exact ⟨(skf ((4 * j) + 2)), (upd skf ((4 * j) + 2) v), rfl, rfl, by (unfold o_msky o_msky_f); (try simp only [hnj, hn9]); (repeat (first | rw [if_pos (by first | (rw [if_pos (by decide)]; assumption) | (rw [if_neg (by decide), if_pos (by decide)]; assumption) | (rw [if_neg (by decide), if_neg (by decide)]; assumption) | assumption | decide | omega | exact o_one_t (by assumption) | (rw [o_one_f (by assumption)]; decide) | exact ⟨by assumption, by assumption⟩ | exact fun h9 => absurd h9.1 (by assumption) | exact fun h9 => absurd h9.2 (by assumption))] | rw [if_neg (by first | (rw [if_pos (by decide)]; assumption) | (rw [if_neg (by decide), if_pos (by decide)]; assumption) | (rw [if_neg (by decide), if_neg (by decide)]; assumption) | assumption | decide | omega | exact o_one_t (by assumption) | (rw [o_one_f (by assumption)]; decide) | exact ⟨by assumption, by assumption⟩ | exact fun h9 => absurd h9.1 (by assumption) | exact fun h9 => absurd h9.2 (by assumption))])); all_goals (first | rfl)⟩
        ·
          obtain ⟨rfl, rfl, hf25⟩ := h23
          show X 0 0 [(m, .inr (7, [.ref a_sky, .ref a_kind, .ref a_more, .ref a_strewn, .int (nI tn), .ref a_treeCell, .ref a_treeSort, .ref a_treeLeaves, .int i_raking, .long l_heaps, .int (nI tz), .ref a_tape, .int (nI wr), .int (nI lw), .ref a_code, .ref a_begins, .int i_made, .int i_at, .int i_from, .int i_sort, .int i_value, .int i_open, .ref a_stack, .ref a_dry, .ref a_wet, .ref a_covered, .ref a_hangs, .ref a_off, .int i_fell, .int i_fellToday, .int i_rotten, .int i_raked, .int i_cost, .ref a_dryGo, .ref a_wetGo, .ref a_keptSky, .int i_imaged, .int (nI itn), .int i_oldRaking, .long l_oldHeaps, .int (nI ilw), .ref a_oldSky, .ref a_oldCells, .ref a_sheetSort, .ref a_sheetSize, .ref a_items, .ref a_spare])), (a_sky, .inl (cI, 56, .inl skf))] [(0, .ref m), (1, .int (nI j)), (2, .int 2), (3, .int v)] 46 [.int 0]
          refine x_if_ne C dX8_sky_46 (tgt := 52) rfl (fun q9 => absurd q9 (by decide)) (fun _ => ?_)
          refine x_bipush C dX8_sky_49 (v := (-7)) rfl ?_
          refine E dX8_sky_51 (rfl) ?_
          exact ⟨(-7), skf, rfl, rfl, by (unfold o_msky o_msky_f); (try simp only [hnj, hn9]); (repeat (first | rw [if_pos (by first | (rw [if_pos (by decide)]; assumption) | (rw [if_neg (by decide), if_pos (by decide)]; assumption) | (rw [if_neg (by decide), if_neg (by decide)]; assumption) | assumption | decide | omega | exact o_one_t (by assumption) | (rw [o_one_f (by assumption)]; decide) | exact ⟨by assumption, by assumption⟩ | exact fun h9 => absurd h9.1 (by assumption) | exact fun h9 => absurd h9.2 (by assumption))] | rw [if_neg (by first | (rw [if_pos (by decide)]; assumption) | (rw [if_neg (by decide), if_pos (by decide)]; assumption) | (rw [if_neg (by decide), if_neg (by decide)]; assumption) | assumption | decide | omega | exact o_one_t (by assumption) | (rw [o_one_f (by assumption)]; decide) | exact ⟨by assumption, by assumption⟩ | exact fun h9 => absurd h9.1 (by assumption) | exact fun h9 => absurd h9.2 (by assumption))])); all_goals (first | rfl)⟩
      ·
        have hn9 : o_n 3 = 3 := rfl
        refine x_if_eq C dX8_sky_19 (tgt := 49) rfl (fun q9 => absurd q9 (by decide)) (fun _ => ?_)
        refine x_iload_n C dX8_sky_22 3 rfl ?_
        refine x_iconst C dX8_sky_23 (v := 0) rfl ?_
        refine x_iload_n C dX8_sky_24 2 rfl ?_
        refine x_if_ne C dX8_sky_25 (tgt := 32) rfl (fun _ => ?_) (fun q9 => by first | exact absurd q9 (by decide) | exact absurd (by decide) q9)
        refine x_iload_n C dX8_sky_32 2 rfl ?_
        refine x_iconst C dX8_sky_33 (v := 1) rfl ?_
        refine x_icmp_ne C dX8_sky_34 (tgt := 42) rfl (fun _ => ?_) (fun q9 => by first | exact absurd q9 (by decide) | exact absurd (by decide) q9)
        refine x_iconst C dX8_sky_42 (v := 1) rfl ?_
        refine x_callS C (As := [.int v, .int 0, .int 1]) (st := []) (wc := []) (wr := [(m, .inr (7, [.ref a_sky, .ref a_kind, .ref a_more, .ref a_strewn, .int (nI tn), .ref a_treeCell, .ref a_treeSort, .ref a_treeLeaves, .int i_raking, .long l_heaps, .int (nI tz), .ref a_tape, .int (nI wr), .int (nI lw), .ref a_code, .ref a_begins, .int i_made, .int i_at, .int i_from, .int i_sort, .int i_value, .int i_open, .ref a_stack, .ref a_dry, .ref a_wet, .ref a_covered, .ref a_hangs, .ref a_off, .int i_fell, .int i_fellToday, .int i_rotten, .int i_raked, .int i_cost, .ref a_dryGo, .ref a_wetGo, .ref a_keptSky, .int i_imaged, .int (nI itn), .int i_oldRaking, .long l_oldHeaps, .int (nI ilw), .ref a_oldSky, .ref a_oldCells, .ref a_sheetSort, .ref a_sheetSize, .ref a_items, .ref a_spare])), (a_sky, .inl (cI, 56, .inl skf))]) (c_X8_within l dG cI cM cW cS v 0 1 ) rZ0_ok (fun _ _ _ _ => trivial) kS_X8_108 hy_X8_within ⟨Nat.le_of_ble_eq_true rfl, Nat.le_of_ble_eq_true rfl⟩ ⟨Nat.le_of_ble_eq_true rfl, Nat.le_of_ble_eq_true rfl⟩ dX8_sky_43 [] [0, 1] rfl rfl rfl rfl (by decide) rfl (Nat.le_of_ble_eq_true rfl) ?_
        intro v26 w27 h28
        rcases h28 with h28 | h28
        ·
          obtain ⟨rfl, rfl, hf29⟩ := h28
          show X 0 0 [(m, .inr (7, [.ref a_sky, .ref a_kind, .ref a_more, .ref a_strewn, .int (nI tn), .ref a_treeCell, .ref a_treeSort, .ref a_treeLeaves, .int i_raking, .long l_heaps, .int (nI tz), .ref a_tape, .int (nI wr), .int (nI lw), .ref a_code, .ref a_begins, .int i_made, .int i_at, .int i_from, .int i_sort, .int i_value, .int i_open, .ref a_stack, .ref a_dry, .ref a_wet, .ref a_covered, .ref a_hangs, .ref a_off, .int i_fell, .int i_fellToday, .int i_rotten, .int i_raked, .int i_cost, .ref a_dryGo, .ref a_wetGo, .ref a_keptSky, .int i_imaged, .int (nI itn), .int i_oldRaking, .long l_oldHeaps, .int (nI ilw), .ref a_oldSky, .ref a_oldCells, .ref a_sheetSort, .ref a_sheetSize, .ref a_items, .ref a_spare])), (a_sky, .inl (cI, 56, .inl skf))] [(0, .ref m), (1, .int (nI j)), (2, .int 3), (3, .int v)] 46 [.int 1]
          refine x_if_ne C dX8_sky_46 (tgt := 52) rfl (fun _ => ?_) (fun q9 => by first | exact absurd q9 (by decide) | exact absurd (by decide) q9)
          refine x_aload_n C dX8_sky_52 0 rfl ?_
          refine x_get C inlX8 rfl 0 (by decide) gw_10_18 dX8_sky_53 0 rfl rfl ?_
          refine x_iconst C dX8_sky_56 (v := 4) rfl ?_
          refine x_iload_n C dX8_sky_57 1 rfl ?_
          refine x_imul C dX8_sky_58 ?_
          refine x_iload_n C dX8_sky_59 2 rfl ?_
          refine x_iadd C dX8_sky_60 ?_
          refine x_iaload C 0 rfl dX8_sky_61 ((4 * j) + 3) (q_cl (q_iadd (a := 4 * j) (b := 3) (q_imul (a := 4) (b := j) (rfl : (4 : Int32) = nI 4) rfl) (rfl : (3 : Int32) = nI 3)) (by omega)) (q_ix (q_iadd (a := 4 * j) (b := 3) (q_imul (a := 4) (b := j) (rfl : (4 : Int32) = nI 4) rfl) (rfl : (3 : Int32) = nI 3)) (by omega) (by omega)) 1 rfl ?_
          refine x_istore C dX8_sky_62 (by decide) (lv' := [(4, .int (skf ((4 * j) + 3))), (0, .ref m), (1, .int (nI j)), (2, .int 3), (3, .int v)]) rfl ?_
          show X _ _ _ _ 64 _
          refine x_aload_n C dX8_sky_64 1 rfl ?_
          refine x_get C inlX8 rfl 0 (by decide) gw_10_18 dX8_sky_65 0 rfl rfl ?_
          refine x_iconst C dX8_sky_68 (v := 4) rfl ?_
          refine x_iload_n C dX8_sky_69 2 rfl ?_
          refine x_imul C dX8_sky_70 ?_
          refine x_iload_n C dX8_sky_71 3 rfl ?_
          refine x_iadd C dX8_sky_72 ?_
          refine x_iload_n C dX8_sky_73 4 rfl ?_
          refine x_iastore C 0 rfl dX8_sky_74 ((4 * j) + 3) (q_cl (q_iadd (a := 4 * j) (b := 3) (q_imul (a := 4) (b := j) (rfl : (4 : Int32) = nI 4) rfl) (rfl : (3 : Int32) = nI 3)) (by omega)) (q_ix (q_iadd (a := 4 * j) (b := 3) (q_imul (a := 4) (b := j) (rfl : (4 : Int32) = nI 4) rfl) (rfl : (3 : Int32) = nI 3)) (by omega) (by omega)) 1 rfl ?_
          show X _ _ [(m, .inr (7, [.ref a_sky, .ref a_kind, .ref a_more, .ref a_strewn, .int (nI tn), .ref a_treeCell, .ref a_treeSort, .ref a_treeLeaves, .int i_raking, .long l_heaps, .int (nI tz), .ref a_tape, .int (nI wr), .int (nI lw), .ref a_code, .ref a_begins, .int i_made, .int i_at, .int i_from, .int i_sort, .int i_value, .int i_open, .ref a_stack, .ref a_dry, .ref a_wet, .ref a_covered, .ref a_hangs, .ref a_off, .int i_fell, .int i_fellToday, .int i_rotten, .int i_raked, .int i_cost, .ref a_dryGo, .ref a_wetGo, .ref a_keptSky, .int i_imaged, .int (nI itn), .int i_oldRaking, .long l_oldHeaps, .int (nI ilw), .ref a_oldSky, .ref a_oldCells, .ref a_sheetSort, .ref a_sheetSize, .ref a_items, .ref a_spare])), (a_sky, .inl (cI, 56, .inl (upd skf ((4 * j) + 3) v)))] _ _ _
          refine x_iload C dX8_sky_75 0 rfl ?_
          show X _ _ _ _ 77 _
          refine E dX8_sky_77 (rfl) ?_
          exact ⟨(skf ((4 * j) + 3)), (upd skf ((4 * j) + 3) v), rfl, rfl, by (unfold o_msky o_msky_f); (try simp only [hnj, hn9]); (repeat (first | rw [if_pos (by first | (rw [if_pos (by decide)]; assumption) | (rw [if_neg (by decide), if_pos (by decide)]; assumption) | (rw [if_neg (by decide), if_neg (by decide)]; assumption) | assumption | decide | omega | exact o_one_t (by assumption) | (rw [o_one_f (by assumption)]; decide) | exact ⟨by assumption, by assumption⟩ | exact fun h9 => absurd h9.1 (by assumption) | exact fun h9 => absurd h9.2 (by assumption))] | rw [if_neg (by first | (rw [if_pos (by decide)]; assumption) | (rw [if_neg (by decide), if_pos (by decide)]; assumption) | (rw [if_neg (by decide), if_neg (by decide)]; assumption) | assumption | decide | omega | exact o_one_t (by assumption) | (rw [o_one_f (by assumption)]; decide) | exact ⟨by assumption, by assumption⟩ | exact fun h9 => absurd h9.1 (by assumption) | exact fun h9 => absurd h9.2 (by assumption))])); all_goals (first | rfl)⟩
        ·
          obtain ⟨rfl, rfl, hf30⟩ := h28
          show X 0 0 [(m, .inr (7, [.ref a_sky, .ref a_kind, .ref a_more, .ref a_strewn, .int (nI tn), .ref a_treeCell, .ref a_treeSort, .ref a_treeLeaves, .int i_raking, .long l_heaps, .int (nI tz), .ref a_tape, .int (nI wr), .int (nI lw), .ref a_code, .ref a_begins, .int i_made, .int i_at, .int i_from, .int i_sort, .int i_value, .int i_open, .ref a_stack, .ref a_dry, .ref a_wet, .ref a_covered, .ref a_hangs, .ref a_off, .int i_fell, .int i_fellToday, .int i_rotten, .int i_raked, .int i_cost, .ref a_dryGo, .ref a_wetGo, .ref a_keptSky, .int i_imaged, .int (nI itn), .int i_oldRaking, .long l_oldHeaps, .int (nI ilw), .ref a_oldSky, .ref a_oldCells, .ref a_sheetSort, .ref a_sheetSize, .ref a_items, .ref a_spare])), (a_sky, .inl (cI, 56, .inl skf))] [(0, .ref m), (1, .int (nI j)), (2, .int 3), (3, .int v)] 46 [.int 0]
          refine x_if_ne C dX8_sky_46 (tgt := 52) rfl (fun q9 => absurd q9 (by decide)) (fun _ => ?_)
          refine x_bipush C dX8_sky_49 (v := (-7)) rfl ?_
          refine E dX8_sky_51 (rfl) ?_
          exact ⟨(-7), skf, rfl, rfl, by (unfold o_msky o_msky_f); (try simp only [hnj, hn9]); (repeat (first | rw [if_pos (by first | (rw [if_pos (by decide)]; assumption) | (rw [if_neg (by decide), if_pos (by decide)]; assumption) | (rw [if_neg (by decide), if_neg (by decide)]; assumption) | assumption | decide | omega | exact o_one_t (by assumption) | (rw [o_one_f (by assumption)]; decide) | exact ⟨by assumption, by assumption⟩ | exact fun h9 => absurd h9.1 (by assumption) | exact fun h9 => absurd h9.2 (by assumption))] | rw [if_neg (by first | (rw [if_pos (by decide)]; assumption) | (rw [if_neg (by decide), if_pos (by decide)]; assumption) | (rw [if_neg (by decide), if_neg (by decide)]; assumption) | assumption | decide | omega | exact o_one_t (by assumption) | (rw [o_one_f (by assumption)]; decide) | exact ⟨by assumption, by assumption⟩ | exact fun h9 => absurd h9.1 (by assumption) | exact fun h9 => absurd h9.2 (by assumption))])); all_goals (first | rfl)⟩
    ·
      obtain ⟨rfl, rfl, hf31⟩ := h8
      show X 0 0 [(m, .inr (7, [.ref a_sky, .ref a_kind, .ref a_more, .ref a_strewn, .int (nI tn), .ref a_treeCell, .ref a_treeSort, .ref a_treeLeaves, .int i_raking, .long l_heaps, .int (nI tz), .ref a_tape, .int (nI wr), .int (nI lw), .ref a_code, .ref a_begins, .int i_made, .int i_at, .int i_from, .int i_sort, .int i_value, .int i_open, .ref a_stack, .ref a_dry, .ref a_wet, .ref a_covered, .ref a_hangs, .ref a_off, .int i_fell, .int i_fellToday, .int i_rotten, .int i_raked, .int i_cost, .ref a_dryGo, .ref a_wetGo, .ref a_keptSky, .int i_imaged, .int (nI itn), .int i_oldRaking, .long l_oldHeaps, .int (nI ilw), .ref a_oldSky, .ref a_oldCells, .ref a_sheetSort, .ref a_sheetSize, .ref a_items, .ref a_spare])), (a_sky, .inl (cI, 56, .inl skf))] [(0, .ref m), (1, .int (nI j)), (2, .int wh), (3, .int v)] 19 [.int 0]
      refine x_if_eq C dX8_sky_19 (tgt := 49) rfl (fun _ => ?_) (fun q9 => by first | exact absurd q9 (by decide) | exact absurd (by decide) q9)
      refine x_bipush C dX8_sky_49 (v := (-7)) rfl ?_
      refine E dX8_sky_51 (rfl) ?_
      exact ⟨(-7), skf, rfl, rfl, by (unfold o_msky o_msky_f); (try simp only [hnj]); (repeat (first | rw [if_pos (by first | (rw [if_pos (by decide)]; assumption) | (rw [if_neg (by decide), if_pos (by decide)]; assumption) | (rw [if_neg (by decide), if_neg (by decide)]; assumption) | assumption | decide | omega | exact o_one_t (by assumption) | (rw [o_one_f (by assumption)]; decide) | exact ⟨by assumption, by assumption⟩ | exact fun h9 => absurd h9.1 (by assumption) | exact fun h9 => absurd h9.2 (by assumption))] | rw [if_neg (by first | (rw [if_pos (by decide)]; assumption) | (rw [if_neg (by decide), if_pos (by decide)]; assumption) | (rw [if_neg (by decide), if_neg (by decide)]; assumption) | assumption | decide | omega | exact o_one_t (by assumption) | (rw [o_one_f (by assumption)]; decide) | exact ⟨by assumption, by assumption⟩ | exact fun h9 => absurd h9.1 (by assumption) | exact fun h9 => absurd h9.2 (by assumption))])); all_goals (first | rfl)⟩
  ·
    obtain ⟨rfl, rfl, hf32⟩ := h3
    show X 0 0 [(m, .inr (7, [.ref a_sky, .ref a_kind, .ref a_more, .ref a_strewn, .int (nI tn), .ref a_treeCell, .ref a_treeSort, .ref a_treeLeaves, .int i_raking, .long l_heaps, .int (nI tz), .ref a_tape, .int (nI wr), .int (nI lw), .ref a_code, .ref a_begins, .int i_made, .int i_at, .int i_from, .int i_sort, .int i_value, .int i_open, .ref a_stack, .ref a_dry, .ref a_wet, .ref a_covered, .ref a_hangs, .ref a_off, .int i_fell, .int i_fellToday, .int i_rotten, .int i_raked, .int i_cost, .ref a_dryGo, .ref a_wetGo, .ref a_keptSky, .int i_imaged, .int (nI itn), .int i_oldRaking, .long l_oldHeaps, .int (nI ilw), .ref a_oldSky, .ref a_oldCells, .ref a_sheetSort, .ref a_sheetSize, .ref a_items, .ref a_spare])), (a_sky, .inl (cI, 56, .inl skf))] [(0, .ref m), (1, .int d), (2, .int wh), (3, .int v)] 7 [.int 0]
    refine x_if_ne C dX8_sky_7 (tgt := 13) rfl (fun q9 => absurd q9 (by decide)) (fun _ => ?_)
    refine x_bipush C dX8_sky_10 (v := (-5)) rfl ?_
    refine E dX8_sky_12 (rfl) ?_
    exact ⟨(-5), skf, rfl, rfl, by (unfold o_msky o_msky_f); (repeat (first | rw [if_pos (by first | (rw [if_pos (by decide)]; assumption) | (rw [if_neg (by decide), if_pos (by decide)]; assumption) | (rw [if_neg (by decide), if_neg (by decide)]; assumption) | assumption | decide | omega | exact o_one_t (by assumption) | (rw [o_one_f (by assumption)]; decide) | exact ⟨by assumption, by assumption⟩ | exact fun h9 => absurd h9.1 (by assumption) | exact fun h9 => absurd h9.2 (by assumption))] | rw [if_neg (by first | (rw [if_pos (by decide)]; assumption) | (rw [if_neg (by decide), if_pos (by decide)]; assumption) | (rw [if_neg (by decide), if_neg (by decide)]; assumption) | assumption | decide | omega | exact o_one_t (by assumption) | (rw [o_one_f (by assumption)]; decide) | exact ⟨by assumption, by assumption⟩ | exact fun h9 => absurd h9.1 (by assumption) | exact fun h9 => absurd h9.2 (by assumption))])); all_goals (first | rfl)⟩
set_option maxHeartbeats 4000000 in
set_option maxRecDepth 100000 in
theorem c_X8_skyTold (l : Launch) (dG : va_G) (cI cM cW cS : ClassId) (m a_sky a_kind a_more a_strewn a_treeCell a_treeSort a_treeLeaves a_tape a_code a_begins a_stack a_dry a_wet a_covered a_hangs a_off a_dryGo a_wetGo a_keptSky a_oldSky a_oldCells a_sheetSort a_sheetSize a_items a_spare : Nat) (tn tz wr lw itn ilw : Nat) (i_raking i_made i_at i_from i_sort i_value i_open i_fell i_fellToday i_rotten i_raked i_cost i_imaged i_oldRaking : Int32) (l_heaps l_oldHeaps : Int64) (skf : Nat → Int32) (d wh : Int32) : rM l yX8_skyTold cX8_skyTold 3 (some .int) ({ frames := 1, cells := 0, slots := 0, locals := 22 } : Room) dG (tY cI cM cW cS) rZ0 [.ref m, .int d, .int wh] [(m, .inr (7, [.ref a_sky, .ref a_kind, .ref a_more, .ref a_strewn, .int (nI tn), .ref a_treeCell, .ref a_treeSort, .ref a_treeLeaves, .int i_raking, .long l_heaps, .int (nI tz), .ref a_tape, .int (nI wr), .int (nI lw), .ref a_code, .ref a_begins, .int i_made, .int i_at, .int i_from, .int i_sort, .int i_value, .int i_open, .ref a_stack, .ref a_dry, .ref a_wet, .ref a_covered, .ref a_hangs, .ref a_off, .int i_fell, .int i_fellToday, .int i_rotten, .int i_raked, .int i_cost, .ref a_dryGo, .ref a_wetGo, .ref a_keptSky, .int i_imaged, .int (nI itn), .int i_oldRaking, .long l_oldHeaps, .int (nI ilw), .ref a_oldSky, .ref a_oldCells, .ref a_sheetSort, .ref a_sheetSize, .ref a_items, .ref a_spare])), (a_sky, .inl (cI, 56, .inl skf))] (fun ov oz => ∃ (r : Int32), ov = some (.int r) ∧ oz = [(m, .inr (7, [.ref a_sky, .ref a_kind, .ref a_more, .ref a_strewn, .int (nI tn), .ref a_treeCell, .ref a_treeSort, .ref a_treeLeaves, .int i_raking, .long l_heaps, .int (nI tz), .ref a_tape, .int (nI wr), .int (nI lw), .ref a_code, .ref a_begins, .int i_made, .int i_at, .int i_from, .int i_sort, .int i_value, .int i_open, .ref a_stack, .ref a_dry, .ref a_wet, .ref a_covered, .ref a_hangs, .ref a_off, .int i_fell, .int i_fellToday, .int i_rotten, .int i_raked, .int i_cost, .ref a_dryGo, .ref a_wetGo, .ref a_keptSky, .int i_imaged, .int (nI itn), .int i_oldRaking, .long l_oldHeaps, .int (nI ilw), .ref a_oldSky, .ref a_oldCells, .ref a_sheetSort, .ref a_sheetSize, .ref a_items, .ref a_spare])), (a_sky, .inl (cI, 56, .inl skf))] ∧ r = o_mskyTold skf d wh) := by
  refine rM_ofI rfl (Nat.le_of_ble_eq_true rfl) rfl (fun X C E => ?_)
  show X 0 0 [(m, .inr (7, [.ref a_sky, .ref a_kind, .ref a_more, .ref a_strewn, .int (nI tn), .ref a_treeCell, .ref a_treeSort, .ref a_treeLeaves, .int i_raking, .long l_heaps, .int (nI tz), .ref a_tape, .int (nI wr), .int (nI lw), .ref a_code, .ref a_begins, .int i_made, .int i_at, .int i_from, .int i_sort, .int i_value, .int i_open, .ref a_stack, .ref a_dry, .ref a_wet, .ref a_covered, .ref a_hangs, .ref a_off, .int i_fell, .int i_fellToday, .int i_rotten, .int i_raked, .int i_cost, .ref a_dryGo, .ref a_wetGo, .ref a_keptSky, .int i_imaged, .int (nI itn), .int i_oldRaking, .long l_oldHeaps, .int (nI ilw), .ref a_oldSky, .ref a_oldCells, .ref a_sheetSort, .ref a_sheetSize, .ref a_items, .ref a_spare])), (a_sky, .inl (cI, 56, .inl skf))] [(0, .ref m), (1, .int d), (2, .int wh)] 0 []
  refine x_iload_n C dX8_skyTold_0 1 rfl ?_
  refine x_iconst C dX8_skyTold_1 (v := 0) rfl ?_
  refine x_bipush C dX8_skyTold_2 (v := 13) rfl ?_
  refine x_callS C (As := [.int d, .int 0, .int 13]) (st := []) (wc := []) (wr := [(m, .inr (7, [.ref a_sky, .ref a_kind, .ref a_more, .ref a_strewn, .int (nI tn), .ref a_treeCell, .ref a_treeSort, .ref a_treeLeaves, .int i_raking, .long l_heaps, .int (nI tz), .ref a_tape, .int (nI wr), .int (nI lw), .ref a_code, .ref a_begins, .int i_made, .int i_at, .int i_from, .int i_sort, .int i_value, .int i_open, .ref a_stack, .ref a_dry, .ref a_wet, .ref a_covered, .ref a_hangs, .ref a_off, .int i_fell, .int i_fellToday, .int i_rotten, .int i_raked, .int i_cost, .ref a_dryGo, .ref a_wetGo, .ref a_keptSky, .int i_imaged, .int (nI itn), .int i_oldRaking, .long l_oldHeaps, .int (nI ilw), .ref a_oldSky, .ref a_oldCells, .ref a_sheetSort, .ref a_sheetSize, .ref a_items, .ref a_spare])), (a_sky, .inl (cI, 56, .inl skf))]) (c_X8_within l dG cI cM cW cS d 0 13 ) rZ0_ok (fun _ _ _ _ => trivial) kS_X8_108 hy_X8_within ⟨Nat.le_of_ble_eq_true rfl, Nat.le_of_ble_eq_true rfl⟩ ⟨Nat.le_of_ble_eq_true rfl, Nat.le_of_ble_eq_true rfl⟩ dX8_skyTold_4 [] [0, 1] rfl rfl rfl rfl (by decide) rfl (Nat.le_of_ble_eq_true rfl) ?_
  intro v1 w2 h3
  rcases h3 with h3 | h3
  ·
    obtain ⟨rfl, rfl, hf4⟩ := h3
    show X 0 0 [(m, .inr (7, [.ref a_sky, .ref a_kind, .ref a_more, .ref a_strewn, .int (nI tn), .ref a_treeCell, .ref a_treeSort, .ref a_treeLeaves, .int i_raking, .long l_heaps, .int (nI tz), .ref a_tape, .int (nI wr), .int (nI lw), .ref a_code, .ref a_begins, .int i_made, .int i_at, .int i_from, .int i_sort, .int i_value, .int i_open, .ref a_stack, .ref a_dry, .ref a_wet, .ref a_covered, .ref a_hangs, .ref a_off, .int i_fell, .int i_fellToday, .int i_rotten, .int i_raked, .int i_cost, .ref a_dryGo, .ref a_wetGo, .ref a_keptSky, .int i_imaged, .int (nI itn), .int i_oldRaking, .long l_oldHeaps, .int (nI ilw), .ref a_oldSky, .ref a_oldCells, .ref a_sheetSort, .ref a_sheetSize, .ref a_items, .ref a_spare])), (a_sky, .inl (cI, 56, .inl skf))] [(0, .ref m), (1, .int d), (2, .int wh)] 7 [.int 1]
    have hr5 := hf4
    obtain ⟨j, hj, rfl⟩ := q_w (n := 13) rfl (by decide) hf4
    have hnj : o_n (nI j) = j := o_n_nI (by omega)
    refine x_if_ne C dX8_skyTold_7 (tgt := 15) rfl (fun _ => ?_) (fun q9 => by first | exact absurd q9 (by decide) | exact absurd (by decide) q9)
    refine x_iload_n C dX8_skyTold_15 2 rfl ?_
    refine x_iconst C dX8_skyTold_16 (v := 0) rfl ?_
    refine x_iconst C dX8_skyTold_17 (v := 3) rfl ?_
    refine x_callS C (As := [.int wh, .int 0, .int 3]) (st := []) (wc := []) (wr := [(m, .inr (7, [.ref a_sky, .ref a_kind, .ref a_more, .ref a_strewn, .int (nI tn), .ref a_treeCell, .ref a_treeSort, .ref a_treeLeaves, .int i_raking, .long l_heaps, .int (nI tz), .ref a_tape, .int (nI wr), .int (nI lw), .ref a_code, .ref a_begins, .int i_made, .int i_at, .int i_from, .int i_sort, .int i_value, .int i_open, .ref a_stack, .ref a_dry, .ref a_wet, .ref a_covered, .ref a_hangs, .ref a_off, .int i_fell, .int i_fellToday, .int i_rotten, .int i_raked, .int i_cost, .ref a_dryGo, .ref a_wetGo, .ref a_keptSky, .int i_imaged, .int (nI itn), .int i_oldRaking, .long l_oldHeaps, .int (nI ilw), .ref a_oldSky, .ref a_oldCells, .ref a_sheetSort, .ref a_sheetSize, .ref a_items, .ref a_spare])), (a_sky, .inl (cI, 56, .inl skf))]) (c_X8_within l dG cI cM cW cS wh 0 3 ) rZ0_ok (fun _ _ _ _ => trivial) kS_X8_108 hy_X8_within ⟨Nat.le_of_ble_eq_true rfl, Nat.le_of_ble_eq_true rfl⟩ ⟨Nat.le_of_ble_eq_true rfl, Nat.le_of_ble_eq_true rfl⟩ dX8_skyTold_18 [] [0, 1] rfl rfl rfl rfl (by decide) rfl (Nat.le_of_ble_eq_true rfl) ?_
    intro v6 w7 h8
    rcases h8 with h8 | h8
    ·
      obtain ⟨rfl, rfl, hf9⟩ := h8
      show X 0 0 [(m, .inr (7, [.ref a_sky, .ref a_kind, .ref a_more, .ref a_strewn, .int (nI tn), .ref a_treeCell, .ref a_treeSort, .ref a_treeLeaves, .int i_raking, .long l_heaps, .int (nI tz), .ref a_tape, .int (nI wr), .int (nI lw), .ref a_code, .ref a_begins, .int i_made, .int i_at, .int i_from, .int i_sort, .int i_value, .int i_open, .ref a_stack, .ref a_dry, .ref a_wet, .ref a_covered, .ref a_hangs, .ref a_off, .int i_fell, .int i_fellToday, .int i_rotten, .int i_raked, .int i_cost, .ref a_dryGo, .ref a_wetGo, .ref a_keptSky, .int i_imaged, .int (nI itn), .int i_oldRaking, .long l_oldHeaps, .int (nI ilw), .ref a_oldSky, .ref a_oldCells, .ref a_sheetSort, .ref a_sheetSize, .ref a_items, .ref a_spare])), (a_sky, .inl (cI, 56, .inl skf))] [(0, .ref m), (1, .int (nI j)), (2, .int wh)] 21 [.int 1]
      have hr10 := hf9
      rcases q_in4 hf9 with rfl | rfl | rfl | rfl
      ·
        have hn9 : o_n 0 = 0 := rfl
        refine x_if_ne C dX8_skyTold_21 (tgt := 29) rfl (fun _ => ?_) (fun q9 => by first | exact absurd q9 (by decide) | exact absurd (by decide) q9)
        refine x_aload_n C dX8_skyTold_29 0 rfl ?_
        refine x_get C inlX8 rfl 0 (by decide) gw_10_18 dX8_skyTold_30 0 rfl rfl ?_
        refine x_iconst C dX8_skyTold_33 (v := 4) rfl ?_
        refine x_iload_n C dX8_skyTold_34 1 rfl ?_
        refine x_imul C dX8_skyTold_35 ?_
        refine x_iload_n C dX8_skyTold_36 2 rfl ?_
        refine x_iadd C dX8_skyTold_37 ?_
        refine x_iaload C 0 rfl dX8_skyTold_38 ((4 * j) + 0) (q_cl (q_iadd (a := 4 * j) (b := 0) (q_imul (a := 4) (b := j) (rfl : (4 : Int32) = nI 4) rfl) (rfl : (0 : Int32) = nI 0)) (by omega)) (q_ix (q_iadd (a := 4 * j) (b := 0) (q_imul (a := 4) (b := j) (rfl : (4 : Int32) = nI 4) rfl) (rfl : (0 : Int32) = nI 0)) (by omega) (by omega)) 1 rfl ?_
        refine E dX8_skyTold_39 (rfl) ?_
        exact ⟨(skf ((4 * j) + 0)), rfl, rfl, by (unfold o_mskyTold); (try simp only [hnj, hn9]); (repeat (first | rw [if_pos (by first | (rw [if_pos (by decide)]; assumption) | (rw [if_neg (by decide), if_pos (by decide)]; assumption) | (rw [if_neg (by decide), if_neg (by decide)]; assumption) | assumption | decide | omega | exact o_one_t (by assumption) | (rw [o_one_f (by assumption)]; decide) | exact ⟨by assumption, by assumption⟩ | exact fun h9 => absurd h9.1 (by assumption) | exact fun h9 => absurd h9.2 (by assumption))] | rw [if_neg (by first | (rw [if_pos (by decide)]; assumption) | (rw [if_neg (by decide), if_pos (by decide)]; assumption) | (rw [if_neg (by decide), if_neg (by decide)]; assumption) | assumption | decide | omega | exact o_one_t (by assumption) | (rw [o_one_f (by assumption)]; decide) | exact ⟨by assumption, by assumption⟩ | exact fun h9 => absurd h9.1 (by assumption) | exact fun h9 => absurd h9.2 (by assumption))])); all_goals (first | rfl)⟩
      ·
        have hn9 : o_n 1 = 1 := rfl
        refine x_if_ne C dX8_skyTold_21 (tgt := 29) rfl (fun _ => ?_) (fun q9 => by first | exact absurd q9 (by decide) | exact absurd (by decide) q9)
        refine x_aload_n C dX8_skyTold_29 0 rfl ?_
        refine x_get C inlX8 rfl 0 (by decide) gw_10_18 dX8_skyTold_30 0 rfl rfl ?_
        refine x_iconst C dX8_skyTold_33 (v := 4) rfl ?_
        refine x_iload_n C dX8_skyTold_34 1 rfl ?_
        refine x_imul C dX8_skyTold_35 ?_
        refine x_iload_n C dX8_skyTold_36 2 rfl ?_
        refine x_iadd C dX8_skyTold_37 ?_
        refine x_iaload C 0 rfl dX8_skyTold_38 ((4 * j) + 1) (q_cl (q_iadd (a := 4 * j) (b := 1) (q_imul (a := 4) (b := j) (rfl : (4 : Int32) = nI 4) rfl) (rfl : (1 : Int32) = nI 1)) (by omega)) (q_ix (q_iadd (a := 4 * j) (b := 1) (q_imul (a := 4) (b := j) (rfl : (4 : Int32) = nI 4) rfl) (rfl : (1 : Int32) = nI 1)) (by omega) (by omega)) 1 rfl ?_
        refine E dX8_skyTold_39 (rfl) ?_
        exact ⟨(skf ((4 * j) + 1)), rfl, rfl, by (unfold o_mskyTold); (try simp only [hnj, hn9]); (repeat (first | rw [if_pos (by first | (rw [if_pos (by decide)]; assumption) | (rw [if_neg (by decide), if_pos (by decide)]; assumption) | (rw [if_neg (by decide), if_neg (by decide)]; assumption) | assumption | decide | omega | exact o_one_t (by assumption) | (rw [o_one_f (by assumption)]; decide) | exact ⟨by assumption, by assumption⟩ | exact fun h9 => absurd h9.1 (by assumption) | exact fun h9 => absurd h9.2 (by assumption))] | rw [if_neg (by first | (rw [if_pos (by decide)]; assumption) | (rw [if_neg (by decide), if_pos (by decide)]; assumption) | (rw [if_neg (by decide), if_neg (by decide)]; assumption) | assumption | decide | omega | exact o_one_t (by assumption) | (rw [o_one_f (by assumption)]; decide) | exact ⟨by assumption, by assumption⟩ | exact fun h9 => absurd h9.1 (by assumption) | exact fun h9 => absurd h9.2 (by assumption))])); all_goals (first | rfl)⟩
      ·
        have hn9 : o_n 2 = 2 := rfl
        refine x_if_ne C dX8_skyTold_21 (tgt := 29) rfl (fun _ => ?_) (fun q9 => by first | exact absurd q9 (by decide) | exact absurd (by decide) q9)
        refine x_aload_n C dX8_skyTold_29 0 rfl ?_
        refine x_get C inlX8 rfl 0 (by decide) gw_10_18 dX8_skyTold_30 0 rfl rfl ?_
        refine x_iconst C dX8_skyTold_33 (v := 4) rfl ?_
        refine x_iload_n C dX8_skyTold_34 1 rfl ?_
        refine x_imul C dX8_skyTold_35 ?_
        refine x_iload_n C dX8_skyTold_36 2 rfl ?_
        refine x_iadd C dX8_skyTold_37 ?_
        refine x_iaload C 0 rfl dX8_skyTold_38 ((4 * j) + 2) (q_cl (q_iadd (a := 4 * j) (b := 2) (q_imul (a := 4) (b := j) (rfl : (4 : Int32) = nI 4) rfl) (rfl : (2 : Int32) = nI 2)) (by omega)) (q_ix (q_iadd (a := 4 * j) (b := 2) (q_imul (a := 4) (b := j) (rfl : (4 : Int32) = nI 4) rfl) (rfl : (2 : Int32) = nI 2)) (by omega) (by omega)) 1 rfl ?_
        refine E dX8_skyTold_39 (rfl) ?_
        exact ⟨(skf ((4 * j) + 2)), rfl, rfl, by (unfold o_mskyTold); (try simp only [hnj, hn9]); (repeat (first | rw [if_pos (by first | (rw [if_pos (by decide)]; assumption) | (rw [if_neg (by decide), if_pos (by decide)]; assumption) | (rw [if_neg (by decide), if_neg (by decide)]; assumption) | assumption | decide | omega | exact o_one_t (by assumption) | (rw [o_one_f (by assumption)]; decide) | exact ⟨by assumption, by assumption⟩ | exact fun h9 => absurd h9.1 (by assumption) | exact fun h9 => absurd h9.2 (by assumption))] | rw [if_neg (by first | (rw [if_pos (by decide)]; assumption) | (rw [if_neg (by decide), if_pos (by decide)]; assumption) | (rw [if_neg (by decide), if_neg (by decide)]; assumption) | assumption | decide | omega | exact o_one_t (by assumption) | (rw [o_one_f (by assumption)]; decide) | exact ⟨by assumption, by assumption⟩ | exact fun h9 => absurd h9.1 (by assumption) | exact fun h9 => absurd h9.2 (by assumption))])); all_goals (first | rfl)⟩
      ·
        have hn9 : o_n 3 = 3 := rfl
        refine x_if_ne C dX8_skyTold_21 (tgt := 29) rfl (fun _ => ?_) (fun q9 => by first | exact absurd q9 (by decide) | exact absurd (by decide) q9)
        refine x_aload_n C dX8_skyTold_29 0 rfl ?_
        refine x_get C inlX8 rfl 0 (by decide) gw_10_18 dX8_skyTold_30 0 rfl rfl ?_
        refine x_iconst C dX8_skyTold_33 (v := 4) rfl ?_
        refine x_iload_n C dX8_skyTold_34 1 rfl ?_
        refine x_imul C dX8_skyTold_35 ?_
        refine x_iload_n C dX8_skyTold_36 2 rfl ?_
        refine x_iadd C dX8_skyTold_37 ?_
        refine x_iaload C 0 rfl dX8_skyTold_38 ((4 * j) + 3) (q_cl (q_iadd (a := 4 * j) (b := 3) (q_imul (a := 4) (b := j) (rfl : (4 : Int32) = nI 4) rfl) (rfl : (3 : Int32) = nI 3)) (by omega)) (q_ix (q_iadd (a := 4 * j) (b := 3) (q_imul (a := 4) (b := j) (rfl : (4 : Int32) = nI 4) rfl) (rfl : (3 : Int32) = nI 3)) (by omega) (by omega)) 1 rfl ?_
        refine E dX8_skyTold_39 (rfl) ?_
        exact ⟨(skf ((4 * j) + 3)), rfl, rfl, by (unfold o_mskyTold); (try simp only [hnj, hn9]); (repeat (first | rw [if_pos (by first | (rw [if_pos (by decide)]; assumption) | (rw [if_neg (by decide), if_pos (by decide)]; assumption) | (rw [if_neg (by decide), if_neg (by decide)]; assumption) | assumption | decide | omega | exact o_one_t (by assumption) | (rw [o_one_f (by assumption)]; decide) | exact ⟨by assumption, by assumption⟩ | exact fun h9 => absurd h9.1 (by assumption) | exact fun h9 => absurd h9.2 (by assumption))] | rw [if_neg (by first | (rw [if_pos (by decide)]; assumption) | (rw [if_neg (by decide), if_pos (by decide)]; assumption) | (rw [if_neg (by decide), if_neg (by decide)]; assumption) | assumption | decide | omega | exact o_one_t (by assumption) | (rw [o_one_f (by assumption)]; decide) | exact ⟨by assumption, by assumption⟩ | exact fun h9 => absurd h9.1 (by assumption) | exact fun h9 => absurd h9.2 (by assumption))])); all_goals (first | rfl)⟩
    ·
      obtain ⟨rfl, rfl, hf11⟩ := h8
      show X 0 0 [(m, .inr (7, [.ref a_sky, .ref a_kind, .ref a_more, .ref a_strewn, .int (nI tn), .ref a_treeCell, .ref a_treeSort, .ref a_treeLeaves, .int i_raking, .long l_heaps, .int (nI tz), .ref a_tape, .int (nI wr), .int (nI lw), .ref a_code, .ref a_begins, .int i_made, .int i_at, .int i_from, .int i_sort, .int i_value, .int i_open, .ref a_stack, .ref a_dry, .ref a_wet, .ref a_covered, .ref a_hangs, .ref a_off, .int i_fell, .int i_fellToday, .int i_rotten, .int i_raked, .int i_cost, .ref a_dryGo, .ref a_wetGo, .ref a_keptSky, .int i_imaged, .int (nI itn), .int i_oldRaking, .long l_oldHeaps, .int (nI ilw), .ref a_oldSky, .ref a_oldCells, .ref a_sheetSort, .ref a_sheetSize, .ref a_items, .ref a_spare])), (a_sky, .inl (cI, 56, .inl skf))] [(0, .ref m), (1, .int (nI j)), (2, .int wh)] 21 [.int 0]
      refine x_if_ne C dX8_skyTold_21 (tgt := 29) rfl (fun q9 => absurd q9 (by decide)) (fun _ => ?_)
      refine x_bipush C dX8_skyTold_24 (v := (-7)) rfl ?_
      refine x_goto C dX8_skyTold_26 (tgt := 39) rfl ?_
      refine E dX8_skyTold_39 (rfl) ?_
      exact ⟨(-7), rfl, rfl, by (unfold o_mskyTold); (try simp only [hnj]); (repeat (first | rw [if_pos (by first | (rw [if_pos (by decide)]; assumption) | (rw [if_neg (by decide), if_pos (by decide)]; assumption) | (rw [if_neg (by decide), if_neg (by decide)]; assumption) | assumption | decide | omega | exact o_one_t (by assumption) | (rw [o_one_f (by assumption)]; decide) | exact ⟨by assumption, by assumption⟩ | exact fun h9 => absurd h9.1 (by assumption) | exact fun h9 => absurd h9.2 (by assumption))] | rw [if_neg (by first | (rw [if_pos (by decide)]; assumption) | (rw [if_neg (by decide), if_pos (by decide)]; assumption) | (rw [if_neg (by decide), if_neg (by decide)]; assumption) | assumption | decide | omega | exact o_one_t (by assumption) | (rw [o_one_f (by assumption)]; decide) | exact ⟨by assumption, by assumption⟩ | exact fun h9 => absurd h9.1 (by assumption) | exact fun h9 => absurd h9.2 (by assumption))])); all_goals (first | rfl)⟩
  ·
    obtain ⟨rfl, rfl, hf12⟩ := h3
    show X 0 0 [(m, .inr (7, [.ref a_sky, .ref a_kind, .ref a_more, .ref a_strewn, .int (nI tn), .ref a_treeCell, .ref a_treeSort, .ref a_treeLeaves, .int i_raking, .long l_heaps, .int (nI tz), .ref a_tape, .int (nI wr), .int (nI lw), .ref a_code, .ref a_begins, .int i_made, .int i_at, .int i_from, .int i_sort, .int i_value, .int i_open, .ref a_stack, .ref a_dry, .ref a_wet, .ref a_covered, .ref a_hangs, .ref a_off, .int i_fell, .int i_fellToday, .int i_rotten, .int i_raked, .int i_cost, .ref a_dryGo, .ref a_wetGo, .ref a_keptSky, .int i_imaged, .int (nI itn), .int i_oldRaking, .long l_oldHeaps, .int (nI ilw), .ref a_oldSky, .ref a_oldCells, .ref a_sheetSort, .ref a_sheetSize, .ref a_items, .ref a_spare])), (a_sky, .inl (cI, 56, .inl skf))] [(0, .ref m), (1, .int d), (2, .int wh)] 7 [.int 0]
    refine x_if_ne C dX8_skyTold_7 (tgt := 15) rfl (fun q9 => absurd q9 (by decide)) (fun _ => ?_)
    refine x_bipush C dX8_skyTold_10 (v := (-5)) rfl ?_
    refine x_goto C dX8_skyTold_12 (tgt := 39) rfl ?_
    refine E dX8_skyTold_39 (rfl) ?_
    exact ⟨(-5), rfl, rfl, by (unfold o_mskyTold); (repeat (first | rw [if_pos (by first | (rw [if_pos (by decide)]; assumption) | (rw [if_neg (by decide), if_pos (by decide)]; assumption) | (rw [if_neg (by decide), if_neg (by decide)]; assumption) | assumption | decide | omega | exact o_one_t (by assumption) | (rw [o_one_f (by assumption)]; decide) | exact ⟨by assumption, by assumption⟩ | exact fun h9 => absurd h9.1 (by assumption) | exact fun h9 => absurd h9.2 (by assumption))] | rw [if_neg (by first | (rw [if_pos (by decide)]; assumption) | (rw [if_neg (by decide), if_pos (by decide)]; assumption) | (rw [if_neg (by decide), if_neg (by decide)]; assumption) | assumption | decide | omega | exact o_one_t (by assumption) | (rw [o_one_f (by assumption)]; decide) | exact ⟨by assumption, by assumption⟩ | exact fun h9 => absurd h9.1 (by assumption) | exact fun h9 => absurd h9.2 (by assumption))])); all_goals (first | rfl)⟩
set_option maxHeartbeats 4000000 in
set_option maxRecDepth 100000 in
theorem c_X8_count (l : Launch) (dG : va_G) (cI cM cW cS : ClassId) (m a_sky a_kind a_more a_strewn a_treeCell a_treeSort a_treeLeaves a_tape a_code a_begins a_stack a_dry a_wet a_covered a_hangs a_off a_dryGo a_wetGo a_keptSky a_oldSky a_oldCells a_sheetSort a_sheetSize a_items a_spare : Nat) (tn tz wr lw itn ilw : Nat) (i_raking i_made i_at i_from i_sort i_value i_open i_fell i_fellToday i_rotten i_raked i_cost i_imaged i_oldRaking : Int32) (l_heaps l_oldHeaps : Int64) (wh : Int32) : rM l yX8_count cX8_count 2 (some .int) ({ frames := 0, cells := 0, slots := 0, locals := 0 } : Room) dG (tY cI cM cW cS) rZ0 [.ref m, .int wh] [(m, .inr (7, [.ref a_sky, .ref a_kind, .ref a_more, .ref a_strewn, .int (nI tn), .ref a_treeCell, .ref a_treeSort, .ref a_treeLeaves, .int i_raking, .long l_heaps, .int (nI tz), .ref a_tape, .int (nI wr), .int (nI lw), .ref a_code, .ref a_begins, .int i_made, .int i_at, .int i_from, .int i_sort, .int i_value, .int i_open, .ref a_stack, .ref a_dry, .ref a_wet, .ref a_covered, .ref a_hangs, .ref a_off, .int i_fell, .int i_fellToday, .int i_rotten, .int i_raked, .int i_cost, .ref a_dryGo, .ref a_wetGo, .ref a_keptSky, .int i_imaged, .int (nI itn), .int i_oldRaking, .long l_oldHeaps, .int (nI ilw), .ref a_oldSky, .ref a_oldCells, .ref a_sheetSort, .ref a_sheetSize, .ref a_items, .ref a_spare]))] (fun ov oz => ∃ (r : Int32), ov = some (.int r) ∧ oz = [(m, .inr (7, [.ref a_sky, .ref a_kind, .ref a_more, .ref a_strewn, .int (nI tn), .ref a_treeCell, .ref a_treeSort, .ref a_treeLeaves, .int i_raking, .long l_heaps, .int (nI tz), .ref a_tape, .int (nI wr), .int (nI lw), .ref a_code, .ref a_begins, .int i_made, .int i_at, .int i_from, .int i_sort, .int i_value, .int i_open, .ref a_stack, .ref a_dry, .ref a_wet, .ref a_covered, .ref a_hangs, .ref a_off, .int i_fell, .int i_fellToday, .int i_rotten, .int i_raked, .int i_cost, .ref a_dryGo, .ref a_wetGo, .ref a_keptSky, .int i_imaged, .int (nI itn), .int i_oldRaking, .long l_oldHeaps, .int (nI ilw), .ref a_oldSky, .ref a_oldCells, .ref a_sheetSort, .ref a_sheetSize, .ref a_items, .ref a_spare]))] ∧ r = o_count wh (nI tn) i_raking (nI wr) (nI lw) (nI tz)) := by
  refine rM_ofI rfl (Nat.le_of_ble_eq_true rfl) rfl (fun X C E => ?_)
  show X 0 0 [(m, .inr (7, [.ref a_sky, .ref a_kind, .ref a_more, .ref a_strewn, .int (nI tn), .ref a_treeCell, .ref a_treeSort, .ref a_treeLeaves, .int i_raking, .long l_heaps, .int (nI tz), .ref a_tape, .int (nI wr), .int (nI lw), .ref a_code, .ref a_begins, .int i_made, .int i_at, .int i_from, .int i_sort, .int i_value, .int i_open, .ref a_stack, .ref a_dry, .ref a_wet, .ref a_covered, .ref a_hangs, .ref a_off, .int i_fell, .int i_fellToday, .int i_rotten, .int i_raked, .int i_cost, .ref a_dryGo, .ref a_wetGo, .ref a_keptSky, .int i_imaged, .int (nI itn), .int i_oldRaking, .long l_oldHeaps, .int (nI ilw), .ref a_oldSky, .ref a_oldCells, .ref a_sheetSort, .ref a_sheetSize, .ref a_items, .ref a_spare]))] [(0, .ref m), (1, .int wh)] 0 []
  refine x_iload_n C dX8_count_0 1 rfl ?_
  rcases q_sw wh (0) (4) with q1 | q1
  ·
    refine x_tableOut C dX8_count_1 q1 (tgt := 61) rfl ?_
    have hk9 : ¬ wh = 0 ∧ ¬ wh = 1 ∧ ¬ wh = 2 ∧ ¬ wh = 3 ∧ ¬ wh = 4 := by refine ⟨?_, ?_, ?_, ?_, ?_⟩ <;> (intro h; rw [h] at q1; revert q1; decide)
    obtain ⟨hk0, hk1, hk2, hk3, hk4⟩ := hk9
    refine x_bipush C dX8_count_61 (v := (-2)) rfl ?_
    refine E dX8_count_63 (rfl) ?_
    exact ⟨(-2), rfl, rfl, by (unfold o_count); (repeat (first | rw [if_pos (by first | (rw [if_pos (by decide)]; assumption) | (rw [if_neg (by decide), if_pos (by decide)]; assumption) | (rw [if_neg (by decide), if_neg (by decide)]; assumption) | assumption | decide | omega | exact o_one_t (by assumption) | (rw [o_one_f (by assumption)]; decide) | exact ⟨by assumption, by assumption⟩ | exact fun h9 => absurd h9.1 (by assumption) | exact fun h9 => absurd h9.2 (by assumption))] | rw [if_neg (by first | (rw [if_pos (by decide)]; assumption) | (rw [if_neg (by decide), if_pos (by decide)]; assumption) | (rw [if_neg (by decide), if_neg (by decide)]; assumption) | assumption | decide | omega | exact o_one_t (by assumption) | (rw [o_one_f (by assumption)]; decide) | exact ⟨by assumption, by assumption⟩ | exact fun h9 => absurd h9.1 (by assumption) | exact fun h9 => absurd h9.2 (by assumption))])); all_goals (first | rfl)⟩
  ·
    rcases q_sw_0_4 q1 with q1 | q1 | q1 | q1 | q1
    ·
      have q1 : wh = 0 := q1
      refine x_tableIn C dX8_count_1 (by rw [q1]; decide) (by rw [q1]; decide) (off := 35) (tgt := 36) (by rw [q1]; rfl) rfl ?_
      refine x_aload_n C dX8_count_36 0 rfl ?_
      refine x_get C inlX8 rfl 4 (by decide) gw_16_4 dX8_count_37 0 rfl rfl ?_
      refine E dX8_count_40 (rfl) ?_
      exact ⟨(nI tn), rfl, rfl, by (unfold o_count); (repeat (first | rw [if_pos (by first | (rw [if_pos (by decide)]; assumption) | (rw [if_neg (by decide), if_pos (by decide)]; assumption) | (rw [if_neg (by decide), if_neg (by decide)]; assumption) | assumption | decide | omega | exact o_one_t (by assumption) | (rw [o_one_f (by assumption)]; decide) | exact ⟨by assumption, by assumption⟩ | exact fun h9 => absurd h9.1 (by assumption) | exact fun h9 => absurd h9.2 (by assumption))] | rw [if_neg (by first | (rw [if_pos (by decide)]; assumption) | (rw [if_neg (by decide), if_pos (by decide)]; assumption) | (rw [if_neg (by decide), if_neg (by decide)]; assumption) | assumption | decide | omega | exact o_one_t (by assumption) | (rw [o_one_f (by assumption)]; decide) | exact ⟨by assumption, by assumption⟩ | exact fun h9 => absurd h9.1 (by assumption) | exact fun h9 => absurd h9.2 (by assumption))])); all_goals (first | rfl)⟩
    ·
      have q1 : wh = 1 := q1
      refine x_tableIn C dX8_count_1 (by rw [q1]; decide) (by rw [q1]; decide) (off := 40) (tgt := 41) (by rw [q1]; rfl) rfl ?_
      have hk0 : ¬ wh = 0 := by rw [q1]; decide
      refine x_aload_n C dX8_count_41 0 rfl ?_
      refine x_get C inlX8 rfl 8 (by decide) gw_16_5 dX8_count_42 0 rfl rfl ?_
      refine E dX8_count_45 (rfl) ?_
      exact ⟨i_raking, rfl, rfl, by (unfold o_count); (repeat (first | rw [if_pos (by first | (rw [if_pos (by decide)]; assumption) | (rw [if_neg (by decide), if_pos (by decide)]; assumption) | (rw [if_neg (by decide), if_neg (by decide)]; assumption) | assumption | decide | omega | exact o_one_t (by assumption) | (rw [o_one_f (by assumption)]; decide) | exact ⟨by assumption, by assumption⟩ | exact fun h9 => absurd h9.1 (by assumption) | exact fun h9 => absurd h9.2 (by assumption))] | rw [if_neg (by first | (rw [if_pos (by decide)]; assumption) | (rw [if_neg (by decide), if_pos (by decide)]; assumption) | (rw [if_neg (by decide), if_neg (by decide)]; assumption) | assumption | decide | omega | exact o_one_t (by assumption) | (rw [o_one_f (by assumption)]; decide) | exact ⟨by assumption, by assumption⟩ | exact fun h9 => absurd h9.1 (by assumption) | exact fun h9 => absurd h9.2 (by assumption))])); all_goals (first | rfl)⟩
    ·
      have q1 : wh = 2 := q1
      refine x_tableIn C dX8_count_1 (by rw [q1]; decide) (by rw [q1]; decide) (off := 45) (tgt := 46) (by rw [q1]; rfl) rfl ?_
      have hk0 : ¬ wh = 0 := by rw [q1]; decide
      have hk1 : ¬ wh = 1 := by rw [q1]; decide
      refine x_aload_n C dX8_count_46 0 rfl ?_
      refine x_get C inlX8 rfl 12 (by decide) gw_12_3 dX8_count_47 0 rfl rfl ?_
      refine E dX8_count_50 (rfl) ?_
      exact ⟨(nI wr), rfl, rfl, by (unfold o_count); (repeat (first | rw [if_pos (by first | (rw [if_pos (by decide)]; assumption) | (rw [if_neg (by decide), if_pos (by decide)]; assumption) | (rw [if_neg (by decide), if_neg (by decide)]; assumption) | assumption | decide | omega | exact o_one_t (by assumption) | (rw [o_one_f (by assumption)]; decide) | exact ⟨by assumption, by assumption⟩ | exact fun h9 => absurd h9.1 (by assumption) | exact fun h9 => absurd h9.2 (by assumption))] | rw [if_neg (by first | (rw [if_pos (by decide)]; assumption) | (rw [if_neg (by decide), if_pos (by decide)]; assumption) | (rw [if_neg (by decide), if_neg (by decide)]; assumption) | assumption | decide | omega | exact o_one_t (by assumption) | (rw [o_one_f (by assumption)]; decide) | exact ⟨by assumption, by assumption⟩ | exact fun h9 => absurd h9.1 (by assumption) | exact fun h9 => absurd h9.2 (by assumption))])); all_goals (first | rfl)⟩
    ·
      have q1 : wh = 3 := q1
      refine x_tableIn C dX8_count_1 (by rw [q1]; decide) (by rw [q1]; decide) (off := 50) (tgt := 51) (by rw [q1]; rfl) rfl ?_
      have hk0 : ¬ wh = 0 := by rw [q1]; decide
      have hk1 : ¬ wh = 1 := by rw [q1]; decide
      have hk2 : ¬ wh = 2 := by rw [q1]; decide
      refine x_aload_n C dX8_count_51 0 rfl ?_
      refine x_get C inlX8 rfl 13 (by decide) gw_16_6 dX8_count_52 0 rfl rfl ?_
      refine E dX8_count_55 (rfl) ?_
      exact ⟨(nI lw), rfl, rfl, by (unfold o_count); (repeat (first | rw [if_pos (by first | (rw [if_pos (by decide)]; assumption) | (rw [if_neg (by decide), if_pos (by decide)]; assumption) | (rw [if_neg (by decide), if_neg (by decide)]; assumption) | assumption | decide | omega | exact o_one_t (by assumption) | (rw [o_one_f (by assumption)]; decide) | exact ⟨by assumption, by assumption⟩ | exact fun h9 => absurd h9.1 (by assumption) | exact fun h9 => absurd h9.2 (by assumption))] | rw [if_neg (by first | (rw [if_pos (by decide)]; assumption) | (rw [if_neg (by decide), if_pos (by decide)]; assumption) | (rw [if_neg (by decide), if_neg (by decide)]; assumption) | assumption | decide | omega | exact o_one_t (by assumption) | (rw [o_one_f (by assumption)]; decide) | exact ⟨by assumption, by assumption⟩ | exact fun h9 => absurd h9.1 (by assumption) | exact fun h9 => absurd h9.2 (by assumption))])); all_goals (first | rfl)⟩
    ·
      have q1 : wh = 4 := q1
      refine x_tableIn C dX8_count_1 (by rw [q1]; decide) (by rw [q1]; decide) (off := 55) (tgt := 56) (by rw [q1]; rfl) rfl ?_
      have hk0 : ¬ wh = 0 := by rw [q1]; decide
      have hk1 : ¬ wh = 1 := by rw [q1]; decide
      have hk2 : ¬ wh = 2 := by rw [q1]; decide
      have hk3 : ¬ wh = 3 := by rw [q1]; decide
      refine x_aload_n C dX8_count_56 0 rfl ?_
      refine x_get C inlX8 rfl 10 (by decide) gw_11_20 dX8_count_57 0 rfl rfl ?_
      refine E dX8_count_60 (rfl) ?_
      exact ⟨(nI tz), rfl, rfl, by (unfold o_count); (repeat (first | rw [if_pos (by first | (rw [if_pos (by decide)]; assumption) | (rw [if_neg (by decide), if_pos (by decide)]; assumption) | (rw [if_neg (by decide), if_neg (by decide)]; assumption) | assumption | decide | omega | exact o_one_t (by assumption) | (rw [o_one_f (by assumption)]; decide) | exact ⟨by assumption, by assumption⟩ | exact fun h9 => absurd h9.1 (by assumption) | exact fun h9 => absurd h9.2 (by assumption))] | rw [if_neg (by first | (rw [if_pos (by decide)]; assumption) | (rw [if_neg (by decide), if_pos (by decide)]; assumption) | (rw [if_neg (by decide), if_neg (by decide)]; assumption) | assumption | decide | omega | exact o_one_t (by assumption) | (rw [o_one_f (by assumption)]; decide) | exact ⟨by assumption, by assumption⟩ | exact fun h9 => absurd h9.1 (by assumption) | exact fun h9 => absurd h9.2 (by assumption))])); all_goals (first | rfl)⟩
set_option maxHeartbeats 4000000 in
set_option maxRecDepth 100000 in
theorem c_X8_force (l : Launch) (dG : va_G) (cI cM cW cS : ClassId) (m a_sky a_kind a_more a_strewn a_treeCell a_treeSort a_treeLeaves a_tape a_code a_begins a_stack a_dry a_wet a_covered a_hangs a_off a_dryGo a_wetGo a_keptSky a_oldSky a_oldCells a_sheetSort a_sheetSize a_items a_spare : Nat) (tn tz wr lw itn ilw : Nat) (i_raking i_made i_at i_from i_sort i_value i_open i_fell i_fellToday i_rotten i_raked i_cost i_imaged i_oldRaking : Int32) (l_heaps l_oldHeaps : Int64) (v : Int32) (hwr : 1 ≤ wr) (hwr6 : wr ≤ 6) : rM l yX8_force cX8_force 3 (some .int) ({ frames := 1, cells := 0, slots := 0, locals := 22 } : Room) dG (tY cI cM cW cS) rZ0 [.ref m, .int v] [(m, .inr (7, [.ref a_sky, .ref a_kind, .ref a_more, .ref a_strewn, .int (nI tn), .ref a_treeCell, .ref a_treeSort, .ref a_treeLeaves, .int i_raking, .long l_heaps, .int (nI tz), .ref a_tape, .int (nI wr), .int (nI lw), .ref a_code, .ref a_begins, .int i_made, .int i_at, .int i_from, .int i_sort, .int i_value, .int i_open, .ref a_stack, .ref a_dry, .ref a_wet, .ref a_covered, .ref a_hangs, .ref a_off, .int i_fell, .int i_fellToday, .int i_rotten, .int i_raked, .int i_cost, .ref a_dryGo, .ref a_wetGo, .ref a_keptSky, .int i_imaged, .int (nI itn), .int i_oldRaking, .long l_oldHeaps, .int (nI ilw), .ref a_oldSky, .ref a_oldCells, .ref a_sheetSort, .ref a_sheetSize, .ref a_items, .ref a_spare]))] (fun ov oz => ∃ (r : Int32) (lw' : Nat), ov = some (.int r) ∧ oz = [(m, .inr (7, [.ref a_sky, .ref a_kind, .ref a_more, .ref a_strewn, .int (nI tn), .ref a_treeCell, .ref a_treeSort, .ref a_treeLeaves, .int i_raking, .long l_heaps, .int (nI tz), .ref a_tape, .int (nI wr), .int (nI lw'), .ref a_code, .ref a_begins, .int i_made, .int i_at, .int i_from, .int i_sort, .int i_value, .int i_open, .ref a_stack, .ref a_dry, .ref a_wet, .ref a_covered, .ref a_hangs, .ref a_off, .int i_fell, .int i_fellToday, .int i_rotten, .int i_raked, .int i_cost, .ref a_dryGo, .ref a_wetGo, .ref a_keptSky, .int i_imaged, .int (nI itn), .int i_oldRaking, .long l_oldHeaps, .int (nI ilw), .ref a_oldSky, .ref a_oldCells, .ref a_sheetSort, .ref a_sheetSize, .ref a_items, .ref a_spare]))] ∧ (r, lw') = (o_force v (nI wr) (nI lw), o_force_n v wr lw)) := by
  refine rM_ofI rfl (Nat.le_of_ble_eq_true rfl) rfl (fun X C E => ?_)
  show X 0 0 [(m, .inr (7, [.ref a_sky, .ref a_kind, .ref a_more, .ref a_strewn, .int (nI tn), .ref a_treeCell, .ref a_treeSort, .ref a_treeLeaves, .int i_raking, .long l_heaps, .int (nI tz), .ref a_tape, .int (nI wr), .int (nI lw), .ref a_code, .ref a_begins, .int i_made, .int i_at, .int i_from, .int i_sort, .int i_value, .int i_open, .ref a_stack, .ref a_dry, .ref a_wet, .ref a_covered, .ref a_hangs, .ref a_off, .int i_fell, .int i_fellToday, .int i_rotten, .int i_raked, .int i_cost, .ref a_dryGo, .ref a_wetGo, .ref a_keptSky, .int i_imaged, .int (nI itn), .int i_oldRaking, .long l_oldHeaps, .int (nI ilw), .ref a_oldSky, .ref a_oldCells, .ref a_sheetSort, .ref a_sheetSize, .ref a_items, .ref a_spare]))] [(0, .ref m), (1, .int v)] 0 []
  refine x_iload_n C dX8_force_0 1 rfl ?_
  refine x_iconst C dX8_force_1 (v := 0) rfl ?_
  refine x_aload_n C dX8_force_2 0 rfl ?_
  refine x_get C inlX8 rfl 12 (by decide) gw_12_3 dX8_force_3 0 rfl rfl ?_
  refine x_iconst C dX8_force_6 (v := 1) rfl ?_
  refine x_isub C dX8_force_7 ?_
  refine x_callS C (As := [.int v, .int 0, .int ((nI wr) - 1)]) (st := []) (wc := []) (wr := [(m, .inr (7, [.ref a_sky, .ref a_kind, .ref a_more, .ref a_strewn, .int (nI tn), .ref a_treeCell, .ref a_treeSort, .ref a_treeLeaves, .int i_raking, .long l_heaps, .int (nI tz), .ref a_tape, .int (nI wr), .int (nI lw), .ref a_code, .ref a_begins, .int i_made, .int i_at, .int i_from, .int i_sort, .int i_value, .int i_open, .ref a_stack, .ref a_dry, .ref a_wet, .ref a_covered, .ref a_hangs, .ref a_off, .int i_fell, .int i_fellToday, .int i_rotten, .int i_raked, .int i_cost, .ref a_dryGo, .ref a_wetGo, .ref a_keptSky, .int i_imaged, .int (nI itn), .int i_oldRaking, .long l_oldHeaps, .int (nI ilw), .ref a_oldSky, .ref a_oldCells, .ref a_sheetSort, .ref a_sheetSize, .ref a_items, .ref a_spare]))]) (c_X8_within l dG cI cM cW cS v 0 ((nI wr) - 1) ) rZ0_ok (fun _ _ _ _ => trivial) kS_X8_108 hy_X8_within ⟨Nat.le_of_ble_eq_true rfl, Nat.le_of_ble_eq_true rfl⟩ ⟨Nat.le_of_ble_eq_true rfl, Nat.le_of_ble_eq_true rfl⟩ dX8_force_8 [] [0] rfl rfl rfl rfl (by decide) rfl (Nat.le_of_ble_eq_true rfl) ?_
  intro v1 w2 h3
  rcases h3 with h3 | h3
  ·
    obtain ⟨rfl, rfl, hf4⟩ := h3
    show X 0 0 [(m, .inr (7, [.ref a_sky, .ref a_kind, .ref a_more, .ref a_strewn, .int (nI tn), .ref a_treeCell, .ref a_treeSort, .ref a_treeLeaves, .int i_raking, .long l_heaps, .int (nI tz), .ref a_tape, .int (nI wr), .int (nI lw), .ref a_code, .ref a_begins, .int i_made, .int i_at, .int i_from, .int i_sort, .int i_value, .int i_open, .ref a_stack, .ref a_dry, .ref a_wet, .ref a_covered, .ref a_hangs, .ref a_off, .int i_fell, .int i_fellToday, .int i_rotten, .int i_raked, .int i_cost, .ref a_dryGo, .ref a_wetGo, .ref a_keptSky, .int i_imaged, .int (nI itn), .int i_oldRaking, .long l_oldHeaps, .int (nI ilw), .ref a_oldSky, .ref a_oldCells, .ref a_sheetSort, .ref a_sheetSize, .ref a_items, .ref a_spare]))] [(0, .ref m), (1, .int v)] 11 [.int 1]
    have hr := hf4
    rw [show nI wr - 1 = nI (wr - 1) from q_isub rfl rfl (by omega)] at hr
    obtain ⟨j, hj, rfl⟩ := q_w (n := wr - 1) rfl (by omega) hr
    have hnj : o_n (nI j) = j := o_n_nI (by omega)
    refine x_if_ne C dX8_force_11 (tgt := 17) rfl (fun _ => ?_) (fun q9 => by first | exact absurd q9 (by decide) | exact absurd (by decide) q9)
    refine x_aload_n C dX8_force_17 0 rfl ?_
    refine x_get C inlX8 rfl 13 (by decide) gw_16_6 dX8_force_18 0 rfl rfl ?_
    refine x_istore_n C dX8_force_21 (by decide) (lv' := [(2, .int (nI lw)), (0, .ref m), (1, .int (nI j))]) rfl ?_
    refine x_aload_n C dX8_force_22 1 rfl ?_
    refine x_iload_n C dX8_force_23 2 rfl ?_
    refine x_put C inlX8 rfl tyX8 tyX8_ok nmX8 13 (by decide) gw_16_6 rfl dX8_force_24 0 rfl (rfl) rfl (Nat.le_of_ble_eq_true rfl) ?_
    show X _ _ [(m, .inr (7, [.ref a_sky, .ref a_kind, .ref a_more, .ref a_strewn, .int (nI tn), .ref a_treeCell, .ref a_treeSort, .ref a_treeLeaves, .int i_raking, .long l_heaps, .int (nI tz), .ref a_tape, .int (nI wr), .int (nI j), .ref a_code, .ref a_begins, .int i_made, .int i_at, .int i_from, .int i_sort, .int i_value, .int i_open, .ref a_stack, .ref a_dry, .ref a_wet, .ref a_covered, .ref a_hangs, .ref a_off, .int i_fell, .int i_fellToday, .int i_rotten, .int i_raked, .int i_cost, .ref a_dryGo, .ref a_wetGo, .ref a_keptSky, .int i_imaged, .int (nI itn), .int i_oldRaking, .long l_oldHeaps, .int (nI ilw), .ref a_oldSky, .ref a_oldCells, .ref a_sheetSort, .ref a_sheetSize, .ref a_items, .ref a_spare]))] _ _ _
    refine x_iload_n C dX8_force_27 0 rfl ?_
    refine E dX8_force_28 (rfl) ?_
    exact ⟨(nI lw), j, rfl, rfl, by (unfold o_force o_force_n); (try simp only [hnj]); (repeat (first | rw [if_pos (by first | (rw [if_pos (by decide)]; assumption) | (rw [if_neg (by decide), if_pos (by decide)]; assumption) | (rw [if_neg (by decide), if_neg (by decide)]; assumption) | assumption | decide | omega | exact o_one_t (by assumption) | (rw [o_one_f (by assumption)]; decide) | exact ⟨by assumption, by assumption⟩ | exact fun h9 => absurd h9.1 (by assumption) | exact fun h9 => absurd h9.2 (by assumption))] | rw [if_neg (by first | (rw [if_pos (by decide)]; assumption) | (rw [if_neg (by decide), if_pos (by decide)]; assumption) | (rw [if_neg (by decide), if_neg (by decide)]; assumption) | assumption | decide | omega | exact o_one_t (by assumption) | (rw [o_one_f (by assumption)]; decide) | exact ⟨by assumption, by assumption⟩ | exact fun h9 => absurd h9.1 (by assumption) | exact fun h9 => absurd h9.2 (by assumption))])); all_goals (first | rfl)⟩
  ·
    obtain ⟨rfl, rfl, hf5⟩ := h3
    show X 0 0 [(m, .inr (7, [.ref a_sky, .ref a_kind, .ref a_more, .ref a_strewn, .int (nI tn), .ref a_treeCell, .ref a_treeSort, .ref a_treeLeaves, .int i_raking, .long l_heaps, .int (nI tz), .ref a_tape, .int (nI wr), .int (nI lw), .ref a_code, .ref a_begins, .int i_made, .int i_at, .int i_from, .int i_sort, .int i_value, .int i_open, .ref a_stack, .ref a_dry, .ref a_wet, .ref a_covered, .ref a_hangs, .ref a_off, .int i_fell, .int i_fellToday, .int i_rotten, .int i_raked, .int i_cost, .ref a_dryGo, .ref a_wetGo, .ref a_keptSky, .int i_imaged, .int (nI itn), .int i_oldRaking, .long l_oldHeaps, .int (nI ilw), .ref a_oldSky, .ref a_oldCells, .ref a_sheetSort, .ref a_sheetSize, .ref a_items, .ref a_spare]))] [(0, .ref m), (1, .int v)] 11 [.int 0]
    refine x_if_ne C dX8_force_11 (tgt := 17) rfl (fun q9 => absurd q9 (by decide)) (fun _ => ?_)
    refine x_bipush C dX8_force_14 (v := (-2)) rfl ?_
    refine E dX8_force_16 (rfl) ?_
    exact ⟨(-2), lw, rfl, rfl, by (unfold o_force o_force_n); (repeat (first | rw [if_pos (by first | (rw [if_pos (by decide)]; assumption) | (rw [if_neg (by decide), if_pos (by decide)]; assumption) | (rw [if_neg (by decide), if_neg (by decide)]; assumption) | assumption | decide | omega | exact o_one_t (by assumption) | (rw [o_one_f (by assumption)]; decide) | exact ⟨by assumption, by assumption⟩ | exact fun h9 => absurd h9.1 (by assumption) | exact fun h9 => absurd h9.2 (by assumption))] | rw [if_neg (by first | (rw [if_pos (by decide)]; assumption) | (rw [if_neg (by decide), if_pos (by decide)]; assumption) | (rw [if_neg (by decide), if_neg (by decide)]; assumption) | assumption | decide | omega | exact o_one_t (by assumption) | (rw [o_one_f (by assumption)]; decide) | exact ⟨by assumption, by assumption⟩ | exact fun h9 => absurd h9.1 (by assumption) | exact fun h9 => absurd h9.2 (by assumption))])); all_goals (first | rfl)⟩
theorem kS_X8_223 : GoodIn GW (va_wsS RX8 223 yX8_isCell (Cond.code yX8_isCell cX8_isCell 1 (some .boolean) :: GW)) := r_gS gw_19_11 gw_19_12 gw_1_5 gw_19_13
theorem hy_X8_isCell : yX8_isCell.cls ≠ "java/lang/invoke/MethodHandle" ∧ yX8_isCell.cls ≠ "java/lang/invoke/VarHandle" ∧ (parseMethodDescriptor yX8_isCell.desc).map (fun d => d.parameters.length) = some 1 := ⟨by decide +kernel, by decide +kernel, by decide +kernel⟩
set_option maxHeartbeats 4000000 in
set_option maxRecDepth 100000 in
theorem c_X8_lay (l : Launch) (dG : va_G) (cI cM cW cS : ClassId) (m a_sky a_kind a_more a_strewn a_treeCell a_treeSort a_treeLeaves a_tape a_code a_begins a_stack a_dry a_wet a_covered a_hangs a_off a_dryGo a_wetGo a_keptSky a_oldSky a_oldCells a_sheetSort a_sheetSize a_items a_spare : Nat) (tn tz wr lw itn ilw : Nat) (i_raking i_made i_at i_from i_sort i_value i_open i_fell i_fellToday i_rotten i_raked i_cost i_imaged i_oldRaking : Int32) (l_heaps l_oldHeaps : Int64) (kf mf : Nat → Int32) (c k m9 : Int32) : rM l yX8_lay cX8_lay 5 (some .int) ({ frames := 2, cells := 0, slots := 0, locals := 42 } : Room) dG (tY cI cM cW cS) rZ0 [.ref m, .int c, .int k, .int m9] [(m, .inr (7, [.ref a_sky, .ref a_kind, .ref a_more, .ref a_strewn, .int (nI tn), .ref a_treeCell, .ref a_treeSort, .ref a_treeLeaves, .int i_raking, .long l_heaps, .int (nI tz), .ref a_tape, .int (nI wr), .int (nI lw), .ref a_code, .ref a_begins, .int i_made, .int i_at, .int i_from, .int i_sort, .int i_value, .int i_open, .ref a_stack, .ref a_dry, .ref a_wet, .ref a_covered, .ref a_hangs, .ref a_off, .int i_fell, .int i_fellToday, .int i_rotten, .int i_raked, .int i_cost, .ref a_dryGo, .ref a_wetGo, .ref a_keptSky, .int i_imaged, .int (nI itn), .int i_oldRaking, .long l_oldHeaps, .int (nI ilw), .ref a_oldSky, .ref a_oldCells, .ref a_sheetSort, .ref a_sheetSize, .ref a_items, .ref a_spare])), (a_kind, .inl (cI, 36, .inl kf)), (a_more, .inl (cI, 36, .inl mf))] (fun ov oz => ∃ (r : Int32) (k' : Nat → Int32) (m' : Nat → Int32), ov = some (.int r) ∧ oz = [(m, .inr (7, [.ref a_sky, .ref a_kind, .ref a_more, .ref a_strewn, .int (nI tn), .ref a_treeCell, .ref a_treeSort, .ref a_treeLeaves, .int i_raking, .long l_heaps, .int (nI tz), .ref a_tape, .int (nI wr), .int (nI lw), .ref a_code, .ref a_begins, .int i_made, .int i_at, .int i_from, .int i_sort, .int i_value, .int i_open, .ref a_stack, .ref a_dry, .ref a_wet, .ref a_covered, .ref a_hangs, .ref a_off, .int i_fell, .int i_fellToday, .int i_rotten, .int i_raked, .int i_cost, .ref a_dryGo, .ref a_wetGo, .ref a_keptSky, .int i_imaged, .int (nI itn), .int i_oldRaking, .long l_oldHeaps, .int (nI ilw), .ref a_oldSky, .ref a_oldCells, .ref a_sheetSort, .ref a_sheetSize, .ref a_items, .ref a_spare])), (a_kind, .inl (cI, 36, .inl k')), (a_more, .inl (cI, 36, .inl m'))] ∧ (r, k', m') = (o_lay kf c k m9, o_lay_f kf c k m9 k, o_lay_f mf c k m9 m9)) := by
  refine rM_ofI rfl (Nat.le_of_ble_eq_true rfl) rfl (fun X C E => ?_)
  show X 0 0 [(m, .inr (7, [.ref a_sky, .ref a_kind, .ref a_more, .ref a_strewn, .int (nI tn), .ref a_treeCell, .ref a_treeSort, .ref a_treeLeaves, .int i_raking, .long l_heaps, .int (nI tz), .ref a_tape, .int (nI wr), .int (nI lw), .ref a_code, .ref a_begins, .int i_made, .int i_at, .int i_from, .int i_sort, .int i_value, .int i_open, .ref a_stack, .ref a_dry, .ref a_wet, .ref a_covered, .ref a_hangs, .ref a_off, .int i_fell, .int i_fellToday, .int i_rotten, .int i_raked, .int i_cost, .ref a_dryGo, .ref a_wetGo, .ref a_keptSky, .int i_imaged, .int (nI itn), .int i_oldRaking, .long l_oldHeaps, .int (nI ilw), .ref a_oldSky, .ref a_oldCells, .ref a_sheetSort, .ref a_sheetSize, .ref a_items, .ref a_spare])), (a_kind, .inl (cI, 36, .inl kf)), (a_more, .inl (cI, 36, .inl mf))] [(0, .ref m), (1, .int c), (2, .int k), (3, .int m9)] 0 []
  refine x_iload_n C dX8_lay_0 1 rfl ?_
  refine x_callS C (As := [.int c]) (st := []) (wc := []) (wr := [(m, .inr (7, [.ref a_sky, .ref a_kind, .ref a_more, .ref a_strewn, .int (nI tn), .ref a_treeCell, .ref a_treeSort, .ref a_treeLeaves, .int i_raking, .long l_heaps, .int (nI tz), .ref a_tape, .int (nI wr), .int (nI lw), .ref a_code, .ref a_begins, .int i_made, .int i_at, .int i_from, .int i_sort, .int i_value, .int i_open, .ref a_stack, .ref a_dry, .ref a_wet, .ref a_covered, .ref a_hangs, .ref a_off, .int i_fell, .int i_fellToday, .int i_rotten, .int i_raked, .int i_cost, .ref a_dryGo, .ref a_wetGo, .ref a_keptSky, .int i_imaged, .int (nI itn), .int i_oldRaking, .long l_oldHeaps, .int (nI ilw), .ref a_oldSky, .ref a_oldCells, .ref a_sheetSort, .ref a_sheetSize, .ref a_items, .ref a_spare])), (a_kind, .inl (cI, 36, .inl kf)), (a_more, .inl (cI, 36, .inl mf))]) (c_X8_isCell l dG cI cM cW cS c ) rZ0_ok (fun _ _ _ _ => trivial) kS_X8_223 hy_X8_isCell ⟨Nat.le_of_ble_eq_true rfl, Nat.le_of_ble_eq_true rfl⟩ ⟨Nat.le_of_ble_eq_true rfl, Nat.le_of_ble_eq_true rfl⟩ dX8_lay_1 [] [0, 1, 2] rfl rfl rfl rfl (by decide) rfl (Nat.le_of_ble_eq_true rfl) ?_
  intro v1 w2 h3
  rcases h3 with h3 | h3
  ·
    obtain ⟨rfl, rfl, hf4⟩ := h3
    show X 0 0 [(m, .inr (7, [.ref a_sky, .ref a_kind, .ref a_more, .ref a_strewn, .int (nI tn), .ref a_treeCell, .ref a_treeSort, .ref a_treeLeaves, .int i_raking, .long l_heaps, .int (nI tz), .ref a_tape, .int (nI wr), .int (nI lw), .ref a_code, .ref a_begins, .int i_made, .int i_at, .int i_from, .int i_sort, .int i_value, .int i_open, .ref a_stack, .ref a_dry, .ref a_wet, .ref a_covered, .ref a_hangs, .ref a_off, .int i_fell, .int i_fellToday, .int i_rotten, .int i_raked, .int i_cost, .ref a_dryGo, .ref a_wetGo, .ref a_keptSky, .int i_imaged, .int (nI itn), .int i_oldRaking, .long l_oldHeaps, .int (nI ilw), .ref a_oldSky, .ref a_oldCells, .ref a_sheetSort, .ref a_sheetSize, .ref a_items, .ref a_spare])), (a_kind, .inl (cI, 36, .inl kf)), (a_more, .inl (cI, 36, .inl mf))] [(0, .ref m), (1, .int c), (2, .int k), (3, .int m9)] 4 [.int 1]
    have hr5 := hf4
    obtain ⟨j, hj, rfl⟩ := q_w (n := 35) rfl (by decide) hf4
    have hnj : o_n (nI j) = j := o_n_nI (by omega)
    refine x_if_ne C dX8_lay_4 (tgt := 10) rfl (fun _ => ?_) (fun q9 => by first | exact absurd q9 (by decide) | exact absurd (by decide) q9)
    refine x_iload_n C dX8_lay_10 2 rfl ?_
    refine x_iconst C dX8_lay_11 (v := 0) rfl ?_
    refine x_iconst C dX8_lay_12 (v := 5) rfl ?_
    refine x_callS C (As := [.int k, .int 0, .int 5]) (st := []) (wc := []) (wr := [(m, .inr (7, [.ref a_sky, .ref a_kind, .ref a_more, .ref a_strewn, .int (nI tn), .ref a_treeCell, .ref a_treeSort, .ref a_treeLeaves, .int i_raking, .long l_heaps, .int (nI tz), .ref a_tape, .int (nI wr), .int (nI lw), .ref a_code, .ref a_begins, .int i_made, .int i_at, .int i_from, .int i_sort, .int i_value, .int i_open, .ref a_stack, .ref a_dry, .ref a_wet, .ref a_covered, .ref a_hangs, .ref a_off, .int i_fell, .int i_fellToday, .int i_rotten, .int i_raked, .int i_cost, .ref a_dryGo, .ref a_wetGo, .ref a_keptSky, .int i_imaged, .int (nI itn), .int i_oldRaking, .long l_oldHeaps, .int (nI ilw), .ref a_oldSky, .ref a_oldCells, .ref a_sheetSort, .ref a_sheetSize, .ref a_items, .ref a_spare])), (a_kind, .inl (cI, 36, .inl kf)), (a_more, .inl (cI, 36, .inl mf))]) (c_X8_within l dG cI cM cW cS k 0 5 ) rZ0_ok (fun _ _ _ _ => trivial) kS_X8_108 hy_X8_within ⟨Nat.le_of_ble_eq_true rfl, Nat.le_of_ble_eq_true rfl⟩ ⟨Nat.le_of_ble_eq_true rfl, Nat.le_of_ble_eq_true rfl⟩ dX8_lay_13 [] [0, 1, 2] rfl rfl rfl rfl (by decide) rfl (Nat.le_of_ble_eq_true rfl) ?_
    intro v6 w7 h8
    rcases h8 with h8 | h8
    ·
      obtain ⟨rfl, rfl, hf9⟩ := h8
      show X 0 0 [(m, .inr (7, [.ref a_sky, .ref a_kind, .ref a_more, .ref a_strewn, .int (nI tn), .ref a_treeCell, .ref a_treeSort, .ref a_treeLeaves, .int i_raking, .long l_heaps, .int (nI tz), .ref a_tape, .int (nI wr), .int (nI lw), .ref a_code, .ref a_begins, .int i_made, .int i_at, .int i_from, .int i_sort, .int i_value, .int i_open, .ref a_stack, .ref a_dry, .ref a_wet, .ref a_covered, .ref a_hangs, .ref a_off, .int i_fell, .int i_fellToday, .int i_rotten, .int i_raked, .int i_cost, .ref a_dryGo, .ref a_wetGo, .ref a_keptSky, .int i_imaged, .int (nI itn), .int i_oldRaking, .long l_oldHeaps, .int (nI ilw), .ref a_oldSky, .ref a_oldCells, .ref a_sheetSort, .ref a_sheetSize, .ref a_items, .ref a_spare])), (a_kind, .inl (cI, 36, .inl kf)), (a_more, .inl (cI, 36, .inl mf))] [(0, .ref m), (1, .int (nI j)), (2, .int k), (3, .int m9)] 16 [.int 1]
      refine x_if_eq C dX8_lay_16 (tgt := 29) rfl (fun q9 => absurd q9 (by decide)) (fun _ => ?_)
      refine x_iload_n C dX8_lay_19 3 rfl ?_
      refine x_iconst C dX8_lay_20 (v := 0) rfl ?_
      refine x_bipush C dX8_lay_21 (v := 99) rfl ?_
      refine x_callS C (As := [.int m9, .int 0, .int 99]) (st := []) (wc := []) (wr := [(m, .inr (7, [.ref a_sky, .ref a_kind, .ref a_more, .ref a_strewn, .int (nI tn), .ref a_treeCell, .ref a_treeSort, .ref a_treeLeaves, .int i_raking, .long l_heaps, .int (nI tz), .ref a_tape, .int (nI wr), .int (nI lw), .ref a_code, .ref a_begins, .int i_made, .int i_at, .int i_from, .int i_sort, .int i_value, .int i_open, .ref a_stack, .ref a_dry, .ref a_wet, .ref a_covered, .ref a_hangs, .ref a_off, .int i_fell, .int i_fellToday, .int i_rotten, .int i_raked, .int i_cost, .ref a_dryGo, .ref a_wetGo, .ref a_keptSky, .int i_imaged, .int (nI itn), .int i_oldRaking, .long l_oldHeaps, .int (nI ilw), .ref a_oldSky, .ref a_oldCells, .ref a_sheetSort, .ref a_sheetSize, .ref a_items, .ref a_spare])), (a_kind, .inl (cI, 36, .inl kf)), (a_more, .inl (cI, 36, .inl mf))]) (c_X8_within l dG cI cM cW cS m9 0 99 ) rZ0_ok (fun _ _ _ _ => trivial) kS_X8_108 hy_X8_within ⟨Nat.le_of_ble_eq_true rfl, Nat.le_of_ble_eq_true rfl⟩ ⟨Nat.le_of_ble_eq_true rfl, Nat.le_of_ble_eq_true rfl⟩ dX8_lay_23 [] [0, 1, 2] rfl rfl rfl rfl (by decide) rfl (Nat.le_of_ble_eq_true rfl) ?_
      intro v10 w11 h12
      rcases h12 with h12 | h12
      ·
        obtain ⟨rfl, rfl, hf13⟩ := h12
        show X 0 0 [(m, .inr (7, [.ref a_sky, .ref a_kind, .ref a_more, .ref a_strewn, .int (nI tn), .ref a_treeCell, .ref a_treeSort, .ref a_treeLeaves, .int i_raking, .long l_heaps, .int (nI tz), .ref a_tape, .int (nI wr), .int (nI lw), .ref a_code, .ref a_begins, .int i_made, .int i_at, .int i_from, .int i_sort, .int i_value, .int i_open, .ref a_stack, .ref a_dry, .ref a_wet, .ref a_covered, .ref a_hangs, .ref a_off, .int i_fell, .int i_fellToday, .int i_rotten, .int i_raked, .int i_cost, .ref a_dryGo, .ref a_wetGo, .ref a_keptSky, .int i_imaged, .int (nI itn), .int i_oldRaking, .long l_oldHeaps, .int (nI ilw), .ref a_oldSky, .ref a_oldCells, .ref a_sheetSort, .ref a_sheetSize, .ref a_items, .ref a_spare])), (a_kind, .inl (cI, 36, .inl kf)), (a_more, .inl (cI, 36, .inl mf))] [(0, .ref m), (1, .int (nI j)), (2, .int k), (3, .int m9)] 26 [.int 1]
        refine x_if_ne C dX8_lay_26 (tgt := 32) rfl (fun _ => ?_) (fun q9 => by first | exact absurd q9 (by decide) | exact absurd (by decide) q9)
        refine x_aload_n C dX8_lay_32 0 rfl ?_
        refine x_get C inlX8 rfl 1 (by decide) gw_10_19 dX8_lay_33 0 rfl rfl ?_
        refine x_iload_n C dX8_lay_36 1 rfl ?_
        refine x_iaload C 0 rfl dX8_lay_37 j (q_cl rfl (by omega)) (q_ix rfl (by omega) (by omega)) 1 rfl ?_
        refine x_istore C dX8_lay_38 (by decide) (lv' := [(4, .int (kf j)), (0, .ref m), (1, .int (nI j)), (2, .int k), (3, .int m9)]) rfl ?_
        refine x_aload_n C dX8_lay_40 1 rfl ?_
        refine x_get C inlX8 rfl 1 (by decide) gw_10_19 dX8_lay_41 0 rfl rfl ?_
        refine x_iload_n C dX8_lay_44 2 rfl ?_
        refine x_iload_n C dX8_lay_45 3 rfl ?_
        show X _ _ _ _ 46 _
        refine x_iastore C 0 rfl dX8_lay_46 j (q_cl rfl (by omega)) (q_ix rfl (by omega) (by omega)) 1 rfl ?_
        show X _ _ [(m, .inr (7, [.ref a_sky, .ref a_kind, .ref a_more, .ref a_strewn, .int (nI tn), .ref a_treeCell, .ref a_treeSort, .ref a_treeLeaves, .int i_raking, .long l_heaps, .int (nI tz), .ref a_tape, .int (nI wr), .int (nI lw), .ref a_code, .ref a_begins, .int i_made, .int i_at, .int i_from, .int i_sort, .int i_value, .int i_open, .ref a_stack, .ref a_dry, .ref a_wet, .ref a_covered, .ref a_hangs, .ref a_off, .int i_fell, .int i_fellToday, .int i_rotten, .int i_raked, .int i_cost, .ref a_dryGo, .ref a_wetGo, .ref a_keptSky, .int i_imaged, .int (nI itn), .int i_oldRaking, .long l_oldHeaps, .int (nI ilw), .ref a_oldSky, .ref a_oldCells, .ref a_sheetSort, .ref a_sheetSize, .ref a_items, .ref a_spare])), (a_kind, .inl (cI, 36, .inl (upd kf j k))), (a_more, .inl (cI, 36, .inl mf))] _ _ _
        refine x_aload_n C dX8_lay_47 1 rfl ?_
        refine x_get C inlX8 rfl 2 (by decide) gw_10_20 dX8_lay_48 0 rfl rfl ?_
        refine x_iload_n C dX8_lay_51 2 rfl ?_
        refine x_iload_n C dX8_lay_52 4 rfl ?_
        refine x_iastore C 0 rfl dX8_lay_53 j (q_cl rfl (by omega)) (q_ix rfl (by omega) (by omega)) 2 rfl ?_
        show X _ _ [(m, .inr (7, [.ref a_sky, .ref a_kind, .ref a_more, .ref a_strewn, .int (nI tn), .ref a_treeCell, .ref a_treeSort, .ref a_treeLeaves, .int i_raking, .long l_heaps, .int (nI tz), .ref a_tape, .int (nI wr), .int (nI lw), .ref a_code, .ref a_begins, .int i_made, .int i_at, .int i_from, .int i_sort, .int i_value, .int i_open, .ref a_stack, .ref a_dry, .ref a_wet, .ref a_covered, .ref a_hangs, .ref a_off, .int i_fell, .int i_fellToday, .int i_rotten, .int i_raked, .int i_cost, .ref a_dryGo, .ref a_wetGo, .ref a_keptSky, .int i_imaged, .int (nI itn), .int i_oldRaking, .long l_oldHeaps, .int (nI ilw), .ref a_oldSky, .ref a_oldCells, .ref a_sheetSort, .ref a_sheetSize, .ref a_items, .ref a_spare])), (a_kind, .inl (cI, 36, .inl (upd kf j k))), (a_more, .inl (cI, 36, .inl (upd mf j m9)))] _ _ _
        refine x_iload C dX8_lay_54 0 rfl ?_
        refine E dX8_lay_56 (rfl) ?_
        exact ⟨(kf j), (upd kf j k), (upd mf j m9), rfl, rfl, by (unfold o_lay o_lay_f); (try simp only [hnj]); (repeat (first | rw [if_pos (by first | (rw [if_pos (by decide)]; assumption) | (rw [if_neg (by decide), if_pos (by decide)]; assumption) | (rw [if_neg (by decide), if_neg (by decide)]; assumption) | assumption | decide | omega | exact o_one_t (by assumption) | (rw [o_one_f (by assumption)]; decide) | exact ⟨by assumption, by assumption⟩ | exact fun h9 => absurd h9.1 (by assumption) | exact fun h9 => absurd h9.2 (by assumption))] | rw [if_neg (by first | (rw [if_pos (by decide)]; assumption) | (rw [if_neg (by decide), if_pos (by decide)]; assumption) | (rw [if_neg (by decide), if_neg (by decide)]; assumption) | assumption | decide | omega | exact o_one_t (by assumption) | (rw [o_one_f (by assumption)]; decide) | exact ⟨by assumption, by assumption⟩ | exact fun h9 => absurd h9.1 (by assumption) | exact fun h9 => absurd h9.2 (by assumption))])); all_goals (first | rfl)⟩
      ·
        obtain ⟨rfl, rfl, hf14⟩ := h12
        show X 0 0 [(m, .inr (7, [.ref a_sky, .ref a_kind, .ref a_more, .ref a_strewn, .int (nI tn), .ref a_treeCell, .ref a_treeSort, .ref a_treeLeaves, .int i_raking, .long l_heaps, .int (nI tz), .ref a_tape, .int (nI wr), .int (nI lw), .ref a_code, .ref a_begins, .int i_made, .int i_at, .int i_from, .int i_sort, .int i_value, .int i_open, .ref a_stack, .ref a_dry, .ref a_wet, .ref a_covered, .ref a_hangs, .ref a_off, .int i_fell, .int i_fellToday, .int i_rotten, .int i_raked, .int i_cost, .ref a_dryGo, .ref a_wetGo, .ref a_keptSky, .int i_imaged, .int (nI itn), .int i_oldRaking, .long l_oldHeaps, .int (nI ilw), .ref a_oldSky, .ref a_oldCells, .ref a_sheetSort, .ref a_sheetSize, .ref a_items, .ref a_spare])), (a_kind, .inl (cI, 36, .inl kf)), (a_more, .inl (cI, 36, .inl mf))] [(0, .ref m), (1, .int (nI j)), (2, .int k), (3, .int m9)] 26 [.int 0]
        refine x_if_ne C dX8_lay_26 (tgt := 32) rfl (fun q9 => absurd q9 (by decide)) (fun _ => ?_)
        refine x_bipush C dX8_lay_29 (v := (-7)) rfl ?_
        refine E dX8_lay_31 (rfl) ?_
        exact ⟨(-7), kf, mf, rfl, rfl, by (unfold o_lay o_lay_f); (try simp only [hnj]); (repeat (first | rw [if_pos (by first | (rw [if_pos (by decide)]; assumption) | (rw [if_neg (by decide), if_pos (by decide)]; assumption) | (rw [if_neg (by decide), if_neg (by decide)]; assumption) | assumption | decide | omega | exact o_one_t (by assumption) | (rw [o_one_f (by assumption)]; decide) | exact ⟨by assumption, by assumption⟩ | exact fun h9 => absurd h9.1 (by assumption) | exact fun h9 => absurd h9.2 (by assumption))] | rw [if_neg (by first | (rw [if_pos (by decide)]; assumption) | (rw [if_neg (by decide), if_pos (by decide)]; assumption) | (rw [if_neg (by decide), if_neg (by decide)]; assumption) | assumption | decide | omega | exact o_one_t (by assumption) | (rw [o_one_f (by assumption)]; decide) | exact ⟨by assumption, by assumption⟩ | exact fun h9 => absurd h9.1 (by assumption) | exact fun h9 => absurd h9.2 (by assumption))])); all_goals (first | rfl)⟩
    ·
      obtain ⟨rfl, rfl, hf15⟩ := h8
      show X 0 0 [(m, .inr (7, [.ref a_sky, .ref a_kind, .ref a_more, .ref a_strewn, .int (nI tn), .ref a_treeCell, .ref a_treeSort, .ref a_treeLeaves, .int i_raking, .long l_heaps, .int (nI tz), .ref a_tape, .int (nI wr), .int (nI lw), .ref a_code, .ref a_begins, .int i_made, .int i_at, .int i_from, .int i_sort, .int i_value, .int i_open, .ref a_stack, .ref a_dry, .ref a_wet, .ref a_covered, .ref a_hangs, .ref a_off, .int i_fell, .int i_fellToday, .int i_rotten, .int i_raked, .int i_cost, .ref a_dryGo, .ref a_wetGo, .ref a_keptSky, .int i_imaged, .int (nI itn), .int i_oldRaking, .long l_oldHeaps, .int (nI ilw), .ref a_oldSky, .ref a_oldCells, .ref a_sheetSort, .ref a_sheetSize, .ref a_items, .ref a_spare])), (a_kind, .inl (cI, 36, .inl kf)), (a_more, .inl (cI, 36, .inl mf))] [(0, .ref m), (1, .int (nI j)), (2, .int k), (3, .int m9)] 16 [.int 0]
      refine x_if_eq C dX8_lay_16 (tgt := 29) rfl (fun _ => ?_) (fun q9 => by first | exact absurd q9 (by decide) | exact absurd (by decide) q9)
      refine x_bipush C dX8_lay_29 (v := (-7)) rfl ?_
      refine E dX8_lay_31 (rfl) ?_
      exact ⟨(-7), kf, mf, rfl, rfl, by (unfold o_lay o_lay_f); (try simp only [hnj]); (repeat (first | rw [if_pos (by first | (rw [if_pos (by decide)]; assumption) | (rw [if_neg (by decide), if_pos (by decide)]; assumption) | (rw [if_neg (by decide), if_neg (by decide)]; assumption) | assumption | decide | omega | exact o_one_t (by assumption) | (rw [o_one_f (by assumption)]; decide) | exact ⟨by assumption, by assumption⟩ | exact fun h9 => absurd h9.1 (by assumption) | exact fun h9 => absurd h9.2 (by assumption))] | rw [if_neg (by first | (rw [if_pos (by decide)]; assumption) | (rw [if_neg (by decide), if_pos (by decide)]; assumption) | (rw [if_neg (by decide), if_neg (by decide)]; assumption) | assumption | decide | omega | exact o_one_t (by assumption) | (rw [o_one_f (by assumption)]; decide) | exact ⟨by assumption, by assumption⟩ | exact fun h9 => absurd h9.1 (by assumption) | exact fun h9 => absurd h9.2 (by assumption))])); all_goals (first | rfl)⟩
  ·
    obtain ⟨rfl, rfl, hf16⟩ := h3
    show X 0 0 [(m, .inr (7, [.ref a_sky, .ref a_kind, .ref a_more, .ref a_strewn, .int (nI tn), .ref a_treeCell, .ref a_treeSort, .ref a_treeLeaves, .int i_raking, .long l_heaps, .int (nI tz), .ref a_tape, .int (nI wr), .int (nI lw), .ref a_code, .ref a_begins, .int i_made, .int i_at, .int i_from, .int i_sort, .int i_value, .int i_open, .ref a_stack, .ref a_dry, .ref a_wet, .ref a_covered, .ref a_hangs, .ref a_off, .int i_fell, .int i_fellToday, .int i_rotten, .int i_raked, .int i_cost, .ref a_dryGo, .ref a_wetGo, .ref a_keptSky, .int i_imaged, .int (nI itn), .int i_oldRaking, .long l_oldHeaps, .int (nI ilw), .ref a_oldSky, .ref a_oldCells, .ref a_sheetSort, .ref a_sheetSize, .ref a_items, .ref a_spare])), (a_kind, .inl (cI, 36, .inl kf)), (a_more, .inl (cI, 36, .inl mf))] [(0, .ref m), (1, .int c), (2, .int k), (3, .int m9)] 4 [.int 0]
    refine x_if_ne C dX8_lay_4 (tgt := 10) rfl (fun q9 => absurd q9 (by decide)) (fun _ => ?_)
    refine x_bipush C dX8_lay_7 (v := (-5)) rfl ?_
    refine E dX8_lay_9 (rfl) ?_
    exact ⟨(-5), kf, mf, rfl, rfl, by (unfold o_lay o_lay_f); (repeat (first | rw [if_pos (by first | (rw [if_pos (by decide)]; assumption) | (rw [if_neg (by decide), if_pos (by decide)]; assumption) | (rw [if_neg (by decide), if_neg (by decide)]; assumption) | assumption | decide | omega | exact o_one_t (by assumption) | (rw [o_one_f (by assumption)]; decide) | exact ⟨by assumption, by assumption⟩ | exact fun h9 => absurd h9.1 (by assumption) | exact fun h9 => absurd h9.2 (by assumption))] | rw [if_neg (by first | (rw [if_pos (by decide)]; assumption) | (rw [if_neg (by decide), if_pos (by decide)]; assumption) | (rw [if_neg (by decide), if_neg (by decide)]; assumption) | assumption | decide | omega | exact o_one_t (by assumption) | (rw [o_one_f (by assumption)]; decide) | exact ⟨by assumption, by assumption⟩ | exact fun h9 => absurd h9.1 (by assumption) | exact fun h9 => absurd h9.2 (by assumption))])); all_goals (first | rfl)⟩
set_option maxHeartbeats 4000000 in
set_option maxRecDepth 100000 in
theorem c_X8_cellTold (l : Launch) (dG : va_G) (cI cM cW cS : ClassId) (m a_sky a_kind a_more a_strewn a_treeCell a_treeSort a_treeLeaves a_tape a_code a_begins a_stack a_dry a_wet a_covered a_hangs a_off a_dryGo a_wetGo a_keptSky a_oldSky a_oldCells a_sheetSort a_sheetSize a_items a_spare : Nat) (tn tz wr lw itn ilw : Nat) (i_raking i_made i_at i_from i_sort i_value i_open i_fell i_fellToday i_rotten i_raked i_cost i_imaged i_oldRaking : Int32) (l_heaps l_oldHeaps : Int64) (kf mf lf : Nat → Int32) (c wh : Int32) : rM l yX8_cellTold cX8_cellTold 3 (some .int) ({ frames := 2, cells := 0, slots := 0, locals := 42 } : Room) dG (tY cI cM cW cS) rZ0 [.ref m, .int c, .int wh] [(m, .inr (7, [.ref a_sky, .ref a_kind, .ref a_more, .ref a_strewn, .int (nI tn), .ref a_treeCell, .ref a_treeSort, .ref a_treeLeaves, .int i_raking, .long l_heaps, .int (nI tz), .ref a_tape, .int (nI wr), .int (nI lw), .ref a_code, .ref a_begins, .int i_made, .int i_at, .int i_from, .int i_sort, .int i_value, .int i_open, .ref a_stack, .ref a_dry, .ref a_wet, .ref a_covered, .ref a_hangs, .ref a_off, .int i_fell, .int i_fellToday, .int i_rotten, .int i_raked, .int i_cost, .ref a_dryGo, .ref a_wetGo, .ref a_keptSky, .int i_imaged, .int (nI itn), .int i_oldRaking, .long l_oldHeaps, .int (nI ilw), .ref a_oldSky, .ref a_oldCells, .ref a_sheetSort, .ref a_sheetSize, .ref a_items, .ref a_spare])), (a_kind, .inl (cI, 36, .inl kf)), (a_more, .inl (cI, 36, .inl mf)), (a_strewn, .inl (cI, 36, .inl lf))] (fun ov oz => ∃ (r : Int32), ov = some (.int r) ∧ oz = [(m, .inr (7, [.ref a_sky, .ref a_kind, .ref a_more, .ref a_strewn, .int (nI tn), .ref a_treeCell, .ref a_treeSort, .ref a_treeLeaves, .int i_raking, .long l_heaps, .int (nI tz), .ref a_tape, .int (nI wr), .int (nI lw), .ref a_code, .ref a_begins, .int i_made, .int i_at, .int i_from, .int i_sort, .int i_value, .int i_open, .ref a_stack, .ref a_dry, .ref a_wet, .ref a_covered, .ref a_hangs, .ref a_off, .int i_fell, .int i_fellToday, .int i_rotten, .int i_raked, .int i_cost, .ref a_dryGo, .ref a_wetGo, .ref a_keptSky, .int i_imaged, .int (nI itn), .int i_oldRaking, .long l_oldHeaps, .int (nI ilw), .ref a_oldSky, .ref a_oldCells, .ref a_sheetSort, .ref a_sheetSize, .ref a_items, .ref a_spare])), (a_kind, .inl (cI, 36, .inl kf)), (a_more, .inl (cI, 36, .inl mf)), (a_strewn, .inl (cI, 36, .inl lf))] ∧ r = o_cellTold kf mf lf c wh) := by
  refine rM_ofI rfl (Nat.le_of_ble_eq_true rfl) rfl (fun X C E => ?_)
  show X 0 0 [(m, .inr (7, [.ref a_sky, .ref a_kind, .ref a_more, .ref a_strewn, .int (nI tn), .ref a_treeCell, .ref a_treeSort, .ref a_treeLeaves, .int i_raking, .long l_heaps, .int (nI tz), .ref a_tape, .int (nI wr), .int (nI lw), .ref a_code, .ref a_begins, .int i_made, .int i_at, .int i_from, .int i_sort, .int i_value, .int i_open, .ref a_stack, .ref a_dry, .ref a_wet, .ref a_covered, .ref a_hangs, .ref a_off, .int i_fell, .int i_fellToday, .int i_rotten, .int i_raked, .int i_cost, .ref a_dryGo, .ref a_wetGo, .ref a_keptSky, .int i_imaged, .int (nI itn), .int i_oldRaking, .long l_oldHeaps, .int (nI ilw), .ref a_oldSky, .ref a_oldCells, .ref a_sheetSort, .ref a_sheetSize, .ref a_items, .ref a_spare])), (a_kind, .inl (cI, 36, .inl kf)), (a_more, .inl (cI, 36, .inl mf)), (a_strewn, .inl (cI, 36, .inl lf))] [(0, .ref m), (1, .int c), (2, .int wh)] 0 []
  refine x_iload_n C dX8_cellTold_0 1 rfl ?_
  refine x_callS C (As := [.int c]) (st := []) (wc := []) (wr := [(m, .inr (7, [.ref a_sky, .ref a_kind, .ref a_more, .ref a_strewn, .int (nI tn), .ref a_treeCell, .ref a_treeSort, .ref a_treeLeaves, .int i_raking, .long l_heaps, .int (nI tz), .ref a_tape, .int (nI wr), .int (nI lw), .ref a_code, .ref a_begins, .int i_made, .int i_at, .int i_from, .int i_sort, .int i_value, .int i_open, .ref a_stack, .ref a_dry, .ref a_wet, .ref a_covered, .ref a_hangs, .ref a_off, .int i_fell, .int i_fellToday, .int i_rotten, .int i_raked, .int i_cost, .ref a_dryGo, .ref a_wetGo, .ref a_keptSky, .int i_imaged, .int (nI itn), .int i_oldRaking, .long l_oldHeaps, .int (nI ilw), .ref a_oldSky, .ref a_oldCells, .ref a_sheetSort, .ref a_sheetSize, .ref a_items, .ref a_spare])), (a_kind, .inl (cI, 36, .inl kf)), (a_more, .inl (cI, 36, .inl mf)), (a_strewn, .inl (cI, 36, .inl lf))]) (c_X8_isCell l dG cI cM cW cS c ) rZ0_ok (fun _ _ _ _ => trivial) kS_X8_223 hy_X8_isCell ⟨Nat.le_of_ble_eq_true rfl, Nat.le_of_ble_eq_true rfl⟩ ⟨Nat.le_of_ble_eq_true rfl, Nat.le_of_ble_eq_true rfl⟩ dX8_cellTold_1 [] [0, 1, 2, 3] rfl rfl rfl rfl (by decide) rfl (Nat.le_of_ble_eq_true rfl) ?_
  intro v1 w2 h3
  rcases h3 with h3 | h3
  ·
    obtain ⟨rfl, rfl, hf4⟩ := h3
    show X 0 0 [(m, .inr (7, [.ref a_sky, .ref a_kind, .ref a_more, .ref a_strewn, .int (nI tn), .ref a_treeCell, .ref a_treeSort, .ref a_treeLeaves, .int i_raking, .long l_heaps, .int (nI tz), .ref a_tape, .int (nI wr), .int (nI lw), .ref a_code, .ref a_begins, .int i_made, .int i_at, .int i_from, .int i_sort, .int i_value, .int i_open, .ref a_stack, .ref a_dry, .ref a_wet, .ref a_covered, .ref a_hangs, .ref a_off, .int i_fell, .int i_fellToday, .int i_rotten, .int i_raked, .int i_cost, .ref a_dryGo, .ref a_wetGo, .ref a_keptSky, .int i_imaged, .int (nI itn), .int i_oldRaking, .long l_oldHeaps, .int (nI ilw), .ref a_oldSky, .ref a_oldCells, .ref a_sheetSort, .ref a_sheetSize, .ref a_items, .ref a_spare])), (a_kind, .inl (cI, 36, .inl kf)), (a_more, .inl (cI, 36, .inl mf)), (a_strewn, .inl (cI, 36, .inl lf))] [(0, .ref m), (1, .int c), (2, .int wh)] 4 [.int 1]
    have hr5 := hf4
    obtain ⟨j, hj, rfl⟩ := q_w (n := 35) rfl (by decide) hf4
    have hnj : o_n (nI j) = j := o_n_nI (by omega)
    refine x_if_ne C dX8_cellTold_4 (tgt := 10) rfl (fun _ => ?_) (fun q9 => by first | exact absurd q9 (by decide) | exact absurd (by decide) q9)
    refine x_iload_n C dX8_cellTold_10 2 rfl ?_
    rcases q_sw wh (0) (2) with q6 | q6
    ·
      refine x_tableOut C dX8_cellTold_11 q6 (tgt := 57) rfl ?_
      have hk9 : ¬ wh = 0 ∧ ¬ wh = 1 ∧ ¬ wh = 2 := by refine ⟨?_, ?_, ?_⟩ <;> (intro h; rw [h] at q6; revert q6; decide)
      obtain ⟨hk0, hk1, hk2⟩ := hk9
      refine x_bipush C dX8_cellTold_57 (v := (-7)) rfl ?_
      refine E dX8_cellTold_59 (rfl) ?_
      exact ⟨(-7), rfl, rfl, by (unfold o_cellTold); (try simp only [hnj]); (repeat (first | rw [if_pos (by first | (rw [if_pos (by decide)]; assumption) | (rw [if_neg (by decide), if_pos (by decide)]; assumption) | (rw [if_neg (by decide), if_neg (by decide)]; assumption) | assumption | decide | omega | exact o_one_t (by assumption) | (rw [o_one_f (by assumption)]; decide) | exact ⟨by assumption, by assumption⟩ | exact fun h9 => absurd h9.1 (by assumption) | exact fun h9 => absurd h9.2 (by assumption))] | rw [if_neg (by first | (rw [if_pos (by decide)]; assumption) | (rw [if_neg (by decide), if_pos (by decide)]; assumption) | (rw [if_neg (by decide), if_neg (by decide)]; assumption) | assumption | decide | omega | exact o_one_t (by assumption) | (rw [o_one_f (by assumption)]; decide) | exact ⟨by assumption, by assumption⟩ | exact fun h9 => absurd h9.1 (by assumption) | exact fun h9 => absurd h9.2 (by assumption))])); all_goals (first | rfl)⟩
    ·
      rcases q_sw_0_2 q6 with q6 | q6 | q6
      ·
        have q6 : wh = 0 := q6
        refine x_tableIn C dX8_cellTold_11 (by rw [q6]; decide) (by rw [q6]; decide) (off := 25) (tgt := 36) (by rw [q6]; rfl) rfl ?_
        refine x_aload_n C dX8_cellTold_36 0 rfl ?_
        refine x_get C inlX8 rfl 1 (by decide) gw_10_19 dX8_cellTold_37 0 rfl rfl ?_
        refine x_iload_n C dX8_cellTold_40 1 rfl ?_
        refine x_iaload C 0 rfl dX8_cellTold_41 j (q_cl rfl (by omega)) (q_ix rfl (by omega) (by omega)) 1 rfl ?_
        refine E dX8_cellTold_42 (rfl) ?_
        exact ⟨(kf j), rfl, rfl, by (unfold o_cellTold); (try simp only [hnj]); (repeat (first | rw [if_pos (by first | (rw [if_pos (by decide)]; assumption) | (rw [if_neg (by decide), if_pos (by decide)]; assumption) | (rw [if_neg (by decide), if_neg (by decide)]; assumption) | assumption | decide | omega | exact o_one_t (by assumption) | (rw [o_one_f (by assumption)]; decide) | exact ⟨by assumption, by assumption⟩ | exact fun h9 => absurd h9.1 (by assumption) | exact fun h9 => absurd h9.2 (by assumption))] | rw [if_neg (by first | (rw [if_pos (by decide)]; assumption) | (rw [if_neg (by decide), if_pos (by decide)]; assumption) | (rw [if_neg (by decide), if_neg (by decide)]; assumption) | assumption | decide | omega | exact o_one_t (by assumption) | (rw [o_one_f (by assumption)]; decide) | exact ⟨by assumption, by assumption⟩ | exact fun h9 => absurd h9.1 (by assumption) | exact fun h9 => absurd h9.2 (by assumption))])); all_goals (first | rfl)⟩
      ·
        have q6 : wh = 1 := q6
        refine x_tableIn C dX8_cellTold_11 (by rw [q6]; decide) (by rw [q6]; decide) (off := 32) (tgt := 43) (by rw [q6]; rfl) rfl ?_
        have hk0 : ¬ wh = 0 := by rw [q6]; decide
        refine x_aload_n C dX8_cellTold_43 0 rfl ?_
        refine x_get C inlX8 rfl 2 (by decide) gw_10_20 dX8_cellTold_44 0 rfl rfl ?_
        refine x_iload_n C dX8_cellTold_47 1 rfl ?_
        refine x_iaload C 0 rfl dX8_cellTold_48 j (q_cl rfl (by omega)) (q_ix rfl (by omega) (by omega)) 2 rfl ?_
        refine E dX8_cellTold_49 (rfl) ?_
        exact ⟨(mf j), rfl, rfl, by (unfold o_cellTold); (try simp only [hnj]); (repeat (first | rw [if_pos (by first | (rw [if_pos (by decide)]; assumption) | (rw [if_neg (by decide), if_pos (by decide)]; assumption) | (rw [if_neg (by decide), if_neg (by decide)]; assumption) | assumption | decide | omega | exact o_one_t (by assumption) | (rw [o_one_f (by assumption)]; decide) | exact ⟨by assumption, by assumption⟩ | exact fun h9 => absurd h9.1 (by assumption) | exact fun h9 => absurd h9.2 (by assumption))] | rw [if_neg (by first | (rw [if_pos (by decide)]; assumption) | (rw [if_neg (by decide), if_pos (by decide)]; assumption) | (rw [if_neg (by decide), if_neg (by decide)]; assumption) | assumption | decide | omega | exact o_one_t (by assumption) | (rw [o_one_f (by assumption)]; decide) | exact ⟨by assumption, by assumption⟩ | exact fun h9 => absurd h9.1 (by assumption) | exact fun h9 => absurd h9.2 (by assumption))])); all_goals (first | rfl)⟩
      ·
        have q6 : wh = 2 := q6
        refine x_tableIn C dX8_cellTold_11 (by rw [q6]; decide) (by rw [q6]; decide) (off := 39) (tgt := 50) (by rw [q6]; rfl) rfl ?_
        have hk0 : ¬ wh = 0 := by rw [q6]; decide
        have hk1 : ¬ wh = 1 := by rw [q6]; decide
        refine x_aload_n C dX8_cellTold_50 0 rfl ?_
        refine x_get C inlX8 rfl 3 (by decide) gw_10_21 dX8_cellTold_51 0 rfl rfl ?_
        refine x_iload_n C dX8_cellTold_54 1 rfl ?_
        refine x_iaload C 0 rfl dX8_cellTold_55 j (q_cl rfl (by omega)) (q_ix rfl (by omega) (by omega)) 3 rfl ?_
        refine E dX8_cellTold_56 (rfl) ?_
        exact ⟨(lf j), rfl, rfl, by (unfold o_cellTold); (try simp only [hnj]); (repeat (first | rw [if_pos (by first | (rw [if_pos (by decide)]; assumption) | (rw [if_neg (by decide), if_pos (by decide)]; assumption) | (rw [if_neg (by decide), if_neg (by decide)]; assumption) | assumption | decide | omega | exact o_one_t (by assumption) | (rw [o_one_f (by assumption)]; decide) | exact ⟨by assumption, by assumption⟩ | exact fun h9 => absurd h9.1 (by assumption) | exact fun h9 => absurd h9.2 (by assumption))] | rw [if_neg (by first | (rw [if_pos (by decide)]; assumption) | (rw [if_neg (by decide), if_pos (by decide)]; assumption) | (rw [if_neg (by decide), if_neg (by decide)]; assumption) | assumption | decide | omega | exact o_one_t (by assumption) | (rw [o_one_f (by assumption)]; decide) | exact ⟨by assumption, by assumption⟩ | exact fun h9 => absurd h9.1 (by assumption) | exact fun h9 => absurd h9.2 (by assumption))])); all_goals (first | rfl)⟩
  ·
    obtain ⟨rfl, rfl, hf7⟩ := h3
    show X 0 0 [(m, .inr (7, [.ref a_sky, .ref a_kind, .ref a_more, .ref a_strewn, .int (nI tn), .ref a_treeCell, .ref a_treeSort, .ref a_treeLeaves, .int i_raking, .long l_heaps, .int (nI tz), .ref a_tape, .int (nI wr), .int (nI lw), .ref a_code, .ref a_begins, .int i_made, .int i_at, .int i_from, .int i_sort, .int i_value, .int i_open, .ref a_stack, .ref a_dry, .ref a_wet, .ref a_covered, .ref a_hangs, .ref a_off, .int i_fell, .int i_fellToday, .int i_rotten, .int i_raked, .int i_cost, .ref a_dryGo, .ref a_wetGo, .ref a_keptSky, .int i_imaged, .int (nI itn), .int i_oldRaking, .long l_oldHeaps, .int (nI ilw), .ref a_oldSky, .ref a_oldCells, .ref a_sheetSort, .ref a_sheetSize, .ref a_items, .ref a_spare])), (a_kind, .inl (cI, 36, .inl kf)), (a_more, .inl (cI, 36, .inl mf)), (a_strewn, .inl (cI, 36, .inl lf))] [(0, .ref m), (1, .int c), (2, .int wh)] 4 [.int 0]
    refine x_if_ne C dX8_cellTold_4 (tgt := 10) rfl (fun q9 => absurd q9 (by decide)) (fun _ => ?_)
    refine x_bipush C dX8_cellTold_7 (v := (-5)) rfl ?_
    refine E dX8_cellTold_9 (rfl) ?_
    exact ⟨(-5), rfl, rfl, by (unfold o_cellTold); (repeat (first | rw [if_pos (by first | (rw [if_pos (by decide)]; assumption) | (rw [if_neg (by decide), if_pos (by decide)]; assumption) | (rw [if_neg (by decide), if_neg (by decide)]; assumption) | assumption | decide | omega | exact o_one_t (by assumption) | (rw [o_one_f (by assumption)]; decide) | exact ⟨by assumption, by assumption⟩ | exact fun h9 => absurd h9.1 (by assumption) | exact fun h9 => absurd h9.2 (by assumption))] | rw [if_neg (by first | (rw [if_pos (by decide)]; assumption) | (rw [if_neg (by decide), if_pos (by decide)]; assumption) | (rw [if_neg (by decide), if_neg (by decide)]; assumption) | assumption | decide | omega | exact o_one_t (by assumption) | (rw [o_one_f (by assumption)]; decide) | exact ⟨by assumption, by assumption⟩ | exact fun h9 => absurd h9.1 (by assumption) | exact fun h9 => absurd h9.2 (by assumption))])); all_goals (first | rfl)⟩
set_option maxHeartbeats 4000000 in
set_option maxRecDepth 100000 in
theorem c_X8_tree (l : Launch) (dG : va_G) (cI cM cW cS : ClassId) (m a_sky a_kind a_more a_strewn a_treeCell a_treeSort a_treeLeaves a_tape a_code a_begins a_stack a_dry a_wet a_covered a_hangs a_off a_dryGo a_wetGo a_keptSky a_oldSky a_oldCells a_sheetSort a_sheetSize a_items a_spare : Nat) (tn tz wr lw itn ilw : Nat) (i_raking i_made i_at i_from i_sort i_value i_open i_fell i_fellToday i_rotten i_raked i_cost i_imaged i_oldRaking : Int32) (l_heaps l_oldHeaps : Int64) (tcf tsf ttf : Nat → Int32) (c s l9 : Int32) (htn : tn ≤ 4) : rM l yX8_tree cX8_tree 4 (some .int) ({ frames := 2, cells := 0, slots := 0, locals := 42 } : Room) dG (tY cI cM cW cS) rZ0 [.ref m, .int c, .int s, .int l9] [(m, .inr (7, [.ref a_sky, .ref a_kind, .ref a_more, .ref a_strewn, .int (nI tn), .ref a_treeCell, .ref a_treeSort, .ref a_treeLeaves, .int i_raking, .long l_heaps, .int (nI tz), .ref a_tape, .int (nI wr), .int (nI lw), .ref a_code, .ref a_begins, .int i_made, .int i_at, .int i_from, .int i_sort, .int i_value, .int i_open, .ref a_stack, .ref a_dry, .ref a_wet, .ref a_covered, .ref a_hangs, .ref a_off, .int i_fell, .int i_fellToday, .int i_rotten, .int i_raked, .int i_cost, .ref a_dryGo, .ref a_wetGo, .ref a_keptSky, .int i_imaged, .int (nI itn), .int i_oldRaking, .long l_oldHeaps, .int (nI ilw), .ref a_oldSky, .ref a_oldCells, .ref a_sheetSort, .ref a_sheetSize, .ref a_items, .ref a_spare])), (a_treeCell, .inl (cI, 4, .inl tcf)), (a_treeSort, .inl (cI, 4, .inl tsf)), (a_treeLeaves, .inl (cI, 4, .inl ttf))] (fun ov oz => ∃ (r : Int32) (n' : Nat) (a' : Nat → Int32) (b' : Nat → Int32) (c' : Nat → Int32), ov = some (.int r) ∧ oz = [(m, .inr (7, [.ref a_sky, .ref a_kind, .ref a_more, .ref a_strewn, .int (nI n'), .ref a_treeCell, .ref a_treeSort, .ref a_treeLeaves, .int i_raking, .long l_heaps, .int (nI tz), .ref a_tape, .int (nI wr), .int (nI lw), .ref a_code, .ref a_begins, .int i_made, .int i_at, .int i_from, .int i_sort, .int i_value, .int i_open, .ref a_stack, .ref a_dry, .ref a_wet, .ref a_covered, .ref a_hangs, .ref a_off, .int i_fell, .int i_fellToday, .int i_rotten, .int i_raked, .int i_cost, .ref a_dryGo, .ref a_wetGo, .ref a_keptSky, .int i_imaged, .int (nI itn), .int i_oldRaking, .long l_oldHeaps, .int (nI ilw), .ref a_oldSky, .ref a_oldCells, .ref a_sheetSort, .ref a_sheetSize, .ref a_items, .ref a_spare])), (a_treeCell, .inl (cI, 4, .inl a')), (a_treeSort, .inl (cI, 4, .inl b')), (a_treeLeaves, .inl (cI, 4, .inl c'))] ∧ (r, n', a', b', c') = (o_tree tn c s l9, o_tree_n tn c s l9, o_tree_f tcf tn c s l9 c, o_tree_f tsf tn c s l9 s, o_tree_f ttf tn c s l9 l9)) := by
  refine rM_ofI rfl (Nat.le_of_ble_eq_true rfl) rfl (fun X C E => ?_)
  show X 0 0 [(m, .inr (7, [.ref a_sky, .ref a_kind, .ref a_more, .ref a_strewn, .int (nI tn), .ref a_treeCell, .ref a_treeSort, .ref a_treeLeaves, .int i_raking, .long l_heaps, .int (nI tz), .ref a_tape, .int (nI wr), .int (nI lw), .ref a_code, .ref a_begins, .int i_made, .int i_at, .int i_from, .int i_sort, .int i_value, .int i_open, .ref a_stack, .ref a_dry, .ref a_wet, .ref a_covered, .ref a_hangs, .ref a_off, .int i_fell, .int i_fellToday, .int i_rotten, .int i_raked, .int i_cost, .ref a_dryGo, .ref a_wetGo, .ref a_keptSky, .int i_imaged, .int (nI itn), .int i_oldRaking, .long l_oldHeaps, .int (nI ilw), .ref a_oldSky, .ref a_oldCells, .ref a_sheetSort, .ref a_sheetSize, .ref a_items, .ref a_spare])), (a_treeCell, .inl (cI, 4, .inl tcf)), (a_treeSort, .inl (cI, 4, .inl tsf)), (a_treeLeaves, .inl (cI, 4, .inl ttf))] [(0, .ref m), (1, .int c), (2, .int s), (3, .int l9)] 0 []
  refine x_iload_n C dX8_tree_0 1 rfl ?_
  refine x_callS C (As := [.int c]) (st := []) (wc := []) (wr := [(m, .inr (7, [.ref a_sky, .ref a_kind, .ref a_more, .ref a_strewn, .int (nI tn), .ref a_treeCell, .ref a_treeSort, .ref a_treeLeaves, .int i_raking, .long l_heaps, .int (nI tz), .ref a_tape, .int (nI wr), .int (nI lw), .ref a_code, .ref a_begins, .int i_made, .int i_at, .int i_from, .int i_sort, .int i_value, .int i_open, .ref a_stack, .ref a_dry, .ref a_wet, .ref a_covered, .ref a_hangs, .ref a_off, .int i_fell, .int i_fellToday, .int i_rotten, .int i_raked, .int i_cost, .ref a_dryGo, .ref a_wetGo, .ref a_keptSky, .int i_imaged, .int (nI itn), .int i_oldRaking, .long l_oldHeaps, .int (nI ilw), .ref a_oldSky, .ref a_oldCells, .ref a_sheetSort, .ref a_sheetSize, .ref a_items, .ref a_spare])), (a_treeCell, .inl (cI, 4, .inl tcf)), (a_treeSort, .inl (cI, 4, .inl tsf)), (a_treeLeaves, .inl (cI, 4, .inl ttf))]) (c_X8_isCell l dG cI cM cW cS c ) rZ0_ok (fun _ _ _ _ => trivial) kS_X8_223 hy_X8_isCell ⟨Nat.le_of_ble_eq_true rfl, Nat.le_of_ble_eq_true rfl⟩ ⟨Nat.le_of_ble_eq_true rfl, Nat.le_of_ble_eq_true rfl⟩ dX8_tree_1 [] [0, 1, 2, 3] rfl rfl rfl rfl (by decide) rfl (Nat.le_of_ble_eq_true rfl) ?_
  intro v1 w2 h3
  rcases h3 with h3 | h3
  ·
    obtain ⟨rfl, rfl, hf4⟩ := h3
    show X 0 0 [(m, .inr (7, [.ref a_sky, .ref a_kind, .ref a_more, .ref a_strewn, .int (nI tn), .ref a_treeCell, .ref a_treeSort, .ref a_treeLeaves, .int i_raking, .long l_heaps, .int (nI tz), .ref a_tape, .int (nI wr), .int (nI lw), .ref a_code, .ref a_begins, .int i_made, .int i_at, .int i_from, .int i_sort, .int i_value, .int i_open, .ref a_stack, .ref a_dry, .ref a_wet, .ref a_covered, .ref a_hangs, .ref a_off, .int i_fell, .int i_fellToday, .int i_rotten, .int i_raked, .int i_cost, .ref a_dryGo, .ref a_wetGo, .ref a_keptSky, .int i_imaged, .int (nI itn), .int i_oldRaking, .long l_oldHeaps, .int (nI ilw), .ref a_oldSky, .ref a_oldCells, .ref a_sheetSort, .ref a_sheetSize, .ref a_items, .ref a_spare])), (a_treeCell, .inl (cI, 4, .inl tcf)), (a_treeSort, .inl (cI, 4, .inl tsf)), (a_treeLeaves, .inl (cI, 4, .inl ttf))] [(0, .ref m), (1, .int c), (2, .int s), (3, .int l9)] 4 [.int 1]
    refine x_if_eq C dX8_tree_4 (tgt := 28) rfl (fun q9 => absurd q9 (by decide)) (fun _ => ?_)
    refine x_iload_n C dX8_tree_7 2 rfl ?_
    refine x_iconst C dX8_tree_8 (v := 0) rfl ?_
    refine x_bipush C dX8_tree_9 (v := 9) rfl ?_
    refine x_callS C (As := [.int s, .int 0, .int 9]) (st := []) (wc := []) (wr := [(m, .inr (7, [.ref a_sky, .ref a_kind, .ref a_more, .ref a_strewn, .int (nI tn), .ref a_treeCell, .ref a_treeSort, .ref a_treeLeaves, .int i_raking, .long l_heaps, .int (nI tz), .ref a_tape, .int (nI wr), .int (nI lw), .ref a_code, .ref a_begins, .int i_made, .int i_at, .int i_from, .int i_sort, .int i_value, .int i_open, .ref a_stack, .ref a_dry, .ref a_wet, .ref a_covered, .ref a_hangs, .ref a_off, .int i_fell, .int i_fellToday, .int i_rotten, .int i_raked, .int i_cost, .ref a_dryGo, .ref a_wetGo, .ref a_keptSky, .int i_imaged, .int (nI itn), .int i_oldRaking, .long l_oldHeaps, .int (nI ilw), .ref a_oldSky, .ref a_oldCells, .ref a_sheetSort, .ref a_sheetSize, .ref a_items, .ref a_spare])), (a_treeCell, .inl (cI, 4, .inl tcf)), (a_treeSort, .inl (cI, 4, .inl tsf)), (a_treeLeaves, .inl (cI, 4, .inl ttf))]) (c_X8_within l dG cI cM cW cS s 0 9 ) rZ0_ok (fun _ _ _ _ => trivial) kS_X8_108 hy_X8_within ⟨Nat.le_of_ble_eq_true rfl, Nat.le_of_ble_eq_true rfl⟩ ⟨Nat.le_of_ble_eq_true rfl, Nat.le_of_ble_eq_true rfl⟩ dX8_tree_11 [] [0, 1, 2, 3] rfl rfl rfl rfl (by decide) rfl (Nat.le_of_ble_eq_true rfl) ?_
    intro v5 w6 h7
    rcases h7 with h7 | h7
    ·
      obtain ⟨rfl, rfl, hf8⟩ := h7
      show X 0 0 [(m, .inr (7, [.ref a_sky, .ref a_kind, .ref a_more, .ref a_strewn, .int (nI tn), .ref a_treeCell, .ref a_treeSort, .ref a_treeLeaves, .int i_raking, .long l_heaps, .int (nI tz), .ref a_tape, .int (nI wr), .int (nI lw), .ref a_code, .ref a_begins, .int i_made, .int i_at, .int i_from, .int i_sort, .int i_value, .int i_open, .ref a_stack, .ref a_dry, .ref a_wet, .ref a_covered, .ref a_hangs, .ref a_off, .int i_fell, .int i_fellToday, .int i_rotten, .int i_raked, .int i_cost, .ref a_dryGo, .ref a_wetGo, .ref a_keptSky, .int i_imaged, .int (nI itn), .int i_oldRaking, .long l_oldHeaps, .int (nI ilw), .ref a_oldSky, .ref a_oldCells, .ref a_sheetSort, .ref a_sheetSize, .ref a_items, .ref a_spare])), (a_treeCell, .inl (cI, 4, .inl tcf)), (a_treeSort, .inl (cI, 4, .inl tsf)), (a_treeLeaves, .inl (cI, 4, .inl ttf))] [(0, .ref m), (1, .int c), (2, .int s), (3, .int l9)] 14 [.int 1]
      refine x_if_eq C dX8_tree_14 (tgt := 28) rfl (fun q9 => absurd q9 (by decide)) (fun _ => ?_)
      refine x_iload_n C dX8_tree_17 3 rfl ?_
      refine x_iconst C dX8_tree_18 (v := 0) rfl ?_
      refine x_sipush C dX8_tree_19 (v := 999) rfl ?_
      refine x_callS C (As := [.int l9, .int 0, .int 999]) (st := []) (wc := []) (wr := [(m, .inr (7, [.ref a_sky, .ref a_kind, .ref a_more, .ref a_strewn, .int (nI tn), .ref a_treeCell, .ref a_treeSort, .ref a_treeLeaves, .int i_raking, .long l_heaps, .int (nI tz), .ref a_tape, .int (nI wr), .int (nI lw), .ref a_code, .ref a_begins, .int i_made, .int i_at, .int i_from, .int i_sort, .int i_value, .int i_open, .ref a_stack, .ref a_dry, .ref a_wet, .ref a_covered, .ref a_hangs, .ref a_off, .int i_fell, .int i_fellToday, .int i_rotten, .int i_raked, .int i_cost, .ref a_dryGo, .ref a_wetGo, .ref a_keptSky, .int i_imaged, .int (nI itn), .int i_oldRaking, .long l_oldHeaps, .int (nI ilw), .ref a_oldSky, .ref a_oldCells, .ref a_sheetSort, .ref a_sheetSize, .ref a_items, .ref a_spare])), (a_treeCell, .inl (cI, 4, .inl tcf)), (a_treeSort, .inl (cI, 4, .inl tsf)), (a_treeLeaves, .inl (cI, 4, .inl ttf))]) (c_X8_within l dG cI cM cW cS l9 0 999 ) rZ0_ok (fun _ _ _ _ => trivial) kS_X8_108 hy_X8_within ⟨Nat.le_of_ble_eq_true rfl, Nat.le_of_ble_eq_true rfl⟩ ⟨Nat.le_of_ble_eq_true rfl, Nat.le_of_ble_eq_true rfl⟩ dX8_tree_22 [] [0, 1, 2, 3] rfl rfl rfl rfl (by decide) rfl (Nat.le_of_ble_eq_true rfl) ?_
      intro v9 w10 h11
      rcases h11 with h11 | h11
      ·
        obtain ⟨rfl, rfl, hf12⟩ := h11
        show X 0 0 [(m, .inr (7, [.ref a_sky, .ref a_kind, .ref a_more, .ref a_strewn, .int (nI tn), .ref a_treeCell, .ref a_treeSort, .ref a_treeLeaves, .int i_raking, .long l_heaps, .int (nI tz), .ref a_tape, .int (nI wr), .int (nI lw), .ref a_code, .ref a_begins, .int i_made, .int i_at, .int i_from, .int i_sort, .int i_value, .int i_open, .ref a_stack, .ref a_dry, .ref a_wet, .ref a_covered, .ref a_hangs, .ref a_off, .int i_fell, .int i_fellToday, .int i_rotten, .int i_raked, .int i_cost, .ref a_dryGo, .ref a_wetGo, .ref a_keptSky, .int i_imaged, .int (nI itn), .int i_oldRaking, .long l_oldHeaps, .int (nI ilw), .ref a_oldSky, .ref a_oldCells, .ref a_sheetSort, .ref a_sheetSize, .ref a_items, .ref a_spare])), (a_treeCell, .inl (cI, 4, .inl tcf)), (a_treeSort, .inl (cI, 4, .inl tsf)), (a_treeLeaves, .inl (cI, 4, .inl ttf))] [(0, .ref m), (1, .int c), (2, .int s), (3, .int l9)] 25 [.int 1]
        refine x_if_ne C dX8_tree_25 (tgt := 31) rfl (fun _ => ?_) (fun q9 => by first | exact absurd q9 (by decide) | exact absurd (by decide) q9)
        refine x_aload_n C dX8_tree_31 0 rfl ?_
        refine x_get C inlX8 rfl 4 (by decide) gw_16_4 dX8_tree_32 0 rfl rfl ?_
        refine x_iconst C dX8_tree_35 (v := 4) rfl ?_
        refine x_icmp_ne C dX8_tree_36 (tgt := 42) rfl (fun c13 => ?_) (fun c13 => ?_)
        ·
          have c13 : tn ≠ 4 := q_ne_t rfl (rfl : (4 : Int32) = nI 4) (by omega) (by omega) c13
          refine x_aload_n C dX8_tree_42 0 rfl ?_
          refine x_get C inlX8 rfl 5 (by decide) gw_10_22 dX8_tree_43 0 rfl rfl ?_
          refine x_aload_n C dX8_tree_46 0 rfl ?_
          refine x_get C inlX8 rfl 4 (by decide) gw_16_4 dX8_tree_47 0 rfl rfl ?_
          refine x_iload_n C dX8_tree_50 1 rfl ?_
          refine x_iastore C 0 rfl dX8_tree_51 tn (q_cl rfl (by omega)) (q_ix rfl (by omega) (by omega)) 1 rfl ?_
          show X _ _ [(m, .inr (7, [.ref a_sky, .ref a_kind, .ref a_more, .ref a_strewn, .int (nI tn), .ref a_treeCell, .ref a_treeSort, .ref a_treeLeaves, .int i_raking, .long l_heaps, .int (nI tz), .ref a_tape, .int (nI wr), .int (nI lw), .ref a_code, .ref a_begins, .int i_made, .int i_at, .int i_from, .int i_sort, .int i_value, .int i_open, .ref a_stack, .ref a_dry, .ref a_wet, .ref a_covered, .ref a_hangs, .ref a_off, .int i_fell, .int i_fellToday, .int i_rotten, .int i_raked, .int i_cost, .ref a_dryGo, .ref a_wetGo, .ref a_keptSky, .int i_imaged, .int (nI itn), .int i_oldRaking, .long l_oldHeaps, .int (nI ilw), .ref a_oldSky, .ref a_oldCells, .ref a_sheetSort, .ref a_sheetSize, .ref a_items, .ref a_spare])), (a_treeCell, .inl (cI, 4, .inl (upd tcf tn c))), (a_treeSort, .inl (cI, 4, .inl tsf)), (a_treeLeaves, .inl (cI, 4, .inl ttf))] _ _ _
          refine x_aload_n C dX8_tree_52 0 rfl ?_
          refine x_get C inlX8 rfl 6 (by decide) gw_10_23 dX8_tree_53 0 rfl rfl ?_
          refine x_aload_n C dX8_tree_56 0 rfl ?_
          refine x_get C inlX8 rfl 4 (by decide) gw_16_4 dX8_tree_57 0 rfl rfl ?_
          show X _ _ _ _ 60 _
          refine x_iload_n C dX8_tree_60 2 rfl ?_
          refine x_iastore C 0 rfl dX8_tree_61 tn (q_cl rfl (by omega)) (q_ix rfl (by omega) (by omega)) 2 rfl ?_
          show X _ _ [(m, .inr (7, [.ref a_sky, .ref a_kind, .ref a_more, .ref a_strewn, .int (nI tn), .ref a_treeCell, .ref a_treeSort, .ref a_treeLeaves, .int i_raking, .long l_heaps, .int (nI tz), .ref a_tape, .int (nI wr), .int (nI lw), .ref a_code, .ref a_begins, .int i_made, .int i_at, .int i_from, .int i_sort, .int i_value, .int i_open, .ref a_stack, .ref a_dry, .ref a_wet, .ref a_covered, .ref a_hangs, .ref a_off, .int i_fell, .int i_fellToday, .int i_rotten, .int i_raked, .int i_cost, .ref a_dryGo, .ref a_wetGo, .ref a_keptSky, .int i_imaged, .int (nI itn), .int i_oldRaking, .long l_oldHeaps, .int (nI ilw), .ref a_oldSky, .ref a_oldCells, .ref a_sheetSort, .ref a_sheetSize, .ref a_items, .ref a_spare])), (a_treeCell, .inl (cI, 4, .inl (upd tcf tn c))), (a_treeSort, .inl (cI, 4, .inl (upd tsf tn s))), (a_treeLeaves, .inl (cI, 4, .inl ttf))] _ _ _
          refine x_aload_n C dX8_tree_62 0 rfl ?_
          refine x_get C inlX8 rfl 7 (by decide) gw_11_0 dX8_tree_63 0 rfl rfl ?_
          refine x_aload_n C dX8_tree_66 0 rfl ?_
          refine x_get C inlX8 rfl 4 (by decide) gw_16_4 dX8_tree_67 0 rfl rfl ?_
          refine x_iload_n C dX8_tree_70 3 rfl ?_
          refine x_iastore C 0 rfl dX8_tree_71 tn (q_cl rfl (by omega)) (q_ix rfl (by omega) (by omega)) 3 rfl ?_
          show X _ _ [(m, .inr (7, [.ref a_sky, .ref a_kind, .ref a_more, .ref a_strewn, .int (nI tn), .ref a_treeCell, .ref a_treeSort, .ref a_treeLeaves, .int i_raking, .long l_heaps, .int (nI tz), .ref a_tape, .int (nI wr), .int (nI lw), .ref a_code, .ref a_begins, .int i_made, .int i_at, .int i_from, .int i_sort, .int i_value, .int i_open, .ref a_stack, .ref a_dry, .ref a_wet, .ref a_covered, .ref a_hangs, .ref a_off, .int i_fell, .int i_fellToday, .int i_rotten, .int i_raked, .int i_cost, .ref a_dryGo, .ref a_wetGo, .ref a_keptSky, .int i_imaged, .int (nI itn), .int i_oldRaking, .long l_oldHeaps, .int (nI ilw), .ref a_oldSky, .ref a_oldCells, .ref a_sheetSort, .ref a_sheetSize, .ref a_items, .ref a_spare])), (a_treeCell, .inl (cI, 4, .inl (upd tcf tn c))), (a_treeSort, .inl (cI, 4, .inl (upd tsf tn s))), (a_treeLeaves, .inl (cI, 4, .inl (upd ttf tn l9)))] _ _ _
          refine x_aload_n C dX8_tree_72 0 rfl ?_
          refine x_dup C dX8_tree_73 rfl ?_
          show X _ _ _ _ 74 _
          refine x_get C inlX8 rfl 4 (by decide) gw_16_4 dX8_tree_74 0 rfl rfl ?_
          refine x_dup_x1 C dX8_tree_77 rfl rfl ?_
          refine x_iconst C dX8_tree_78 (v := 1) rfl ?_
          refine x_iadd C dX8_tree_79 ?_
          refine x_topi C (nI (tn + 1)) (q_iadd (a := tn) (b := 1) rfl (rfl : (1 : Int32) = nI 1)) ?_
          refine x_put C inlX8 rfl tyX8 tyX8_ok nmX8 4 (by decide) gw_16_4 rfl dX8_tree_80 0 rfl (rfl) rfl (Nat.le_of_ble_eq_true rfl) ?_
          show X _ _ [(m, .inr (7, [.ref a_sky, .ref a_kind, .ref a_more, .ref a_strewn, .int (nI (tn + 1)), .ref a_treeCell, .ref a_treeSort, .ref a_treeLeaves, .int i_raking, .long l_heaps, .int (nI tz), .ref a_tape, .int (nI wr), .int (nI lw), .ref a_code, .ref a_begins, .int i_made, .int i_at, .int i_from, .int i_sort, .int i_value, .int i_open, .ref a_stack, .ref a_dry, .ref a_wet, .ref a_covered, .ref a_hangs, .ref a_off, .int i_fell, .int i_fellToday, .int i_rotten, .int i_raked, .int i_cost, .ref a_dryGo, .ref a_wetGo, .ref a_keptSky, .int i_imaged, .int (nI itn), .int i_oldRaking, .long l_oldHeaps, .int (nI ilw), .ref a_oldSky, .ref a_oldCells, .ref a_sheetSort, .ref a_sheetSize, .ref a_items, .ref a_spare])), (a_treeCell, .inl (cI, 4, .inl (upd tcf tn c))), (a_treeSort, .inl (cI, 4, .inl (upd tsf tn s))), (a_treeLeaves, .inl (cI, 4, .inl (upd ttf tn l9)))] _ _ _
          refine E dX8_tree_83 (rfl) ?_
          exact ⟨(nI tn), (tn + 1), (upd tcf tn c), (upd tsf tn s), (upd ttf tn l9), rfl, rfl, by (unfold o_tree o_tree_n o_tree_f); (repeat (first | rw [if_pos (by first | (rw [if_pos (by decide)]; assumption) | (rw [if_neg (by decide), if_pos (by decide)]; assumption) | (rw [if_neg (by decide), if_neg (by decide)]; assumption) | assumption | decide | omega | exact o_one_t (by assumption) | (rw [o_one_f (by assumption)]; decide) | exact ⟨by assumption, by assumption⟩ | exact fun h9 => absurd h9.1 (by assumption) | exact fun h9 => absurd h9.2 (by assumption))] | rw [if_neg (by first | (rw [if_pos (by decide)]; assumption) | (rw [if_neg (by decide), if_pos (by decide)]; assumption) | (rw [if_neg (by decide), if_neg (by decide)]; assumption) | assumption | decide | omega | exact o_one_t (by assumption) | (rw [o_one_f (by assumption)]; decide) | exact ⟨by assumption, by assumption⟩ | exact fun h9 => absurd h9.1 (by assumption) | exact fun h9 => absurd h9.2 (by assumption))])); all_goals (first | rfl)⟩
        ·
          have c13 : tn = 4 := q_ne_f rfl (rfl : (4 : Int32) = nI 4) (by omega) (by omega) c13
          refine x_bipush C dX8_tree_39 (v := (-4)) rfl ?_
          refine E dX8_tree_41 (rfl) ?_
          exact ⟨(-4), tn, tcf, tsf, ttf, rfl, rfl, by (unfold o_tree o_tree_n o_tree_f); (repeat (first | rw [if_pos (by first | (rw [if_pos (by decide)]; assumption) | (rw [if_neg (by decide), if_pos (by decide)]; assumption) | (rw [if_neg (by decide), if_neg (by decide)]; assumption) | assumption | decide | omega | exact o_one_t (by assumption) | (rw [o_one_f (by assumption)]; decide) | exact ⟨by assumption, by assumption⟩ | exact fun h9 => absurd h9.1 (by assumption) | exact fun h9 => absurd h9.2 (by assumption))] | rw [if_neg (by first | (rw [if_pos (by decide)]; assumption) | (rw [if_neg (by decide), if_pos (by decide)]; assumption) | (rw [if_neg (by decide), if_neg (by decide)]; assumption) | assumption | decide | omega | exact o_one_t (by assumption) | (rw [o_one_f (by assumption)]; decide) | exact ⟨by assumption, by assumption⟩ | exact fun h9 => absurd h9.1 (by assumption) | exact fun h9 => absurd h9.2 (by assumption))])); all_goals (first | rfl)⟩
      ·
        obtain ⟨rfl, rfl, hf14⟩ := h11
        show X 0 0 [(m, .inr (7, [.ref a_sky, .ref a_kind, .ref a_more, .ref a_strewn, .int (nI tn), .ref a_treeCell, .ref a_treeSort, .ref a_treeLeaves, .int i_raking, .long l_heaps, .int (nI tz), .ref a_tape, .int (nI wr), .int (nI lw), .ref a_code, .ref a_begins, .int i_made, .int i_at, .int i_from, .int i_sort, .int i_value, .int i_open, .ref a_stack, .ref a_dry, .ref a_wet, .ref a_covered, .ref a_hangs, .ref a_off, .int i_fell, .int i_fellToday, .int i_rotten, .int i_raked, .int i_cost, .ref a_dryGo, .ref a_wetGo, .ref a_keptSky, .int i_imaged, .int (nI itn), .int i_oldRaking, .long l_oldHeaps, .int (nI ilw), .ref a_oldSky, .ref a_oldCells, .ref a_sheetSort, .ref a_sheetSize, .ref a_items, .ref a_spare])), (a_treeCell, .inl (cI, 4, .inl tcf)), (a_treeSort, .inl (cI, 4, .inl tsf)), (a_treeLeaves, .inl (cI, 4, .inl ttf))] [(0, .ref m), (1, .int c), (2, .int s), (3, .int l9)] 25 [.int 0]
        refine x_if_ne C dX8_tree_25 (tgt := 31) rfl (fun q9 => absurd q9 (by decide)) (fun _ => ?_)
        refine x_bipush C dX8_tree_28 (v := (-2)) rfl ?_
        refine E dX8_tree_30 (rfl) ?_
        exact ⟨(-2), tn, tcf, tsf, ttf, rfl, rfl, by (unfold o_tree o_tree_n o_tree_f); (repeat (first | rw [if_pos (by first | (rw [if_pos (by decide)]; assumption) | (rw [if_neg (by decide), if_pos (by decide)]; assumption) | (rw [if_neg (by decide), if_neg (by decide)]; assumption) | assumption | decide | omega | exact o_one_t (by assumption) | (rw [o_one_f (by assumption)]; decide) | exact ⟨by assumption, by assumption⟩ | exact fun h9 => absurd h9.1 (by assumption) | exact fun h9 => absurd h9.2 (by assumption))] | rw [if_neg (by first | (rw [if_pos (by decide)]; assumption) | (rw [if_neg (by decide), if_pos (by decide)]; assumption) | (rw [if_neg (by decide), if_neg (by decide)]; assumption) | assumption | decide | omega | exact o_one_t (by assumption) | (rw [o_one_f (by assumption)]; decide) | exact ⟨by assumption, by assumption⟩ | exact fun h9 => absurd h9.1 (by assumption) | exact fun h9 => absurd h9.2 (by assumption))])); all_goals (first | rfl)⟩
    ·
      obtain ⟨rfl, rfl, hf15⟩ := h7
      show X 0 0 [(m, .inr (7, [.ref a_sky, .ref a_kind, .ref a_more, .ref a_strewn, .int (nI tn), .ref a_treeCell, .ref a_treeSort, .ref a_treeLeaves, .int i_raking, .long l_heaps, .int (nI tz), .ref a_tape, .int (nI wr), .int (nI lw), .ref a_code, .ref a_begins, .int i_made, .int i_at, .int i_from, .int i_sort, .int i_value, .int i_open, .ref a_stack, .ref a_dry, .ref a_wet, .ref a_covered, .ref a_hangs, .ref a_off, .int i_fell, .int i_fellToday, .int i_rotten, .int i_raked, .int i_cost, .ref a_dryGo, .ref a_wetGo, .ref a_keptSky, .int i_imaged, .int (nI itn), .int i_oldRaking, .long l_oldHeaps, .int (nI ilw), .ref a_oldSky, .ref a_oldCells, .ref a_sheetSort, .ref a_sheetSize, .ref a_items, .ref a_spare])), (a_treeCell, .inl (cI, 4, .inl tcf)), (a_treeSort, .inl (cI, 4, .inl tsf)), (a_treeLeaves, .inl (cI, 4, .inl ttf))] [(0, .ref m), (1, .int c), (2, .int s), (3, .int l9)] 14 [.int 0]
      refine x_if_eq C dX8_tree_14 (tgt := 28) rfl (fun _ => ?_) (fun q9 => by first | exact absurd q9 (by decide) | exact absurd (by decide) q9)
      refine x_bipush C dX8_tree_28 (v := (-2)) rfl ?_
      refine E dX8_tree_30 (rfl) ?_
      exact ⟨(-2), tn, tcf, tsf, ttf, rfl, rfl, by (unfold o_tree o_tree_n o_tree_f); (repeat (first | rw [if_pos (by first | (rw [if_pos (by decide)]; assumption) | (rw [if_neg (by decide), if_pos (by decide)]; assumption) | (rw [if_neg (by decide), if_neg (by decide)]; assumption) | assumption | decide | omega | exact o_one_t (by assumption) | (rw [o_one_f (by assumption)]; decide) | exact ⟨by assumption, by assumption⟩ | exact fun h9 => absurd h9.1 (by assumption) | exact fun h9 => absurd h9.2 (by assumption))] | rw [if_neg (by first | (rw [if_pos (by decide)]; assumption) | (rw [if_neg (by decide), if_pos (by decide)]; assumption) | (rw [if_neg (by decide), if_neg (by decide)]; assumption) | assumption | decide | omega | exact o_one_t (by assumption) | (rw [o_one_f (by assumption)]; decide) | exact ⟨by assumption, by assumption⟩ | exact fun h9 => absurd h9.1 (by assumption) | exact fun h9 => absurd h9.2 (by assumption))])); all_goals (first | rfl)⟩
  ·
    obtain ⟨rfl, rfl, hf16⟩ := h3
    show X 0 0 [(m, .inr (7, [.ref a_sky, .ref a_kind, .ref a_more, .ref a_strewn, .int (nI tn), .ref a_treeCell, .ref a_treeSort, .ref a_treeLeaves, .int i_raking, .long l_heaps, .int (nI tz), .ref a_tape, .int (nI wr), .int (nI lw), .ref a_code, .ref a_begins, .int i_made, .int i_at, .int i_from, .int i_sort, .int i_value, .int i_open, .ref a_stack, .ref a_dry, .ref a_wet, .ref a_covered, .ref a_hangs, .ref a_off, .int i_fell, .int i_fellToday, .int i_rotten, .int i_raked, .int i_cost, .ref a_dryGo, .ref a_wetGo, .ref a_keptSky, .int i_imaged, .int (nI itn), .int i_oldRaking, .long l_oldHeaps, .int (nI ilw), .ref a_oldSky, .ref a_oldCells, .ref a_sheetSort, .ref a_sheetSize, .ref a_items, .ref a_spare])), (a_treeCell, .inl (cI, 4, .inl tcf)), (a_treeSort, .inl (cI, 4, .inl tsf)), (a_treeLeaves, .inl (cI, 4, .inl ttf))] [(0, .ref m), (1, .int c), (2, .int s), (3, .int l9)] 4 [.int 0]
    refine x_if_eq C dX8_tree_4 (tgt := 28) rfl (fun _ => ?_) (fun q9 => by first | exact absurd q9 (by decide) | exact absurd (by decide) q9)
    refine x_bipush C dX8_tree_28 (v := (-2)) rfl ?_
    refine E dX8_tree_30 (rfl) ?_
    exact ⟨(-2), tn, tcf, tsf, ttf, rfl, rfl, by (unfold o_tree o_tree_n o_tree_f); (repeat (first | rw [if_pos (by first | (rw [if_pos (by decide)]; assumption) | (rw [if_neg (by decide), if_pos (by decide)]; assumption) | (rw [if_neg (by decide), if_neg (by decide)]; assumption) | assumption | decide | omega | exact o_one_t (by assumption) | (rw [o_one_f (by assumption)]; decide) | exact ⟨by assumption, by assumption⟩ | exact fun h9 => absurd h9.1 (by assumption) | exact fun h9 => absurd h9.2 (by assumption))] | rw [if_neg (by first | (rw [if_pos (by decide)]; assumption) | (rw [if_neg (by decide), if_pos (by decide)]; assumption) | (rw [if_neg (by decide), if_neg (by decide)]; assumption) | assumption | decide | omega | exact o_one_t (by assumption) | (rw [o_one_f (by assumption)]; decide) | exact ⟨by assumption, by assumption⟩ | exact fun h9 => absurd h9.1 (by assumption) | exact fun h9 => absurd h9.2 (by assumption))])); all_goals (first | rfl)⟩
theorem kV_X8_230 : GoodIn GW (wsV RX8 230 yX8_isTree.cls yX8_isTree (Cond.code yX8_isTree cX8_isTree 2 (some .boolean) :: GW)) := r_gV gw_21_4 gw_21_5 gw_21_6 gw_1_5 gw_21_7
theorem hy_X8_isTree : yX8_isTree.cls ≠ "java/lang/invoke/MethodHandle" ∧ yX8_isTree.cls ≠ "java/lang/invoke/VarHandle" ∧ (parseMethodDescriptor yX8_isTree.desc).map (fun d => d.parameters.length) = some 1 := ⟨by decide +kernel, by decide +kernel, by decide +kernel⟩
set_option maxHeartbeats 4000000 in
set_option maxRecDepth 100000 in
theorem c_X8_treeTold (l : Launch) (dG : va_G) (cI cM cW cS : ClassId) (m a_sky a_kind a_more a_strewn a_treeCell a_treeSort a_treeLeaves a_tape a_code a_begins a_stack a_dry a_wet a_covered a_hangs a_off a_dryGo a_wetGo a_keptSky a_oldSky a_oldCells a_sheetSort a_sheetSize a_items a_spare : Nat) (tn tz wr lw itn ilw : Nat) (i_raking i_made i_at i_from i_sort i_value i_open i_fell i_fellToday i_rotten i_raked i_cost i_imaged i_oldRaking : Int32) (l_heaps l_oldHeaps : Int64) (tcf tsf ttf : Nat → Int32) (t wh : Int32) (htn : tn ≤ 4) : rM l yX8_treeTold cX8_treeTold 3 (some .int) ({ frames := 2, cells := 0, slots := 0, locals := 43 } : Room) dG (tY cI cM cW cS) rZ0 [.ref m, .int t, .int wh] [(m, .inr (7, [.ref a_sky, .ref a_kind, .ref a_more, .ref a_strewn, .int (nI tn), .ref a_treeCell, .ref a_treeSort, .ref a_treeLeaves, .int i_raking, .long l_heaps, .int (nI tz), .ref a_tape, .int (nI wr), .int (nI lw), .ref a_code, .ref a_begins, .int i_made, .int i_at, .int i_from, .int i_sort, .int i_value, .int i_open, .ref a_stack, .ref a_dry, .ref a_wet, .ref a_covered, .ref a_hangs, .ref a_off, .int i_fell, .int i_fellToday, .int i_rotten, .int i_raked, .int i_cost, .ref a_dryGo, .ref a_wetGo, .ref a_keptSky, .int i_imaged, .int (nI itn), .int i_oldRaking, .long l_oldHeaps, .int (nI ilw), .ref a_oldSky, .ref a_oldCells, .ref a_sheetSort, .ref a_sheetSize, .ref a_items, .ref a_spare])), (a_treeCell, .inl (cI, 4, .inl tcf)), (a_treeSort, .inl (cI, 4, .inl tsf)), (a_treeLeaves, .inl (cI, 4, .inl ttf))] (fun ov oz => ∃ (r : Int32), ov = some (.int r) ∧ oz = [(m, .inr (7, [.ref a_sky, .ref a_kind, .ref a_more, .ref a_strewn, .int (nI tn), .ref a_treeCell, .ref a_treeSort, .ref a_treeLeaves, .int i_raking, .long l_heaps, .int (nI tz), .ref a_tape, .int (nI wr), .int (nI lw), .ref a_code, .ref a_begins, .int i_made, .int i_at, .int i_from, .int i_sort, .int i_value, .int i_open, .ref a_stack, .ref a_dry, .ref a_wet, .ref a_covered, .ref a_hangs, .ref a_off, .int i_fell, .int i_fellToday, .int i_rotten, .int i_raked, .int i_cost, .ref a_dryGo, .ref a_wetGo, .ref a_keptSky, .int i_imaged, .int (nI itn), .int i_oldRaking, .long l_oldHeaps, .int (nI ilw), .ref a_oldSky, .ref a_oldCells, .ref a_sheetSort, .ref a_sheetSize, .ref a_items, .ref a_spare])), (a_treeCell, .inl (cI, 4, .inl tcf)), (a_treeSort, .inl (cI, 4, .inl tsf)), (a_treeLeaves, .inl (cI, 4, .inl ttf))] ∧ r = o_treeTold tcf tsf ttf tn t wh) := by
  refine rM_ofI rfl (Nat.le_of_ble_eq_true rfl) rfl (fun X C E => ?_)
  show X 0 0 [(m, .inr (7, [.ref a_sky, .ref a_kind, .ref a_more, .ref a_strewn, .int (nI tn), .ref a_treeCell, .ref a_treeSort, .ref a_treeLeaves, .int i_raking, .long l_heaps, .int (nI tz), .ref a_tape, .int (nI wr), .int (nI lw), .ref a_code, .ref a_begins, .int i_made, .int i_at, .int i_from, .int i_sort, .int i_value, .int i_open, .ref a_stack, .ref a_dry, .ref a_wet, .ref a_covered, .ref a_hangs, .ref a_off, .int i_fell, .int i_fellToday, .int i_rotten, .int i_raked, .int i_cost, .ref a_dryGo, .ref a_wetGo, .ref a_keptSky, .int i_imaged, .int (nI itn), .int i_oldRaking, .long l_oldHeaps, .int (nI ilw), .ref a_oldSky, .ref a_oldCells, .ref a_sheetSort, .ref a_sheetSize, .ref a_items, .ref a_spare])), (a_treeCell, .inl (cI, 4, .inl tcf)), (a_treeSort, .inl (cI, 4, .inl tsf)), (a_treeLeaves, .inl (cI, 4, .inl ttf))] [(0, .ref m), (1, .int t), (2, .int wh)] 0 []
  refine x_aload_n C dX8_treeTold_0 0 rfl ?_
  refine x_iload_n C dX8_treeTold_1 1 rfl ?_
  refine x_callV C (As := [.int t]) (st := []) (wc := [(m, .inr (7, [.ref a_sky, .ref a_kind, .ref a_more, .ref a_strewn, .int (nI tn), .ref a_treeCell, .ref a_treeSort, .ref a_treeLeaves, .int i_raking, .long l_heaps, .int (nI tz), .ref a_tape, .int (nI wr), .int (nI lw), .ref a_code, .ref a_begins, .int i_made, .int i_at, .int i_from, .int i_sort, .int i_value, .int i_open, .ref a_stack, .ref a_dry, .ref a_wet, .ref a_covered, .ref a_hangs, .ref a_off, .int i_fell, .int i_fellToday, .int i_rotten, .int i_raked, .int i_cost, .ref a_dryGo, .ref a_wetGo, .ref a_keptSky, .int i_imaged, .int (nI itn), .int i_oldRaking, .long l_oldHeaps, .int (nI ilw), .ref a_oldSky, .ref a_oldCells, .ref a_sheetSort, .ref a_sheetSize, .ref a_items, .ref a_spare]))]) (wr := [(a_treeCell, .inl (cI, 4, .inl tcf)), (a_treeSort, .inl (cI, 4, .inl tsf)), (a_treeLeaves, .inl (cI, 4, .inl ttf))]) (c_X8_isTree l dG cI cM cW cS m a_sky a_kind a_more a_strewn a_treeCell a_treeSort a_treeLeaves a_tape a_code a_begins a_stack a_dry a_wet a_covered a_hangs a_off a_dryGo a_wetGo a_keptSky a_oldSky a_oldCells a_sheetSort a_sheetSize a_items a_spare tn tz wr lw itn ilw i_raking i_made i_at i_from i_sort i_value i_open i_fell i_fellToday i_rotten i_raked i_cost i_imaged i_oldRaking l_heaps l_oldHeaps t ) rZ0_ok (fun _ _ _ _ => trivial) kV_X8_230 ⟨rfl, hy_X8_isTree⟩ ⟨Nat.le_of_ble_eq_true rfl, Nat.le_of_ble_eq_true rfl⟩ ⟨Nat.le_of_ble_eq_true rfl, Nat.le_of_ble_eq_true rfl⟩ dX8_treeTold_2 0 rfl rfl [0] [1, 2, 3] rfl rfl rfl rfl (by decide) rfl (Nat.le_of_ble_eq_true rfl) ?_
  intro v1 w2 h3
  rcases h3 with h3 | h3
  ·
    obtain ⟨rfl, rfl, hf4⟩ := h3
    show X 0 0 [(a_treeCell, .inl (cI, 4, .inl tcf)), (a_treeSort, .inl (cI, 4, .inl tsf)), (a_treeLeaves, .inl (cI, 4, .inl ttf)), (m, .inr (7, [.ref a_sky, .ref a_kind, .ref a_more, .ref a_strewn, .int (nI tn), .ref a_treeCell, .ref a_treeSort, .ref a_treeLeaves, .int i_raking, .long l_heaps, .int (nI tz), .ref a_tape, .int (nI wr), .int (nI lw), .ref a_code, .ref a_begins, .int i_made, .int i_at, .int i_from, .int i_sort, .int i_value, .int i_open, .ref a_stack, .ref a_dry, .ref a_wet, .ref a_covered, .ref a_hangs, .ref a_off, .int i_fell, .int i_fellToday, .int i_rotten, .int i_raked, .int i_cost, .ref a_dryGo, .ref a_wetGo, .ref a_keptSky, .int i_imaged, .int (nI itn), .int i_oldRaking, .long l_oldHeaps, .int (nI ilw), .ref a_oldSky, .ref a_oldCells, .ref a_sheetSort, .ref a_sheetSize, .ref a_items, .ref a_spare]))] [(0, .ref m), (1, .int t), (2, .int wh)] 5 [.int 1]
    have hr := hf4
    obtain ⟨j, hj, rfl⟩ := q_tree htn hf4
    have hnj : o_n (nI j) = j := o_n_nI (by omega)
    refine x_if_ne C dX8_treeTold_5 (tgt := 11) rfl (fun _ => ?_) (fun q9 => by first | exact absurd q9 (by decide) | exact absurd (by decide) q9)
    refine x_iload_n C dX8_treeTold_11 2 rfl ?_
    rcases q_sw wh (0) (2) with q5 | q5
    ·
      refine x_tableOut C dX8_treeTold_12 q5 (tgt := 61) rfl ?_
      have hk9 : ¬ wh = 0 ∧ ¬ wh = 1 ∧ ¬ wh = 2 := by refine ⟨?_, ?_, ?_⟩ <;> (intro h; rw [h] at q5; revert q5; decide)
      obtain ⟨hk0, hk1, hk2⟩ := hk9
      refine x_bipush C dX8_treeTold_61 (v := (-7)) rfl ?_
      refine x_sub C [3, 0, 1, 2] (ws' := [(m, .inr (7, [.ref a_sky, .ref a_kind, .ref a_more, .ref a_strewn, .int (nI tn), .ref a_treeCell, .ref a_treeSort, .ref a_treeLeaves, .int i_raking, .long l_heaps, .int (nI tz), .ref a_tape, .int (nI wr), .int (nI lw), .ref a_code, .ref a_begins, .int i_made, .int i_at, .int i_from, .int i_sort, .int i_value, .int i_open, .ref a_stack, .ref a_dry, .ref a_wet, .ref a_covered, .ref a_hangs, .ref a_off, .int i_fell, .int i_fellToday, .int i_rotten, .int i_raked, .int i_cost, .ref a_dryGo, .ref a_wetGo, .ref a_keptSky, .int i_imaged, .int (nI itn), .int i_oldRaking, .long l_oldHeaps, .int (nI ilw), .ref a_oldSky, .ref a_oldCells, .ref a_sheetSort, .ref a_sheetSize, .ref a_items, .ref a_spare])), (a_treeCell, .inl (cI, 4, .inl tcf)), (a_treeSort, .inl (cI, 4, .inl tsf)), (a_treeLeaves, .inl (cI, 4, .inl ttf))]) rfl rfl ?_
      refine E dX8_treeTold_63 (rfl) ?_
      exact ⟨(-7), rfl, rfl, by (unfold o_treeTold); (try simp only [hnj]); (repeat (first | rw [if_pos (by first | (rw [if_pos (by decide)]; assumption) | (rw [if_neg (by decide), if_pos (by decide)]; assumption) | (rw [if_neg (by decide), if_neg (by decide)]; assumption) | assumption | decide | omega | exact o_one_t (by assumption) | (rw [o_one_f (by assumption)]; decide) | exact ⟨by assumption, by assumption⟩ | exact fun h9 => absurd h9.1 (by assumption) | exact fun h9 => absurd h9.2 (by assumption))] | rw [if_neg (by first | (rw [if_pos (by decide)]; assumption) | (rw [if_neg (by decide), if_pos (by decide)]; assumption) | (rw [if_neg (by decide), if_neg (by decide)]; assumption) | assumption | decide | omega | exact o_one_t (by assumption) | (rw [o_one_f (by assumption)]; decide) | exact ⟨by assumption, by assumption⟩ | exact fun h9 => absurd h9.1 (by assumption) | exact fun h9 => absurd h9.2 (by assumption))])); all_goals (first | rfl)⟩
    ·
      rcases q_sw_0_2 q5 with q5 | q5 | q5
      ·
        have q5 : wh = 0 := q5
        refine x_tableIn C dX8_treeTold_12 (by rw [q5]; decide) (by rw [q5]; decide) (off := 28) (tgt := 40) (by rw [q5]; rfl) rfl ?_
        refine x_aload_n C dX8_treeTold_40 0 rfl ?_
        refine x_get C inlX8 rfl 5 (by decide) gw_10_22 dX8_treeTold_41 3 rfl rfl ?_
        refine x_iload_n C dX8_treeTold_44 1 rfl ?_
        refine x_iaload C 0 rfl dX8_treeTold_45 j (q_cl rfl (by omega)) (q_ix rfl (by omega) (by omega)) 0 rfl ?_
        refine x_sub C [3, 0, 1, 2] (ws' := [(m, .inr (7, [.ref a_sky, .ref a_kind, .ref a_more, .ref a_strewn, .int (nI tn), .ref a_treeCell, .ref a_treeSort, .ref a_treeLeaves, .int i_raking, .long l_heaps, .int (nI tz), .ref a_tape, .int (nI wr), .int (nI lw), .ref a_code, .ref a_begins, .int i_made, .int i_at, .int i_from, .int i_sort, .int i_value, .int i_open, .ref a_stack, .ref a_dry, .ref a_wet, .ref a_covered, .ref a_hangs, .ref a_off, .int i_fell, .int i_fellToday, .int i_rotten, .int i_raked, .int i_cost, .ref a_dryGo, .ref a_wetGo, .ref a_keptSky, .int i_imaged, .int (nI itn), .int i_oldRaking, .long l_oldHeaps, .int (nI ilw), .ref a_oldSky, .ref a_oldCells, .ref a_sheetSort, .ref a_sheetSize, .ref a_items, .ref a_spare])), (a_treeCell, .inl (cI, 4, .inl tcf)), (a_treeSort, .inl (cI, 4, .inl tsf)), (a_treeLeaves, .inl (cI, 4, .inl ttf))]) rfl rfl ?_
        refine E dX8_treeTold_46 (rfl) ?_
        exact ⟨(tcf j), rfl, rfl, by (unfold o_treeTold); (try simp only [hnj]); (repeat (first | rw [if_pos (by first | (rw [if_pos (by decide)]; assumption) | (rw [if_neg (by decide), if_pos (by decide)]; assumption) | (rw [if_neg (by decide), if_neg (by decide)]; assumption) | assumption | decide | omega | exact o_one_t (by assumption) | (rw [o_one_f (by assumption)]; decide) | exact ⟨by assumption, by assumption⟩ | exact fun h9 => absurd h9.1 (by assumption) | exact fun h9 => absurd h9.2 (by assumption))] | rw [if_neg (by first | (rw [if_pos (by decide)]; assumption) | (rw [if_neg (by decide), if_pos (by decide)]; assumption) | (rw [if_neg (by decide), if_neg (by decide)]; assumption) | assumption | decide | omega | exact o_one_t (by assumption) | (rw [o_one_f (by assumption)]; decide) | exact ⟨by assumption, by assumption⟩ | exact fun h9 => absurd h9.1 (by assumption) | exact fun h9 => absurd h9.2 (by assumption))])); all_goals (first | rfl)⟩
      ·
        have q5 : wh = 1 := q5
        refine x_tableIn C dX8_treeTold_12 (by rw [q5]; decide) (by rw [q5]; decide) (off := 35) (tgt := 47) (by rw [q5]; rfl) rfl ?_
        have hk0 : ¬ wh = 0 := by rw [q5]; decide
        refine x_aload_n C dX8_treeTold_47 0 rfl ?_
        refine x_get C inlX8 rfl 6 (by decide) gw_10_23 dX8_treeTold_48 3 rfl rfl ?_
        refine x_iload_n C dX8_treeTold_51 1 rfl ?_
        refine x_iaload C 0 rfl dX8_treeTold_52 j (q_cl rfl (by omega)) (q_ix rfl (by omega) (by omega)) 1 rfl ?_
        refine x_sub C [3, 0, 1, 2] (ws' := [(m, .inr (7, [.ref a_sky, .ref a_kind, .ref a_more, .ref a_strewn, .int (nI tn), .ref a_treeCell, .ref a_treeSort, .ref a_treeLeaves, .int i_raking, .long l_heaps, .int (nI tz), .ref a_tape, .int (nI wr), .int (nI lw), .ref a_code, .ref a_begins, .int i_made, .int i_at, .int i_from, .int i_sort, .int i_value, .int i_open, .ref a_stack, .ref a_dry, .ref a_wet, .ref a_covered, .ref a_hangs, .ref a_off, .int i_fell, .int i_fellToday, .int i_rotten, .int i_raked, .int i_cost, .ref a_dryGo, .ref a_wetGo, .ref a_keptSky, .int i_imaged, .int (nI itn), .int i_oldRaking, .long l_oldHeaps, .int (nI ilw), .ref a_oldSky, .ref a_oldCells, .ref a_sheetSort, .ref a_sheetSize, .ref a_items, .ref a_spare])), (a_treeCell, .inl (cI, 4, .inl tcf)), (a_treeSort, .inl (cI, 4, .inl tsf)), (a_treeLeaves, .inl (cI, 4, .inl ttf))]) rfl rfl ?_
        refine E dX8_treeTold_53 (rfl) ?_
        exact ⟨(tsf j), rfl, rfl, by (unfold o_treeTold); (try simp only [hnj]); (repeat (first | rw [if_pos (by first | (rw [if_pos (by decide)]; assumption) | (rw [if_neg (by decide), if_pos (by decide)]; assumption) | (rw [if_neg (by decide), if_neg (by decide)]; assumption) | assumption | decide | omega | exact o_one_t (by assumption) | (rw [o_one_f (by assumption)]; decide) | exact ⟨by assumption, by assumption⟩ | exact fun h9 => absurd h9.1 (by assumption) | exact fun h9 => absurd h9.2 (by assumption))] | rw [if_neg (by first | (rw [if_pos (by decide)]; assumption) | (rw [if_neg (by decide), if_pos (by decide)]; assumption) | (rw [if_neg (by decide), if_neg (by decide)]; assumption) | assumption | decide | omega | exact o_one_t (by assumption) | (rw [o_one_f (by assumption)]; decide) | exact ⟨by assumption, by assumption⟩ | exact fun h9 => absurd h9.1 (by assumption) | exact fun h9 => absurd h9.2 (by assumption))])); all_goals (first | rfl)⟩
      ·
        have q5 : wh = 2 := q5
        refine x_tableIn C dX8_treeTold_12 (by rw [q5]; decide) (by rw [q5]; decide) (off := 42) (tgt := 54) (by rw [q5]; rfl) rfl ?_
        have hk0 : ¬ wh = 0 := by rw [q5]; decide
        have hk1 : ¬ wh = 1 := by rw [q5]; decide
        refine x_aload_n C dX8_treeTold_54 0 rfl ?_
        refine x_get C inlX8 rfl 7 (by decide) gw_11_0 dX8_treeTold_55 3 rfl rfl ?_
        refine x_iload_n C dX8_treeTold_58 1 rfl ?_
        refine x_iaload C 0 rfl dX8_treeTold_59 j (q_cl rfl (by omega)) (q_ix rfl (by omega) (by omega)) 2 rfl ?_
        refine x_sub C [3, 0, 1, 2] (ws' := [(m, .inr (7, [.ref a_sky, .ref a_kind, .ref a_more, .ref a_strewn, .int (nI tn), .ref a_treeCell, .ref a_treeSort, .ref a_treeLeaves, .int i_raking, .long l_heaps, .int (nI tz), .ref a_tape, .int (nI wr), .int (nI lw), .ref a_code, .ref a_begins, .int i_made, .int i_at, .int i_from, .int i_sort, .int i_value, .int i_open, .ref a_stack, .ref a_dry, .ref a_wet, .ref a_covered, .ref a_hangs, .ref a_off, .int i_fell, .int i_fellToday, .int i_rotten, .int i_raked, .int i_cost, .ref a_dryGo, .ref a_wetGo, .ref a_keptSky, .int i_imaged, .int (nI itn), .int i_oldRaking, .long l_oldHeaps, .int (nI ilw), .ref a_oldSky, .ref a_oldCells, .ref a_sheetSort, .ref a_sheetSize, .ref a_items, .ref a_spare])), (a_treeCell, .inl (cI, 4, .inl tcf)), (a_treeSort, .inl (cI, 4, .inl tsf)), (a_treeLeaves, .inl (cI, 4, .inl ttf))]) rfl rfl ?_
        refine E dX8_treeTold_60 (rfl) ?_
        exact ⟨(ttf j), rfl, rfl, by (unfold o_treeTold); (try simp only [hnj]); (repeat (first | rw [if_pos (by first | (rw [if_pos (by decide)]; assumption) | (rw [if_neg (by decide), if_pos (by decide)]; assumption) | (rw [if_neg (by decide), if_neg (by decide)]; assumption) | assumption | decide | omega | exact o_one_t (by assumption) | (rw [o_one_f (by assumption)]; decide) | exact ⟨by assumption, by assumption⟩ | exact fun h9 => absurd h9.1 (by assumption) | exact fun h9 => absurd h9.2 (by assumption))] | rw [if_neg (by first | (rw [if_pos (by decide)]; assumption) | (rw [if_neg (by decide), if_pos (by decide)]; assumption) | (rw [if_neg (by decide), if_neg (by decide)]; assumption) | assumption | decide | omega | exact o_one_t (by assumption) | (rw [o_one_f (by assumption)]; decide) | exact ⟨by assumption, by assumption⟩ | exact fun h9 => absurd h9.1 (by assumption) | exact fun h9 => absurd h9.2 (by assumption))])); all_goals (first | rfl)⟩
  ·
    obtain ⟨rfl, rfl, hf6⟩ := h3
    show X 0 0 [(a_treeCell, .inl (cI, 4, .inl tcf)), (a_treeSort, .inl (cI, 4, .inl tsf)), (a_treeLeaves, .inl (cI, 4, .inl ttf)), (m, .inr (7, [.ref a_sky, .ref a_kind, .ref a_more, .ref a_strewn, .int (nI tn), .ref a_treeCell, .ref a_treeSort, .ref a_treeLeaves, .int i_raking, .long l_heaps, .int (nI tz), .ref a_tape, .int (nI wr), .int (nI lw), .ref a_code, .ref a_begins, .int i_made, .int i_at, .int i_from, .int i_sort, .int i_value, .int i_open, .ref a_stack, .ref a_dry, .ref a_wet, .ref a_covered, .ref a_hangs, .ref a_off, .int i_fell, .int i_fellToday, .int i_rotten, .int i_raked, .int i_cost, .ref a_dryGo, .ref a_wetGo, .ref a_keptSky, .int i_imaged, .int (nI itn), .int i_oldRaking, .long l_oldHeaps, .int (nI ilw), .ref a_oldSky, .ref a_oldCells, .ref a_sheetSort, .ref a_sheetSize, .ref a_items, .ref a_spare]))] [(0, .ref m), (1, .int t), (2, .int wh)] 5 [.int 0]
    refine x_if_ne C dX8_treeTold_5 (tgt := 11) rfl (fun q9 => absurd q9 (by decide)) (fun _ => ?_)
    refine x_bipush C dX8_treeTold_8 (v := (-5)) rfl ?_
    refine x_sub C [3, 0, 1, 2] (ws' := [(m, .inr (7, [.ref a_sky, .ref a_kind, .ref a_more, .ref a_strewn, .int (nI tn), .ref a_treeCell, .ref a_treeSort, .ref a_treeLeaves, .int i_raking, .long l_heaps, .int (nI tz), .ref a_tape, .int (nI wr), .int (nI lw), .ref a_code, .ref a_begins, .int i_made, .int i_at, .int i_from, .int i_sort, .int i_value, .int i_open, .ref a_stack, .ref a_dry, .ref a_wet, .ref a_covered, .ref a_hangs, .ref a_off, .int i_fell, .int i_fellToday, .int i_rotten, .int i_raked, .int i_cost, .ref a_dryGo, .ref a_wetGo, .ref a_keptSky, .int i_imaged, .int (nI itn), .int i_oldRaking, .long l_oldHeaps, .int (nI ilw), .ref a_oldSky, .ref a_oldCells, .ref a_sheetSort, .ref a_sheetSize, .ref a_items, .ref a_spare])), (a_treeCell, .inl (cI, 4, .inl tcf)), (a_treeSort, .inl (cI, 4, .inl tsf)), (a_treeLeaves, .inl (cI, 4, .inl ttf))]) rfl rfl ?_
    refine E dX8_treeTold_10 (rfl) ?_
    exact ⟨(-5), rfl, rfl, by (unfold o_treeTold); (repeat (first | rw [if_pos (by first | (rw [if_pos (by decide)]; assumption) | (rw [if_neg (by decide), if_pos (by decide)]; assumption) | (rw [if_neg (by decide), if_neg (by decide)]; assumption) | assumption | decide | omega | exact o_one_t (by assumption) | (rw [o_one_f (by assumption)]; decide) | exact ⟨by assumption, by assumption⟩ | exact fun h9 => absurd h9.1 (by assumption) | exact fun h9 => absurd h9.2 (by assumption))] | rw [if_neg (by first | (rw [if_pos (by decide)]; assumption) | (rw [if_neg (by decide), if_pos (by decide)]; assumption) | (rw [if_neg (by decide), if_neg (by decide)]; assumption) | assumption | decide | omega | exact o_one_t (by assumption) | (rw [o_one_f (by assumption)]; decide) | exact ⟨by assumption, by assumption⟩ | exact fun h9 => absurd h9.1 (by assumption) | exact fun h9 => absurd h9.2 (by assumption))])); all_goals (first | rfl)⟩
set_option maxHeartbeats 4000000 in
set_option maxRecDepth 100000 in
theorem c_X8_fell (l : Launch) (dG : va_G) (cI cM cW cS : ClassId) (m a_sky a_kind a_more a_strewn a_treeCell a_treeSort a_treeLeaves a_tape a_code a_begins a_stack a_dry a_wet a_covered a_hangs a_off a_dryGo a_wetGo a_keptSky a_oldSky a_oldCells a_sheetSort a_sheetSize a_items a_spare : Nat) (tn tz wr lw itn ilw : Nat) (i_raking i_made i_at i_from i_sort i_value i_open i_fell i_fellToday i_rotten i_raked i_cost i_imaged i_oldRaking : Int32) (l_heaps l_oldHeaps : Int64)  (htn : tn ≤ 4) (hpn : itn ≤ 4) : rM l yX8_fell cX8_fell 1 (some .int) ({ frames := 0, cells := 0, slots := 0, locals := 0 } : Room) dG (tY cI cM cW cS) rZ0 [.ref m] [(m, .inr (7, [.ref a_sky, .ref a_kind, .ref a_more, .ref a_strewn, .int (nI tn), .ref a_treeCell, .ref a_treeSort, .ref a_treeLeaves, .int i_raking, .long l_heaps, .int (nI tz), .ref a_tape, .int (nI wr), .int (nI lw), .ref a_code, .ref a_begins, .int i_made, .int i_at, .int i_from, .int i_sort, .int i_value, .int i_open, .ref a_stack, .ref a_dry, .ref a_wet, .ref a_covered, .ref a_hangs, .ref a_off, .int i_fell, .int i_fellToday, .int i_rotten, .int i_raked, .int i_cost, .ref a_dryGo, .ref a_wetGo, .ref a_keptSky, .int i_imaged, .int (nI itn), .int i_oldRaking, .long l_oldHeaps, .int (nI ilw), .ref a_oldSky, .ref a_oldCells, .ref a_sheetSort, .ref a_sheetSize, .ref a_items, .ref a_spare]))] (fun ov oz => ∃ (r : Int32) (n' : Nat) (h' : Int32), ov = some (.int r) ∧ oz = [(m, .inr (7, [.ref a_sky, .ref a_kind, .ref a_more, .ref a_strewn, .int (nI n'), .ref a_treeCell, .ref a_treeSort, .ref a_treeLeaves, .int i_raking, .long l_heaps, .int (nI tz), .ref a_tape, .int (nI wr), .int (nI lw), .ref a_code, .ref a_begins, .int i_made, .int i_at, .int i_from, .int i_sort, .int i_value, .int i_open, .ref a_stack, .ref a_dry, .ref a_wet, .ref a_covered, .ref a_hangs, .ref a_off, .int i_fell, .int i_fellToday, .int i_rotten, .int i_raked, .int i_cost, .ref a_dryGo, .ref a_wetGo, .ref a_keptSky, .int h', .int (nI itn), .int i_oldRaking, .long l_oldHeaps, .int (nI ilw), .ref a_oldSky, .ref a_oldCells, .ref a_sheetSort, .ref a_sheetSize, .ref a_items, .ref a_spare]))] ∧ (r, n', h') = (o_fell tn, o_fell_n tn, o_fell_h tn itn i_imaged)) := by
  refine rM_ofI rfl (Nat.le_of_ble_eq_true rfl) rfl (fun X C E => ?_)
  show X 0 0 [(m, .inr (7, [.ref a_sky, .ref a_kind, .ref a_more, .ref a_strewn, .int (nI tn), .ref a_treeCell, .ref a_treeSort, .ref a_treeLeaves, .int i_raking, .long l_heaps, .int (nI tz), .ref a_tape, .int (nI wr), .int (nI lw), .ref a_code, .ref a_begins, .int i_made, .int i_at, .int i_from, .int i_sort, .int i_value, .int i_open, .ref a_stack, .ref a_dry, .ref a_wet, .ref a_covered, .ref a_hangs, .ref a_off, .int i_fell, .int i_fellToday, .int i_rotten, .int i_raked, .int i_cost, .ref a_dryGo, .ref a_wetGo, .ref a_keptSky, .int i_imaged, .int (nI itn), .int i_oldRaking, .long l_oldHeaps, .int (nI ilw), .ref a_oldSky, .ref a_oldCells, .ref a_sheetSort, .ref a_sheetSize, .ref a_items, .ref a_spare]))] [(0, .ref m)] 0 []
  refine x_aload_n C dX8_fell_0 0 rfl ?_
  refine x_get C inlX8 rfl 4 (by decide) gw_16_4 dX8_fell_1 0 rfl rfl ?_
  refine x_if_ne C dX8_fell_4 (tgt := 10) rfl (fun c1 => ?_) (fun c1 => ?_)
  ·
    have c1 : tn ≠ 0 := q_ne_t rfl (rfl : (0 : Int32) = nI 0) (by omega) (by omega) c1
    refine x_aload_n C dX8_fell_10 0 rfl ?_
    refine x_get C inlX8 rfl 37 (by decide) gw_21_17 dX8_fell_11 0 rfl rfl ?_
    refine x_aload_n C dX8_fell_14 0 rfl ?_
    refine x_get C inlX8 rfl 4 (by decide) gw_16_4 dX8_fell_15 0 rfl rfl ?_
    refine x_icmp_lt C dX8_fell_18 (tgt := 26) rfl (fun c2 => ?_) (fun c2 => ?_)
    ·
      have c2 : itn < tn := q_lt_t rfl rfl (by omega) (by omega) c2
      refine x_aload_n C dX8_fell_26 0 rfl ?_
      refine x_dup C dX8_fell_27 rfl ?_
      refine x_get C inlX8 rfl 4 (by decide) gw_16_4 dX8_fell_28 0 rfl rfl ?_
      refine x_iconst C dX8_fell_31 (v := 1) rfl ?_
      refine x_isub C dX8_fell_32 ?_
      refine x_dup_x1 C dX8_fell_33 rfl rfl ?_
      refine x_topi C (nI (tn - 1)) (q_isub (a := tn) (b := 1) rfl (rfl : (1 : Int32) = nI 1) (by omega)) ?_
      refine x_put C inlX8 rfl tyX8 tyX8_ok nmX8 4 (by decide) gw_16_4 rfl dX8_fell_34 0 rfl (rfl) rfl (Nat.le_of_ble_eq_true rfl) ?_
      show X _ _ [(m, .inr (7, [.ref a_sky, .ref a_kind, .ref a_more, .ref a_strewn, .int (nI (tn - 1)), .ref a_treeCell, .ref a_treeSort, .ref a_treeLeaves, .int i_raking, .long l_heaps, .int (nI tz), .ref a_tape, .int (nI wr), .int (nI lw), .ref a_code, .ref a_begins, .int i_made, .int i_at, .int i_from, .int i_sort, .int i_value, .int i_open, .ref a_stack, .ref a_dry, .ref a_wet, .ref a_covered, .ref a_hangs, .ref a_off, .int i_fell, .int i_fellToday, .int i_rotten, .int i_raked, .int i_cost, .ref a_dryGo, .ref a_wetGo, .ref a_keptSky, .int i_imaged, .int (nI itn), .int i_oldRaking, .long l_oldHeaps, .int (nI ilw), .ref a_oldSky, .ref a_oldCells, .ref a_sheetSort, .ref a_sheetSize, .ref a_items, .ref a_spare]))] _ _ _
      refine E dX8_fell_37 (rfl) ?_
      exact ⟨((nI tn) - 1), (tn - 1), i_imaged, rfl, rfl, by (unfold o_fell o_fell_n o_fell_h); (repeat (first | rw [if_pos (by first | (rw [if_pos (by decide)]; assumption) | (rw [if_neg (by decide), if_pos (by decide)]; assumption) | (rw [if_neg (by decide), if_neg (by decide)]; assumption) | assumption | decide | omega | exact o_one_t (by assumption) | (rw [o_one_f (by assumption)]; decide) | exact ⟨by assumption, by assumption⟩ | exact fun h9 => absurd h9.1 (by assumption) | exact fun h9 => absurd h9.2 (by assumption))] | rw [if_neg (by first | (rw [if_pos (by decide)]; assumption) | (rw [if_neg (by decide), if_pos (by decide)]; assumption) | (rw [if_neg (by decide), if_neg (by decide)]; assumption) | assumption | decide | omega | exact o_one_t (by assumption) | (rw [o_one_f (by assumption)]; decide) | exact ⟨by assumption, by assumption⟩ | exact fun h9 => absurd h9.1 (by assumption) | exact fun h9 => absurd h9.2 (by assumption))])); all_goals (first | rfl | (rw [show nI tn - 1 = nI (tn - 1) from q_isub rfl rfl (by omega)]))⟩
    ·
      have c2 : itn ≥ tn := q_lt_f rfl rfl (by omega) (by omega) c2
      refine x_aload_n C dX8_fell_21 0 rfl ?_
      refine x_iconst C dX8_fell_22 (v := 0) rfl ?_
      refine x_put C inlX8 rfl tyX8 tyX8_ok nmX8 36 (by decide) gw_21_18 rfl dX8_fell_23 0 rfl (rfl) rfl (Nat.le_of_ble_eq_true rfl) ?_
      show X _ _ [(m, .inr (7, [.ref a_sky, .ref a_kind, .ref a_more, .ref a_strewn, .int (nI tn), .ref a_treeCell, .ref a_treeSort, .ref a_treeLeaves, .int i_raking, .long l_heaps, .int (nI tz), .ref a_tape, .int (nI wr), .int (nI lw), .ref a_code, .ref a_begins, .int i_made, .int i_at, .int i_from, .int i_sort, .int i_value, .int i_open, .ref a_stack, .ref a_dry, .ref a_wet, .ref a_covered, .ref a_hangs, .ref a_off, .int i_fell, .int i_fellToday, .int i_rotten, .int i_raked, .int i_cost, .ref a_dryGo, .ref a_wetGo, .ref a_keptSky, .int 0, .int (nI itn), .int i_oldRaking, .long l_oldHeaps, .int (nI ilw), .ref a_oldSky, .ref a_oldCells, .ref a_sheetSort, .ref a_sheetSize, .ref a_items, .ref a_spare]))] _ _ _
      refine x_aload_n C dX8_fell_26 0 rfl ?_
      refine x_dup C dX8_fell_27 rfl ?_
      refine x_get C inlX8 rfl 4 (by decide) gw_16_4 dX8_fell_28 0 rfl rfl ?_
      refine x_iconst C dX8_fell_31 (v := 1) rfl ?_
      refine x_isub C dX8_fell_32 ?_
      refine x_dup_x1 C dX8_fell_33 rfl rfl ?_
      refine x_topi C (nI (tn - 1)) (q_isub (a := tn) (b := 1) rfl (rfl : (1 : Int32) = nI 1) (by omega)) ?_
      refine x_put C inlX8 rfl tyX8 tyX8_ok nmX8 4 (by decide) gw_16_4 rfl dX8_fell_34 0 rfl (rfl) rfl (Nat.le_of_ble_eq_true rfl) ?_
      show X _ _ [(m, .inr (7, [.ref a_sky, .ref a_kind, .ref a_more, .ref a_strewn, .int (nI (tn - 1)), .ref a_treeCell, .ref a_treeSort, .ref a_treeLeaves, .int i_raking, .long l_heaps, .int (nI tz), .ref a_tape, .int (nI wr), .int (nI lw), .ref a_code, .ref a_begins, .int i_made, .int i_at, .int i_from, .int i_sort, .int i_value, .int i_open, .ref a_stack, .ref a_dry, .ref a_wet, .ref a_covered, .ref a_hangs, .ref a_off, .int i_fell, .int i_fellToday, .int i_rotten, .int i_raked, .int i_cost, .ref a_dryGo, .ref a_wetGo, .ref a_keptSky, .int 0, .int (nI itn), .int i_oldRaking, .long l_oldHeaps, .int (nI ilw), .ref a_oldSky, .ref a_oldCells, .ref a_sheetSort, .ref a_sheetSize, .ref a_items, .ref a_spare]))] _ _ _
      show X _ _ _ _ 37 _
      refine E dX8_fell_37 (rfl) ?_
      exact ⟨((nI tn) - 1), (tn - 1), 0, rfl, rfl, by (unfold o_fell o_fell_n o_fell_h); (repeat (first | rw [if_pos (by first | (rw [if_pos (by decide)]; assumption) | (rw [if_neg (by decide), if_pos (by decide)]; assumption) | (rw [if_neg (by decide), if_neg (by decide)]; assumption) | assumption | decide | omega | exact o_one_t (by assumption) | (rw [o_one_f (by assumption)]; decide) | exact ⟨by assumption, by assumption⟩ | exact fun h9 => absurd h9.1 (by assumption) | exact fun h9 => absurd h9.2 (by assumption))] | rw [if_neg (by first | (rw [if_pos (by decide)]; assumption) | (rw [if_neg (by decide), if_pos (by decide)]; assumption) | (rw [if_neg (by decide), if_neg (by decide)]; assumption) | assumption | decide | omega | exact o_one_t (by assumption) | (rw [o_one_f (by assumption)]; decide) | exact ⟨by assumption, by assumption⟩ | exact fun h9 => absurd h9.1 (by assumption) | exact fun h9 => absurd h9.2 (by assumption))])); all_goals (first | rfl | (rw [show nI tn - 1 = nI (tn - 1) from q_isub rfl rfl (by omega)]))⟩
  ·
    have c1 : tn = 0 := q_ne_f rfl (rfl : (0 : Int32) = nI 0) (by omega) (by omega) c1
    refine x_bipush C dX8_fell_7 (v := (-3)) rfl ?_
    refine E dX8_fell_9 (rfl) ?_
    exact ⟨(-3), tn, i_imaged, rfl, rfl, by (unfold o_fell o_fell_n o_fell_h); (repeat (first | rw [if_pos (by first | (rw [if_pos (by decide)]; assumption) | (rw [if_neg (by decide), if_pos (by decide)]; assumption) | (rw [if_neg (by decide), if_neg (by decide)]; assumption) | assumption | decide | omega | exact o_one_t (by assumption) | (rw [o_one_f (by assumption)]; decide) | exact ⟨by assumption, by assumption⟩ | exact fun h9 => absurd h9.1 (by assumption) | exact fun h9 => absurd h9.2 (by assumption))] | rw [if_neg (by first | (rw [if_pos (by decide)]; assumption) | (rw [if_neg (by decide), if_pos (by decide)]; assumption) | (rw [if_neg (by decide), if_neg (by decide)]; assumption) | assumption | decide | omega | exact o_one_t (by assumption) | (rw [o_one_f (by assumption)]; decide) | exact ⟨by assumption, by assumption⟩ | exact fun h9 => absurd h9.1 (by assumption) | exact fun h9 => absurd h9.2 (by assumption))])); all_goals (first | rfl | (rw [show nI tn - 1 = nI (tn - 1) from q_isub rfl rfl (by omega)]))⟩
set_option maxHeartbeats 4000000 in
set_option maxRecDepth 100000 in
theorem c_X8_strew (l : Launch) (dG : va_G) (cI cM cW cS : ClassId) (m a_sky a_kind a_more a_strewn a_treeCell a_treeSort a_treeLeaves a_tape a_code a_begins a_stack a_dry a_wet a_covered a_hangs a_off a_dryGo a_wetGo a_keptSky a_oldSky a_oldCells a_sheetSort a_sheetSize a_items a_spare : Nat) (tn tz wr lw itn ilw : Nat) (i_raking i_made i_at i_from i_sort i_value i_open i_fell i_fellToday i_rotten i_raked i_cost i_imaged i_oldRaking : Int32) (l_heaps l_oldHeaps : Int64) (lf : Nat → Int32) (c v : Int32) : rM l yX8_strew cX8_strew 4 (some .int) ({ frames := 2, cells := 0, slots := 0, locals := 42 } : Room) dG (tY cI cM cW cS) rZ0 [.ref m, .int c, .int v] [(m, .inr (7, [.ref a_sky, .ref a_kind, .ref a_more, .ref a_strewn, .int (nI tn), .ref a_treeCell, .ref a_treeSort, .ref a_treeLeaves, .int i_raking, .long l_heaps, .int (nI tz), .ref a_tape, .int (nI wr), .int (nI lw), .ref a_code, .ref a_begins, .int i_made, .int i_at, .int i_from, .int i_sort, .int i_value, .int i_open, .ref a_stack, .ref a_dry, .ref a_wet, .ref a_covered, .ref a_hangs, .ref a_off, .int i_fell, .int i_fellToday, .int i_rotten, .int i_raked, .int i_cost, .ref a_dryGo, .ref a_wetGo, .ref a_keptSky, .int i_imaged, .int (nI itn), .int i_oldRaking, .long l_oldHeaps, .int (nI ilw), .ref a_oldSky, .ref a_oldCells, .ref a_sheetSort, .ref a_sheetSize, .ref a_items, .ref a_spare])), (a_strewn, .inl (cI, 36, .inl lf))] (fun ov oz => ∃ (r : Int32) (f' : Nat → Int32), ov = some (.int r) ∧ oz = [(m, .inr (7, [.ref a_sky, .ref a_kind, .ref a_more, .ref a_strewn, .int (nI tn), .ref a_treeCell, .ref a_treeSort, .ref a_treeLeaves, .int i_raking, .long l_heaps, .int (nI tz), .ref a_tape, .int (nI wr), .int (nI lw), .ref a_code, .ref a_begins, .int i_made, .int i_at, .int i_from, .int i_sort, .int i_value, .int i_open, .ref a_stack, .ref a_dry, .ref a_wet, .ref a_covered, .ref a_hangs, .ref a_off, .int i_fell, .int i_fellToday, .int i_rotten, .int i_raked, .int i_cost, .ref a_dryGo, .ref a_wetGo, .ref a_keptSky, .int i_imaged, .int (nI itn), .int i_oldRaking, .long l_oldHeaps, .int (nI ilw), .ref a_oldSky, .ref a_oldCells, .ref a_sheetSort, .ref a_sheetSize, .ref a_items, .ref a_spare])), (a_strewn, .inl (cI, 36, .inl f'))] ∧ (r, f') = (o_strew lf c v, o_strew_f lf c v)) := by
  refine rM_ofI rfl (Nat.le_of_ble_eq_true rfl) rfl (fun X C E => ?_)
  show X 0 0 [(m, .inr (7, [.ref a_sky, .ref a_kind, .ref a_more, .ref a_strewn, .int (nI tn), .ref a_treeCell, .ref a_treeSort, .ref a_treeLeaves, .int i_raking, .long l_heaps, .int (nI tz), .ref a_tape, .int (nI wr), .int (nI lw), .ref a_code, .ref a_begins, .int i_made, .int i_at, .int i_from, .int i_sort, .int i_value, .int i_open, .ref a_stack, .ref a_dry, .ref a_wet, .ref a_covered, .ref a_hangs, .ref a_off, .int i_fell, .int i_fellToday, .int i_rotten, .int i_raked, .int i_cost, .ref a_dryGo, .ref a_wetGo, .ref a_keptSky, .int i_imaged, .int (nI itn), .int i_oldRaking, .long l_oldHeaps, .int (nI ilw), .ref a_oldSky, .ref a_oldCells, .ref a_sheetSort, .ref a_sheetSize, .ref a_items, .ref a_spare])), (a_strewn, .inl (cI, 36, .inl lf))] [(0, .ref m), (1, .int c), (2, .int v)] 0 []
  refine x_iload_n C dX8_strew_0 1 rfl ?_
  refine x_callS C (As := [.int c]) (st := []) (wc := []) (wr := [(m, .inr (7, [.ref a_sky, .ref a_kind, .ref a_more, .ref a_strewn, .int (nI tn), .ref a_treeCell, .ref a_treeSort, .ref a_treeLeaves, .int i_raking, .long l_heaps, .int (nI tz), .ref a_tape, .int (nI wr), .int (nI lw), .ref a_code, .ref a_begins, .int i_made, .int i_at, .int i_from, .int i_sort, .int i_value, .int i_open, .ref a_stack, .ref a_dry, .ref a_wet, .ref a_covered, .ref a_hangs, .ref a_off, .int i_fell, .int i_fellToday, .int i_rotten, .int i_raked, .int i_cost, .ref a_dryGo, .ref a_wetGo, .ref a_keptSky, .int i_imaged, .int (nI itn), .int i_oldRaking, .long l_oldHeaps, .int (nI ilw), .ref a_oldSky, .ref a_oldCells, .ref a_sheetSort, .ref a_sheetSize, .ref a_items, .ref a_spare])), (a_strewn, .inl (cI, 36, .inl lf))]) (c_X8_isCell l dG cI cM cW cS c ) rZ0_ok (fun _ _ _ _ => trivial) kS_X8_223 hy_X8_isCell ⟨Nat.le_of_ble_eq_true rfl, Nat.le_of_ble_eq_true rfl⟩ ⟨Nat.le_of_ble_eq_true rfl, Nat.le_of_ble_eq_true rfl⟩ dX8_strew_1 [] [0, 1] rfl rfl rfl rfl (by decide) rfl (Nat.le_of_ble_eq_true rfl) ?_
  intro v1 w2 h3
  rcases h3 with h3 | h3
  ·
    obtain ⟨rfl, rfl, hf4⟩ := h3
    show X 0 0 [(m, .inr (7, [.ref a_sky, .ref a_kind, .ref a_more, .ref a_strewn, .int (nI tn), .ref a_treeCell, .ref a_treeSort, .ref a_treeLeaves, .int i_raking, .long l_heaps, .int (nI tz), .ref a_tape, .int (nI wr), .int (nI lw), .ref a_code, .ref a_begins, .int i_made, .int i_at, .int i_from, .int i_sort, .int i_value, .int i_open, .ref a_stack, .ref a_dry, .ref a_wet, .ref a_covered, .ref a_hangs, .ref a_off, .int i_fell, .int i_fellToday, .int i_rotten, .int i_raked, .int i_cost, .ref a_dryGo, .ref a_wetGo, .ref a_keptSky, .int i_imaged, .int (nI itn), .int i_oldRaking, .long l_oldHeaps, .int (nI ilw), .ref a_oldSky, .ref a_oldCells, .ref a_sheetSort, .ref a_sheetSize, .ref a_items, .ref a_spare])), (a_strewn, .inl (cI, 36, .inl lf))] [(0, .ref m), (1, .int c), (2, .int v)] 4 [.int 1]
    have hr5 := hf4
    obtain ⟨j, hj, rfl⟩ := q_w (n := 35) rfl (by decide) hf4
    have hnj : o_n (nI j) = j := o_n_nI (by omega)
    refine x_if_ne C dX8_strew_4 (tgt := 10) rfl (fun _ => ?_) (fun q9 => by first | exact absurd q9 (by decide) | exact absurd (by decide) q9)
    refine x_iload_n C dX8_strew_10 2 rfl ?_
    refine x_iconst C dX8_strew_11 (v := 0) rfl ?_
    refine x_sipush C dX8_strew_12 (v := 999) rfl ?_
    refine x_callS C (As := [.int v, .int 0, .int 999]) (st := []) (wc := []) (wr := [(m, .inr (7, [.ref a_sky, .ref a_kind, .ref a_more, .ref a_strewn, .int (nI tn), .ref a_treeCell, .ref a_treeSort, .ref a_treeLeaves, .int i_raking, .long l_heaps, .int (nI tz), .ref a_tape, .int (nI wr), .int (nI lw), .ref a_code, .ref a_begins, .int i_made, .int i_at, .int i_from, .int i_sort, .int i_value, .int i_open, .ref a_stack, .ref a_dry, .ref a_wet, .ref a_covered, .ref a_hangs, .ref a_off, .int i_fell, .int i_fellToday, .int i_rotten, .int i_raked, .int i_cost, .ref a_dryGo, .ref a_wetGo, .ref a_keptSky, .int i_imaged, .int (nI itn), .int i_oldRaking, .long l_oldHeaps, .int (nI ilw), .ref a_oldSky, .ref a_oldCells, .ref a_sheetSort, .ref a_sheetSize, .ref a_items, .ref a_spare])), (a_strewn, .inl (cI, 36, .inl lf))]) (c_X8_within l dG cI cM cW cS v 0 999 ) rZ0_ok (fun _ _ _ _ => trivial) kS_X8_108 hy_X8_within ⟨Nat.le_of_ble_eq_true rfl, Nat.le_of_ble_eq_true rfl⟩ ⟨Nat.le_of_ble_eq_true rfl, Nat.le_of_ble_eq_true rfl⟩ dX8_strew_15 [] [0, 1] rfl rfl rfl rfl (by decide) rfl (Nat.le_of_ble_eq_true rfl) ?_
    intro v6 w7 h8
    rcases h8 with h8 | h8
    ·
      obtain ⟨rfl, rfl, hf9⟩ := h8
      show X 0 0 [(m, .inr (7, [.ref a_sky, .ref a_kind, .ref a_more, .ref a_strewn, .int (nI tn), .ref a_treeCell, .ref a_treeSort, .ref a_treeLeaves, .int i_raking, .long l_heaps, .int (nI tz), .ref a_tape, .int (nI wr), .int (nI lw), .ref a_code, .ref a_begins, .int i_made, .int i_at, .int i_from, .int i_sort, .int i_value, .int i_open, .ref a_stack, .ref a_dry, .ref a_wet, .ref a_covered, .ref a_hangs, .ref a_off, .int i_fell, .int i_fellToday, .int i_rotten, .int i_raked, .int i_cost, .ref a_dryGo, .ref a_wetGo, .ref a_keptSky, .int i_imaged, .int (nI itn), .int i_oldRaking, .long l_oldHeaps, .int (nI ilw), .ref a_oldSky, .ref a_oldCells, .ref a_sheetSort, .ref a_sheetSize, .ref a_items, .ref a_spare])), (a_strewn, .inl (cI, 36, .inl lf))] [(0, .ref m), (1, .int (nI j)), (2, .int v)] 18 [.int 1]
      refine x_if_ne C dX8_strew_18 (tgt := 24) rfl (fun _ => ?_) (fun q9 => by first | exact absurd q9 (by decide) | exact absurd (by decide) q9)
      refine x_aload_n C dX8_strew_24 0 rfl ?_
      refine x_get C inlX8 rfl 3 (by decide) gw_10_21 dX8_strew_25 0 rfl rfl ?_
      refine x_iload_n C dX8_strew_28 1 rfl ?_
      refine x_iaload C 0 rfl dX8_strew_29 j (q_cl rfl (by omega)) (q_ix rfl (by omega) (by omega)) 1 rfl ?_
      refine x_istore_n C dX8_strew_30 (by decide) (lv' := [(3, .int (lf j)), (0, .ref m), (1, .int (nI j)), (2, .int v)]) rfl ?_
      refine x_aload_n C dX8_strew_31 1 rfl ?_
      refine x_get C inlX8 rfl 3 (by decide) gw_10_21 dX8_strew_32 0 rfl rfl ?_
      refine x_iload_n C dX8_strew_35 2 rfl ?_
      refine x_iload_n C dX8_strew_36 3 rfl ?_
      show X _ _ _ _ 37 _
      refine x_iastore C 0 rfl dX8_strew_37 j (q_cl rfl (by omega)) (q_ix rfl (by omega) (by omega)) 1 rfl ?_
      show X _ _ [(m, .inr (7, [.ref a_sky, .ref a_kind, .ref a_more, .ref a_strewn, .int (nI tn), .ref a_treeCell, .ref a_treeSort, .ref a_treeLeaves, .int i_raking, .long l_heaps, .int (nI tz), .ref a_tape, .int (nI wr), .int (nI lw), .ref a_code, .ref a_begins, .int i_made, .int i_at, .int i_from, .int i_sort, .int i_value, .int i_open, .ref a_stack, .ref a_dry, .ref a_wet, .ref a_covered, .ref a_hangs, .ref a_off, .int i_fell, .int i_fellToday, .int i_rotten, .int i_raked, .int i_cost, .ref a_dryGo, .ref a_wetGo, .ref a_keptSky, .int i_imaged, .int (nI itn), .int i_oldRaking, .long l_oldHeaps, .int (nI ilw), .ref a_oldSky, .ref a_oldCells, .ref a_sheetSort, .ref a_sheetSize, .ref a_items, .ref a_spare])), (a_strewn, .inl (cI, 36, .inl (upd lf j v)))] _ _ _
      refine x_iload_n C dX8_strew_38 0 rfl ?_
      refine E dX8_strew_39 (rfl) ?_
      exact ⟨(lf j), (upd lf j v), rfl, rfl, by (unfold o_strew o_strew_f); (try simp only [hnj]); (repeat (first | rw [if_pos (by first | (rw [if_pos (by decide)]; assumption) | (rw [if_neg (by decide), if_pos (by decide)]; assumption) | (rw [if_neg (by decide), if_neg (by decide)]; assumption) | assumption | decide | omega | exact o_one_t (by assumption) | (rw [o_one_f (by assumption)]; decide) | exact ⟨by assumption, by assumption⟩ | exact fun h9 => absurd h9.1 (by assumption) | exact fun h9 => absurd h9.2 (by assumption))] | rw [if_neg (by first | (rw [if_pos (by decide)]; assumption) | (rw [if_neg (by decide), if_pos (by decide)]; assumption) | (rw [if_neg (by decide), if_neg (by decide)]; assumption) | assumption | decide | omega | exact o_one_t (by assumption) | (rw [o_one_f (by assumption)]; decide) | exact ⟨by assumption, by assumption⟩ | exact fun h9 => absurd h9.1 (by assumption) | exact fun h9 => absurd h9.2 (by assumption))])); all_goals (first | rfl)⟩
    ·
      obtain ⟨rfl, rfl, hf10⟩ := h8
      show X 0 0 [(m, .inr (7, [.ref a_sky, .ref a_kind, .ref a_more, .ref a_strewn, .int (nI tn), .ref a_treeCell, .ref a_treeSort, .ref a_treeLeaves, .int i_raking, .long l_heaps, .int (nI tz), .ref a_tape, .int (nI wr), .int (nI lw), .ref a_code, .ref a_begins, .int i_made, .int i_at, .int i_from, .int i_sort, .int i_value, .int i_open, .ref a_stack, .ref a_dry, .ref a_wet, .ref a_covered, .ref a_hangs, .ref a_off, .int i_fell, .int i_fellToday, .int i_rotten, .int i_raked, .int i_cost, .ref a_dryGo, .ref a_wetGo, .ref a_keptSky, .int i_imaged, .int (nI itn), .int i_oldRaking, .long l_oldHeaps, .int (nI ilw), .ref a_oldSky, .ref a_oldCells, .ref a_sheetSort, .ref a_sheetSize, .ref a_items, .ref a_spare])), (a_strewn, .inl (cI, 36, .inl lf))] [(0, .ref m), (1, .int (nI j)), (2, .int v)] 18 [.int 0]
      refine x_if_ne C dX8_strew_18 (tgt := 24) rfl (fun q9 => absurd q9 (by decide)) (fun _ => ?_)
      refine x_bipush C dX8_strew_21 (v := (-7)) rfl ?_
      refine E dX8_strew_23 (rfl) ?_
      exact ⟨(-7), lf, rfl, rfl, by (unfold o_strew o_strew_f); (try simp only [hnj]); (repeat (first | rw [if_pos (by first | (rw [if_pos (by decide)]; assumption) | (rw [if_neg (by decide), if_pos (by decide)]; assumption) | (rw [if_neg (by decide), if_neg (by decide)]; assumption) | assumption | decide | omega | exact o_one_t (by assumption) | (rw [o_one_f (by assumption)]; decide) | exact ⟨by assumption, by assumption⟩ | exact fun h9 => absurd h9.1 (by assumption) | exact fun h9 => absurd h9.2 (by assumption))] | rw [if_neg (by first | (rw [if_pos (by decide)]; assumption) | (rw [if_neg (by decide), if_pos (by decide)]; assumption) | (rw [if_neg (by decide), if_neg (by decide)]; assumption) | assumption | decide | omega | exact o_one_t (by assumption) | (rw [o_one_f (by assumption)]; decide) | exact ⟨by assumption, by assumption⟩ | exact fun h9 => absurd h9.1 (by assumption) | exact fun h9 => absurd h9.2 (by assumption))])); all_goals (first | rfl)⟩
  ·
    obtain ⟨rfl, rfl, hf11⟩ := h3
    show X 0 0 [(m, .inr (7, [.ref a_sky, .ref a_kind, .ref a_more, .ref a_strewn, .int (nI tn), .ref a_treeCell, .ref a_treeSort, .ref a_treeLeaves, .int i_raking, .long l_heaps, .int (nI tz), .ref a_tape, .int (nI wr), .int (nI lw), .ref a_code, .ref a_begins, .int i_made, .int i_at, .int i_from, .int i_sort, .int i_value, .int i_open, .ref a_stack, .ref a_dry, .ref a_wet, .ref a_covered, .ref a_hangs, .ref a_off, .int i_fell, .int i_fellToday, .int i_rotten, .int i_raked, .int i_cost, .ref a_dryGo, .ref a_wetGo, .ref a_keptSky, .int i_imaged, .int (nI itn), .int i_oldRaking, .long l_oldHeaps, .int (nI ilw), .ref a_oldSky, .ref a_oldCells, .ref a_sheetSort, .ref a_sheetSize, .ref a_items, .ref a_spare])), (a_strewn, .inl (cI, 36, .inl lf))] [(0, .ref m), (1, .int c), (2, .int v)] 4 [.int 0]
    refine x_if_ne C dX8_strew_4 (tgt := 10) rfl (fun q9 => absurd q9 (by decide)) (fun _ => ?_)
    refine x_bipush C dX8_strew_7 (v := (-5)) rfl ?_
    refine E dX8_strew_9 (rfl) ?_
    exact ⟨(-5), lf, rfl, rfl, by (unfold o_strew o_strew_f); (repeat (first | rw [if_pos (by first | (rw [if_pos (by decide)]; assumption) | (rw [if_neg (by decide), if_pos (by decide)]; assumption) | (rw [if_neg (by decide), if_neg (by decide)]; assumption) | assumption | decide | omega | exact o_one_t (by assumption) | (rw [o_one_f (by assumption)]; decide) | exact ⟨by assumption, by assumption⟩ | exact fun h9 => absurd h9.1 (by assumption) | exact fun h9 => absurd h9.2 (by assumption))] | rw [if_neg (by first | (rw [if_pos (by decide)]; assumption) | (rw [if_neg (by decide), if_pos (by decide)]; assumption) | (rw [if_neg (by decide), if_neg (by decide)]; assumption) | assumption | decide | omega | exact o_one_t (by assumption) | (rw [o_one_f (by assumption)]; decide) | exact ⟨by assumption, by assumption⟩ | exact fun h9 => absurd h9.1 (by assumption) | exact fun h9 => absurd h9.2 (by assumption))])); all_goals (first | rfl)⟩
set_option maxHeartbeats 4000000 in
set_option maxRecDepth 100000 in
theorem c_X8_rake (l : Launch) (dG : va_G) (cI cM cW cS : ClassId) (m a_sky a_kind a_more a_strewn a_treeCell a_treeSort a_treeLeaves a_tape a_code a_begins a_stack a_dry a_wet a_covered a_hangs a_off a_dryGo a_wetGo a_keptSky a_oldSky a_oldCells a_sheetSort a_sheetSize a_items a_spare : Nat) (tn tz wr lw itn ilw : Nat) (i_raking i_made i_at i_from i_sort i_value i_open i_fell i_fellToday i_rotten i_raked i_cost i_imaged i_oldRaking : Int32) (l_heaps l_oldHeaps : Int64) (v : Int32) : rM l yX8_rake cX8_rake 3 (some .int) ({ frames := 1, cells := 0, slots := 0, locals := 22 } : Room) dG (tY cI cM cW cS) rZ0 [.ref m, .int v] [(m, .inr (7, [.ref a_sky, .ref a_kind, .ref a_more, .ref a_strewn, .int (nI tn), .ref a_treeCell, .ref a_treeSort, .ref a_treeLeaves, .int i_raking, .long l_heaps, .int (nI tz), .ref a_tape, .int (nI wr), .int (nI lw), .ref a_code, .ref a_begins, .int i_made, .int i_at, .int i_from, .int i_sort, .int i_value, .int i_open, .ref a_stack, .ref a_dry, .ref a_wet, .ref a_covered, .ref a_hangs, .ref a_off, .int i_fell, .int i_fellToday, .int i_rotten, .int i_raked, .int i_cost, .ref a_dryGo, .ref a_wetGo, .ref a_keptSky, .int i_imaged, .int (nI itn), .int i_oldRaking, .long l_oldHeaps, .int (nI ilw), .ref a_oldSky, .ref a_oldCells, .ref a_sheetSort, .ref a_sheetSize, .ref a_items, .ref a_spare]))] (fun ov oz => ∃ (r : Int32) (v' : Int32), ov = some (.int r) ∧ oz = [(m, .inr (7, [.ref a_sky, .ref a_kind, .ref a_more, .ref a_strewn, .int (nI tn), .ref a_treeCell, .ref a_treeSort, .ref a_treeLeaves, .int v', .long l_heaps, .int (nI tz), .ref a_tape, .int (nI wr), .int (nI lw), .ref a_code, .ref a_begins, .int i_made, .int i_at, .int i_from, .int i_sort, .int i_value, .int i_open, .ref a_stack, .ref a_dry, .ref a_wet, .ref a_covered, .ref a_hangs, .ref a_off, .int i_fell, .int i_fellToday, .int i_rotten, .int i_raked, .int i_cost, .ref a_dryGo, .ref a_wetGo, .ref a_keptSky, .int i_imaged, .int (nI itn), .int i_oldRaking, .long l_oldHeaps, .int (nI ilw), .ref a_oldSky, .ref a_oldCells, .ref a_sheetSort, .ref a_sheetSize, .ref a_items, .ref a_spare]))] ∧ (r, v') = (o_rake i_raking v, o_rake_v i_raking v)) := by
  refine rM_ofI rfl (Nat.le_of_ble_eq_true rfl) rfl (fun X C E => ?_)
  show X 0 0 [(m, .inr (7, [.ref a_sky, .ref a_kind, .ref a_more, .ref a_strewn, .int (nI tn), .ref a_treeCell, .ref a_treeSort, .ref a_treeLeaves, .int i_raking, .long l_heaps, .int (nI tz), .ref a_tape, .int (nI wr), .int (nI lw), .ref a_code, .ref a_begins, .int i_made, .int i_at, .int i_from, .int i_sort, .int i_value, .int i_open, .ref a_stack, .ref a_dry, .ref a_wet, .ref a_covered, .ref a_hangs, .ref a_off, .int i_fell, .int i_fellToday, .int i_rotten, .int i_raked, .int i_cost, .ref a_dryGo, .ref a_wetGo, .ref a_keptSky, .int i_imaged, .int (nI itn), .int i_oldRaking, .long l_oldHeaps, .int (nI ilw), .ref a_oldSky, .ref a_oldCells, .ref a_sheetSort, .ref a_sheetSize, .ref a_items, .ref a_spare]))] [(0, .ref m), (1, .int v)] 0 []
  refine x_iload_n C dX8_rake_0 1 rfl ?_
  refine x_iconst C dX8_rake_1 (v := 0) rfl ?_
  refine x_sipush C dX8_rake_2 (v := 16383) rfl ?_
  refine x_callS C (As := [.int v, .int 0, .int 16383]) (st := []) (wc := []) (wr := [(m, .inr (7, [.ref a_sky, .ref a_kind, .ref a_more, .ref a_strewn, .int (nI tn), .ref a_treeCell, .ref a_treeSort, .ref a_treeLeaves, .int i_raking, .long l_heaps, .int (nI tz), .ref a_tape, .int (nI wr), .int (nI lw), .ref a_code, .ref a_begins, .int i_made, .int i_at, .int i_from, .int i_sort, .int i_value, .int i_open, .ref a_stack, .ref a_dry, .ref a_wet, .ref a_covered, .ref a_hangs, .ref a_off, .int i_fell, .int i_fellToday, .int i_rotten, .int i_raked, .int i_cost, .ref a_dryGo, .ref a_wetGo, .ref a_keptSky, .int i_imaged, .int (nI itn), .int i_oldRaking, .long l_oldHeaps, .int (nI ilw), .ref a_oldSky, .ref a_oldCells, .ref a_sheetSort, .ref a_sheetSize, .ref a_items, .ref a_spare]))]) (c_X8_within l dG cI cM cW cS v 0 16383 ) rZ0_ok (fun _ _ _ _ => trivial) kS_X8_108 hy_X8_within ⟨Nat.le_of_ble_eq_true rfl, Nat.le_of_ble_eq_true rfl⟩ ⟨Nat.le_of_ble_eq_true rfl, Nat.le_of_ble_eq_true rfl⟩ dX8_rake_5 [] [0] rfl rfl rfl rfl (by decide) rfl (Nat.le_of_ble_eq_true rfl) ?_
  intro v1 w2 h3
  rcases h3 with h3 | h3
  ·
    obtain ⟨rfl, rfl, hf4⟩ := h3
    show X 0 0 [(m, .inr (7, [.ref a_sky, .ref a_kind, .ref a_more, .ref a_strewn, .int (nI tn), .ref a_treeCell, .ref a_treeSort, .ref a_treeLeaves, .int i_raking, .long l_heaps, .int (nI tz), .ref a_tape, .int (nI wr), .int (nI lw), .ref a_code, .ref a_begins, .int i_made, .int i_at, .int i_from, .int i_sort, .int i_value, .int i_open, .ref a_stack, .ref a_dry, .ref a_wet, .ref a_covered, .ref a_hangs, .ref a_off, .int i_fell, .int i_fellToday, .int i_rotten, .int i_raked, .int i_cost, .ref a_dryGo, .ref a_wetGo, .ref a_keptSky, .int i_imaged, .int (nI itn), .int i_oldRaking, .long l_oldHeaps, .int (nI ilw), .ref a_oldSky, .ref a_oldCells, .ref a_sheetSort, .ref a_sheetSize, .ref a_items, .ref a_spare]))] [(0, .ref m), (1, .int v)] 8 [.int 1]
    refine x_if_ne C dX8_rake_8 (tgt := 14) rfl (fun _ => ?_) (fun q9 => by first | exact absurd q9 (by decide) | exact absurd (by decide) q9)
    refine x_aload_n C dX8_rake_14 0 rfl ?_
    refine x_get C inlX8 rfl 8 (by decide) gw_16_5 dX8_rake_15 0 rfl rfl ?_
    refine x_istore_n C dX8_rake_18 (by decide) (lv' := [(2, .int i_raking), (0, .ref m), (1, .int v)]) rfl ?_
    refine x_aload_n C dX8_rake_19 1 rfl ?_
    refine x_iload_n C dX8_rake_20 2 rfl ?_
    refine x_put C inlX8 rfl tyX8 tyX8_ok nmX8 8 (by decide) gw_16_5 rfl dX8_rake_21 0 rfl (rfl) rfl (Nat.le_of_ble_eq_true rfl) ?_
    show X _ _ [(m, .inr (7, [.ref a_sky, .ref a_kind, .ref a_more, .ref a_strewn, .int (nI tn), .ref a_treeCell, .ref a_treeSort, .ref a_treeLeaves, .int v, .long l_heaps, .int (nI tz), .ref a_tape, .int (nI wr), .int (nI lw), .ref a_code, .ref a_begins, .int i_made, .int i_at, .int i_from, .int i_sort, .int i_value, .int i_open, .ref a_stack, .ref a_dry, .ref a_wet, .ref a_covered, .ref a_hangs, .ref a_off, .int i_fell, .int i_fellToday, .int i_rotten, .int i_raked, .int i_cost, .ref a_dryGo, .ref a_wetGo, .ref a_keptSky, .int i_imaged, .int (nI itn), .int i_oldRaking, .long l_oldHeaps, .int (nI ilw), .ref a_oldSky, .ref a_oldCells, .ref a_sheetSort, .ref a_sheetSize, .ref a_items, .ref a_spare]))] _ _ _
    refine x_iload_n C dX8_rake_24 0 rfl ?_
    refine E dX8_rake_25 (rfl) ?_
    exact ⟨i_raking, v, rfl, rfl, by (unfold o_rake o_rake_v); (repeat (first | rw [if_pos (by first | (rw [if_pos (by decide)]; assumption) | (rw [if_neg (by decide), if_pos (by decide)]; assumption) | (rw [if_neg (by decide), if_neg (by decide)]; assumption) | assumption | decide | omega | exact o_one_t (by assumption) | (rw [o_one_f (by assumption)]; decide) | exact ⟨by assumption, by assumption⟩ | exact fun h9 => absurd h9.1 (by assumption) | exact fun h9 => absurd h9.2 (by assumption))] | rw [if_neg (by first | (rw [if_pos (by decide)]; assumption) | (rw [if_neg (by decide), if_pos (by decide)]; assumption) | (rw [if_neg (by decide), if_neg (by decide)]; assumption) | assumption | decide | omega | exact o_one_t (by assumption) | (rw [o_one_f (by assumption)]; decide) | exact ⟨by assumption, by assumption⟩ | exact fun h9 => absurd h9.1 (by assumption) | exact fun h9 => absurd h9.2 (by assumption))])); all_goals (first | rfl)⟩
  ·
    obtain ⟨rfl, rfl, hf5⟩ := h3
    show X 0 0 [(m, .inr (7, [.ref a_sky, .ref a_kind, .ref a_more, .ref a_strewn, .int (nI tn), .ref a_treeCell, .ref a_treeSort, .ref a_treeLeaves, .int i_raking, .long l_heaps, .int (nI tz), .ref a_tape, .int (nI wr), .int (nI lw), .ref a_code, .ref a_begins, .int i_made, .int i_at, .int i_from, .int i_sort, .int i_value, .int i_open, .ref a_stack, .ref a_dry, .ref a_wet, .ref a_covered, .ref a_hangs, .ref a_off, .int i_fell, .int i_fellToday, .int i_rotten, .int i_raked, .int i_cost, .ref a_dryGo, .ref a_wetGo, .ref a_keptSky, .int i_imaged, .int (nI itn), .int i_oldRaking, .long l_oldHeaps, .int (nI ilw), .ref a_oldSky, .ref a_oldCells, .ref a_sheetSort, .ref a_sheetSize, .ref a_items, .ref a_spare]))] [(0, .ref m), (1, .int v)] 8 [.int 0]
    refine x_if_ne C dX8_rake_8 (tgt := 14) rfl (fun q9 => absurd q9 (by decide)) (fun _ => ?_)
    refine x_bipush C dX8_rake_11 (v := (-2)) rfl ?_
    refine E dX8_rake_13 (rfl) ?_
    exact ⟨(-2), i_raking, rfl, rfl, by (unfold o_rake o_rake_v); (repeat (first | rw [if_pos (by first | (rw [if_pos (by decide)]; assumption) | (rw [if_neg (by decide), if_pos (by decide)]; assumption) | (rw [if_neg (by decide), if_neg (by decide)]; assumption) | assumption | decide | omega | exact o_one_t (by assumption) | (rw [o_one_f (by assumption)]; decide) | exact ⟨by assumption, by assumption⟩ | exact fun h9 => absurd h9.1 (by assumption) | exact fun h9 => absurd h9.2 (by assumption))] | rw [if_neg (by first | (rw [if_pos (by decide)]; assumption) | (rw [if_neg (by decide), if_pos (by decide)]; assumption) | (rw [if_neg (by decide), if_neg (by decide)]; assumption) | assumption | decide | omega | exact o_one_t (by assumption) | (rw [o_one_f (by assumption)]; decide) | exact ⟨by assumption, by assumption⟩ | exact fun h9 => absurd h9.1 (by assumption) | exact fun h9 => absurd h9.2 (by assumption))])); all_goals (first | rfl)⟩
set_option maxHeartbeats 4000000 in
set_option maxRecDepth 100000 in
theorem c_X8_heap (l : Launch) (dG : va_G) (cI cM cW cS : ClassId) (m a_sky a_kind a_more a_strewn a_treeCell a_treeSort a_treeLeaves a_tape a_code a_begins a_stack a_dry a_wet a_covered a_hangs a_off a_dryGo a_wetGo a_keptSky a_oldSky a_oldCells a_sheetSort a_sheetSize a_items a_spare : Nat) (tn tz wr lw itn ilw : Nat) (i_raking i_made i_at i_from i_sort i_value i_open i_fell i_fellToday i_rotten i_raked i_cost i_imaged i_oldRaking : Int32) (l_heaps l_oldHeaps : Int64) (v : Int64) : rM l yX8_heap cX8_heap 5 (some .long) ({ frames := 0, cells := 0, slots := 0, locals := 0 } : Room) dG (tY cI cM cW cS) rZ0 [.ref m, .long v] [(m, .inr (7, [.ref a_sky, .ref a_kind, .ref a_more, .ref a_strewn, .int (nI tn), .ref a_treeCell, .ref a_treeSort, .ref a_treeLeaves, .int i_raking, .long l_heaps, .int (nI tz), .ref a_tape, .int (nI wr), .int (nI lw), .ref a_code, .ref a_begins, .int i_made, .int i_at, .int i_from, .int i_sort, .int i_value, .int i_open, .ref a_stack, .ref a_dry, .ref a_wet, .ref a_covered, .ref a_hangs, .ref a_off, .int i_fell, .int i_fellToday, .int i_rotten, .int i_raked, .int i_cost, .ref a_dryGo, .ref a_wetGo, .ref a_keptSky, .int i_imaged, .int (nI itn), .int i_oldRaking, .long l_oldHeaps, .int (nI ilw), .ref a_oldSky, .ref a_oldCells, .ref a_sheetSort, .ref a_sheetSize, .ref a_items, .ref a_spare]))] (fun ov oz => ∃ (r : Int64) (v' : Int64), ov = some (.long r) ∧ oz = [(m, .inr (7, [.ref a_sky, .ref a_kind, .ref a_more, .ref a_strewn, .int (nI tn), .ref a_treeCell, .ref a_treeSort, .ref a_treeLeaves, .int i_raking, .long v', .int (nI tz), .ref a_tape, .int (nI wr), .int (nI lw), .ref a_code, .ref a_begins, .int i_made, .int i_at, .int i_from, .int i_sort, .int i_value, .int i_open, .ref a_stack, .ref a_dry, .ref a_wet, .ref a_covered, .ref a_hangs, .ref a_off, .int i_fell, .int i_fellToday, .int i_rotten, .int i_raked, .int i_cost, .ref a_dryGo, .ref a_wetGo, .ref a_keptSky, .int i_imaged, .int (nI itn), .int i_oldRaking, .long l_oldHeaps, .int (nI ilw), .ref a_oldSky, .ref a_oldCells, .ref a_sheetSort, .ref a_sheetSize, .ref a_items, .ref a_spare]))] ∧ (r, v') = (o_heap l_heaps v, o_heap_v l_heaps v)) := by
  refine rM_ofL rfl (Nat.le_of_ble_eq_true rfl) rfl (fun X C E => ?_)
  show X 0 0 [(m, .inr (7, [.ref a_sky, .ref a_kind, .ref a_more, .ref a_strewn, .int (nI tn), .ref a_treeCell, .ref a_treeSort, .ref a_treeLeaves, .int i_raking, .long l_heaps, .int (nI tz), .ref a_tape, .int (nI wr), .int (nI lw), .ref a_code, .ref a_begins, .int i_made, .int i_at, .int i_from, .int i_sort, .int i_value, .int i_open, .ref a_stack, .ref a_dry, .ref a_wet, .ref a_covered, .ref a_hangs, .ref a_off, .int i_fell, .int i_fellToday, .int i_rotten, .int i_raked, .int i_cost, .ref a_dryGo, .ref a_wetGo, .ref a_keptSky, .int i_imaged, .int (nI itn), .int i_oldRaking, .long l_oldHeaps, .int (nI ilw), .ref a_oldSky, .ref a_oldCells, .ref a_sheetSort, .ref a_sheetSize, .ref a_items, .ref a_spare]))] [(0, .ref m), (1, .long v)] 0 []
  refine x_lload_n C dX8_heap_0 1 rfl ?_
  refine x_lconst C dX8_heap_1 (v := 1) rfl ?_
  refine x_lcmp C dX8_heap_2 ?_
  refine x_if_lt C dX8_heap_3 (tgt := 14) rfl (fun c1 => ?_) (fun c1 => ?_)
  ·
    refine x_ldc2 C gw_22_22 dX8_heap_14 ?_
    refine E dX8_heap_17 ?_
    exact ⟨(-4611686018427387904), l_heaps, rfl, rfl, by (unfold o_heap o_heap_v); (repeat (first | rw [if_pos (by first | (rw [if_pos (by decide)]; assumption) | (rw [if_neg (by decide), if_pos (by decide)]; assumption) | (rw [if_neg (by decide), if_neg (by decide)]; assumption) | assumption | decide | omega | exact o_one_t (by assumption) | (rw [o_one_f (by assumption)]; decide) | exact ⟨by assumption, by assumption⟩ | exact fun h9 => absurd h9.1 (by assumption) | exact fun h9 => absurd h9.2 (by assumption))] | rw [if_neg (by first | (rw [if_pos (by decide)]; assumption) | (rw [if_neg (by decide), if_pos (by decide)]; assumption) | (rw [if_neg (by decide), if_neg (by decide)]; assumption) | assumption | decide | omega | exact o_one_t (by assumption) | (rw [o_one_f (by assumption)]; decide) | exact ⟨by assumption, by assumption⟩ | exact fun h9 => absurd h9.1 (by assumption) | exact fun h9 => absurd h9.2 (by assumption))])); all_goals (first | rfl)⟩
  ·
    refine x_lload_n C dX8_heap_6 1 rfl ?_
    refine x_ldc2 C gw_22_21 dX8_heap_7 ?_
    refine x_lcmp C dX8_heap_10 ?_
    refine x_if_lt C dX8_heap_11 (tgt := 18) rfl (fun c2 => ?_) (fun c2 => ?_)
    ·
      refine x_aload_n C dX8_heap_18 0 rfl ?_
      refine x_get C inlX8 rfl 9 (by decide) gw_11_19 dX8_heap_19 0 rfl rfl ?_
      refine x_lstore_n C dX8_heap_22 (by decide) (lv' := [(3, .long l_heaps), (0, .ref m), (1, .long v)]) rfl ?_
      refine x_aload_n C dX8_heap_23 1 rfl ?_
      refine x_lload_n C dX8_heap_24 2 rfl ?_
      refine x_put C inlX8 rfl tyX8 tyX8_ok nmX8 9 (by decide) gw_11_19 rfl dX8_heap_25 0 rfl (rfl) rfl (Nat.le_of_ble_eq_true rfl) ?_
      show X _ _ [(m, .inr (7, [.ref a_sky, .ref a_kind, .ref a_more, .ref a_strewn, .int (nI tn), .ref a_treeCell, .ref a_treeSort, .ref a_treeLeaves, .int i_raking, .long v, .int (nI tz), .ref a_tape, .int (nI wr), .int (nI lw), .ref a_code, .ref a_begins, .int i_made, .int i_at, .int i_from, .int i_sort, .int i_value, .int i_open, .ref a_stack, .ref a_dry, .ref a_wet, .ref a_covered, .ref a_hangs, .ref a_off, .int i_fell, .int i_fellToday, .int i_rotten, .int i_raked, .int i_cost, .ref a_dryGo, .ref a_wetGo, .ref a_keptSky, .int i_imaged, .int (nI itn), .int i_oldRaking, .long l_oldHeaps, .int (nI ilw), .ref a_oldSky, .ref a_oldCells, .ref a_sheetSort, .ref a_sheetSize, .ref a_items, .ref a_spare]))] _ _ _
      refine x_lload_n C dX8_heap_28 0 rfl ?_
      refine E dX8_heap_29 ?_
      exact ⟨l_heaps, v, rfl, rfl, by (unfold o_heap o_heap_v); (repeat (first | rw [if_pos (by first | (rw [if_pos (by decide)]; assumption) | (rw [if_neg (by decide), if_pos (by decide)]; assumption) | (rw [if_neg (by decide), if_neg (by decide)]; assumption) | assumption | decide | omega | exact o_one_t (by assumption) | (rw [o_one_f (by assumption)]; decide) | exact ⟨by assumption, by assumption⟩ | exact fun h9 => absurd h9.1 (by assumption) | exact fun h9 => absurd h9.2 (by assumption))] | rw [if_neg (by first | (rw [if_pos (by decide)]; assumption) | (rw [if_neg (by decide), if_pos (by decide)]; assumption) | (rw [if_neg (by decide), if_neg (by decide)]; assumption) | assumption | decide | omega | exact o_one_t (by assumption) | (rw [o_one_f (by assumption)]; decide) | exact ⟨by assumption, by assumption⟩ | exact fun h9 => absurd h9.1 (by assumption) | exact fun h9 => absurd h9.2 (by assumption))])); all_goals (first | rfl)⟩
    ·
      refine x_ldc2 C gw_22_22 dX8_heap_14 ?_
      refine E dX8_heap_17 ?_
      exact ⟨(-4611686018427387904), l_heaps, rfl, rfl, by (unfold o_heap o_heap_v); (repeat (first | rw [if_pos (by first | (rw [if_pos (by decide)]; assumption) | (rw [if_neg (by decide), if_pos (by decide)]; assumption) | (rw [if_neg (by decide), if_neg (by decide)]; assumption) | assumption | decide | omega | exact o_one_t (by assumption) | (rw [o_one_f (by assumption)]; decide) | exact ⟨by assumption, by assumption⟩ | exact fun h9 => absurd h9.1 (by assumption) | exact fun h9 => absurd h9.2 (by assumption))] | rw [if_neg (by first | (rw [if_pos (by decide)]; assumption) | (rw [if_neg (by decide), if_pos (by decide)]; assumption) | (rw [if_neg (by decide), if_neg (by decide)]; assumption) | assumption | decide | omega | exact o_one_t (by assumption) | (rw [o_one_f (by assumption)]; decide) | exact ⟨by assumption, by assumption⟩ | exact fun h9 => absurd h9.1 (by assumption) | exact fun h9 => absurd h9.2 (by assumption))])); all_goals (first | rfl)⟩
set_option maxHeartbeats 4000000 in
set_option maxRecDepth 100000 in
theorem c_X8_taken (l : Launch) (dG : va_G) (cI cM cW cS : ClassId) (m a_sky a_kind a_more a_strewn a_treeCell a_treeSort a_treeLeaves a_tape a_code a_begins a_stack a_dry a_wet a_covered a_hangs a_off a_dryGo a_wetGo a_keptSky a_oldSky a_oldCells a_sheetSort a_sheetSize a_items a_spare : Nat) (tn tz wr lw itn ilw : Nat) (i_raking i_made i_at i_from i_sort i_value i_open i_fell i_fellToday i_rotten i_raked i_cost i_imaged i_oldRaking : Int32) (l_heaps l_oldHeaps : Int64) (kf ttf : Nat → Int32) (i k : Int32) (htn : tn ≤ 4) (hkf : ∀ c, c < 36 → 0 ≤ kf c ∧ kf c ≤ 5) : rM l yX8_taken cX8_taken 4 (some .int) ({ frames := 2, cells := 0, slots := 0, locals := 43 } : Room) dG (tY cI cM cW cS) rZ0 [.ref m, .int i, .int k] [(m, .inr (7, [.ref a_sky, .ref a_kind, .ref a_more, .ref a_strewn, .int (nI tn), .ref a_treeCell, .ref a_treeSort, .ref a_treeLeaves, .int i_raking, .long l_heaps, .int (nI tz), .ref a_tape, .int (nI wr), .int (nI lw), .ref a_code, .ref a_begins, .int i_made, .int i_at, .int i_from, .int i_sort, .int i_value, .int i_open, .ref a_stack, .ref a_dry, .ref a_wet, .ref a_covered, .ref a_hangs, .ref a_off, .int i_fell, .int i_fellToday, .int i_rotten, .int i_raked, .int i_cost, .ref a_dryGo, .ref a_wetGo, .ref a_keptSky, .int i_imaged, .int (nI itn), .int i_oldRaking, .long l_oldHeaps, .int (nI ilw), .ref a_oldSky, .ref a_oldCells, .ref a_sheetSort, .ref a_sheetSize, .ref a_items, .ref a_spare])), (a_kind, .inl (cI, 36, .inl kf)), (a_treeLeaves, .inl (cI, 4, .inl ttf))] (fun ov oz => ∃ (r : Int32), ov = some (.int r) ∧ oz = [(m, .inr (7, [.ref a_sky, .ref a_kind, .ref a_more, .ref a_strewn, .int (nI tn), .ref a_treeCell, .ref a_treeSort, .ref a_treeLeaves, .int i_raking, .long l_heaps, .int (nI tz), .ref a_tape, .int (nI wr), .int (nI lw), .ref a_code, .ref a_begins, .int i_made, .int i_at, .int i_from, .int i_sort, .int i_value, .int i_open, .ref a_stack, .ref a_dry, .ref a_wet, .ref a_covered, .ref a_hangs, .ref a_off, .int i_fell, .int i_fellToday, .int i_rotten, .int i_raked, .int i_cost, .ref a_dryGo, .ref a_wetGo, .ref a_keptSky, .int i_imaged, .int (nI itn), .int i_oldRaking, .long l_oldHeaps, .int (nI ilw), .ref a_oldSky, .ref a_oldCells, .ref a_sheetSort, .ref a_sheetSize, .ref a_items, .ref a_spare])), (a_kind, .inl (cI, 36, .inl kf)), (a_treeLeaves, .inl (cI, 4, .inl ttf))] ∧ r = o_taken kf ttf tn i k) := by
  refine rM_ofI rfl (Nat.le_of_ble_eq_true rfl) rfl (fun X C E => ?_)
  show X 0 0 [(m, .inr (7, [.ref a_sky, .ref a_kind, .ref a_more, .ref a_strewn, .int (nI tn), .ref a_treeCell, .ref a_treeSort, .ref a_treeLeaves, .int i_raking, .long l_heaps, .int (nI tz), .ref a_tape, .int (nI wr), .int (nI lw), .ref a_code, .ref a_begins, .int i_made, .int i_at, .int i_from, .int i_sort, .int i_value, .int i_open, .ref a_stack, .ref a_dry, .ref a_wet, .ref a_covered, .ref a_hangs, .ref a_off, .int i_fell, .int i_fellToday, .int i_rotten, .int i_raked, .int i_cost, .ref a_dryGo, .ref a_wetGo, .ref a_keptSky, .int i_imaged, .int (nI itn), .int i_oldRaking, .long l_oldHeaps, .int (nI ilw), .ref a_oldSky, .ref a_oldCells, .ref a_sheetSort, .ref a_sheetSize, .ref a_items, .ref a_spare])), (a_kind, .inl (cI, 36, .inl kf)), (a_treeLeaves, .inl (cI, 4, .inl ttf))] [(0, .ref m), (1, .int i), (2, .int k)] 0 []
  refine x_iload_n C dX8_taken_0 2 rfl ?_
  refine x_iconst C dX8_taken_1 (v := 0) rfl ?_
  refine x_bipush C dX8_taken_2 (v := 6) rfl ?_
  refine x_callS C (As := [.int k, .int 0, .int 6]) (st := []) (wc := []) (wr := [(m, .inr (7, [.ref a_sky, .ref a_kind, .ref a_more, .ref a_strewn, .int (nI tn), .ref a_treeCell, .ref a_treeSort, .ref a_treeLeaves, .int i_raking, .long l_heaps, .int (nI tz), .ref a_tape, .int (nI wr), .int (nI lw), .ref a_code, .ref a_begins, .int i_made, .int i_at, .int i_from, .int i_sort, .int i_value, .int i_open, .ref a_stack, .ref a_dry, .ref a_wet, .ref a_covered, .ref a_hangs, .ref a_off, .int i_fell, .int i_fellToday, .int i_rotten, .int i_raked, .int i_cost, .ref a_dryGo, .ref a_wetGo, .ref a_keptSky, .int i_imaged, .int (nI itn), .int i_oldRaking, .long l_oldHeaps, .int (nI ilw), .ref a_oldSky, .ref a_oldCells, .ref a_sheetSort, .ref a_sheetSize, .ref a_items, .ref a_spare])), (a_kind, .inl (cI, 36, .inl kf)), (a_treeLeaves, .inl (cI, 4, .inl ttf))]) (c_X8_within l dG cI cM cW cS k 0 6 ) rZ0_ok (fun _ _ _ _ => trivial) kS_X8_108 hy_X8_within ⟨Nat.le_of_ble_eq_true rfl, Nat.le_of_ble_eq_true rfl⟩ ⟨Nat.le_of_ble_eq_true rfl, Nat.le_of_ble_eq_true rfl⟩ dX8_taken_4 [] [0, 1, 2] rfl rfl rfl rfl (by decide) rfl (Nat.le_of_ble_eq_true rfl) ?_
  intro v1 w2 h3
  rcases h3 with h3 | h3
  ·
    obtain ⟨rfl, rfl, hf4⟩ := h3
    show X 0 0 [(m, .inr (7, [.ref a_sky, .ref a_kind, .ref a_more, .ref a_strewn, .int (nI tn), .ref a_treeCell, .ref a_treeSort, .ref a_treeLeaves, .int i_raking, .long l_heaps, .int (nI tz), .ref a_tape, .int (nI wr), .int (nI lw), .ref a_code, .ref a_begins, .int i_made, .int i_at, .int i_from, .int i_sort, .int i_value, .int i_open, .ref a_stack, .ref a_dry, .ref a_wet, .ref a_covered, .ref a_hangs, .ref a_off, .int i_fell, .int i_fellToday, .int i_rotten, .int i_raked, .int i_cost, .ref a_dryGo, .ref a_wetGo, .ref a_keptSky, .int i_imaged, .int (nI itn), .int i_oldRaking, .long l_oldHeaps, .int (nI ilw), .ref a_oldSky, .ref a_oldCells, .ref a_sheetSort, .ref a_sheetSize, .ref a_items, .ref a_spare])), (a_kind, .inl (cI, 36, .inl kf)), (a_treeLeaves, .inl (cI, 4, .inl ttf))] [(0, .ref m), (1, .int i), (2, .int k)] 7 [.int 1]
    rcases q_in7 hf4 with rfl | rfl | rfl | rfl | rfl | rfl | rfl
    ·
      refine x_if_ne C dX8_taken_7 (tgt := 13) rfl (fun _ => ?_) (fun q9 => by first | exact absurd q9 (by decide) | exact absurd (by decide) q9)
      refine x_iload_n C dX8_taken_13 1 rfl ?_
      refine x_iconst C dX8_taken_14 (v := 0) rfl ?_
      refine x_bipush C dX8_taken_15 (v := 39) rfl ?_
      refine x_callS C (As := [.int i, .int 0, .int 39]) (st := []) (wc := []) (wr := [(m, .inr (7, [.ref a_sky, .ref a_kind, .ref a_more, .ref a_strewn, .int (nI tn), .ref a_treeCell, .ref a_treeSort, .ref a_treeLeaves, .int i_raking, .long l_heaps, .int (nI tz), .ref a_tape, .int (nI wr), .int (nI lw), .ref a_code, .ref a_begins, .int i_made, .int i_at, .int i_from, .int i_sort, .int i_value, .int i_open, .ref a_stack, .ref a_dry, .ref a_wet, .ref a_covered, .ref a_hangs, .ref a_off, .int i_fell, .int i_fellToday, .int i_rotten, .int i_raked, .int i_cost, .ref a_dryGo, .ref a_wetGo, .ref a_keptSky, .int i_imaged, .int (nI itn), .int i_oldRaking, .long l_oldHeaps, .int (nI ilw), .ref a_oldSky, .ref a_oldCells, .ref a_sheetSort, .ref a_sheetSize, .ref a_items, .ref a_spare])), (a_kind, .inl (cI, 36, .inl kf)), (a_treeLeaves, .inl (cI, 4, .inl ttf))]) (c_X8_within l dG cI cM cW cS i 0 39 ) rZ0_ok (fun _ _ _ _ => trivial) kS_X8_108 hy_X8_within ⟨Nat.le_of_ble_eq_true rfl, Nat.le_of_ble_eq_true rfl⟩ ⟨Nat.le_of_ble_eq_true rfl, Nat.le_of_ble_eq_true rfl⟩ dX8_taken_17 [] [0, 1, 2] rfl rfl rfl rfl (by decide) rfl (Nat.le_of_ble_eq_true rfl) ?_
      intro v5 w6 h7
      rcases h7 with h7 | h7
      ·
        obtain ⟨rfl, rfl, hf8⟩ := h7
        show X 0 0 [(m, .inr (7, [.ref a_sky, .ref a_kind, .ref a_more, .ref a_strewn, .int (nI tn), .ref a_treeCell, .ref a_treeSort, .ref a_treeLeaves, .int i_raking, .long l_heaps, .int (nI tz), .ref a_tape, .int (nI wr), .int (nI lw), .ref a_code, .ref a_begins, .int i_made, .int i_at, .int i_from, .int i_sort, .int i_value, .int i_open, .ref a_stack, .ref a_dry, .ref a_wet, .ref a_covered, .ref a_hangs, .ref a_off, .int i_fell, .int i_fellToday, .int i_rotten, .int i_raked, .int i_cost, .ref a_dryGo, .ref a_wetGo, .ref a_keptSky, .int i_imaged, .int (nI itn), .int i_oldRaking, .long l_oldHeaps, .int (nI ilw), .ref a_oldSky, .ref a_oldCells, .ref a_sheetSort, .ref a_sheetSize, .ref a_items, .ref a_spare])), (a_kind, .inl (cI, 36, .inl kf)), (a_treeLeaves, .inl (cI, 4, .inl ttf))] [(0, .ref m), (1, .int i), (2, .int 0)] 20 [.int 1]
        have hr9 := hf8
        obtain ⟨j, hj, rfl⟩ := q_w (n := 39) rfl (by decide) hf8
        have hnj : o_n (nI j) = j := o_n_nI (by omega)
        refine x_if_ne C dX8_taken_20 (tgt := 26) rfl (fun _ => ?_) (fun q9 => by first | exact absurd q9 (by decide) | exact absurd (by decide) q9)
        refine x_iload_n C dX8_taken_26 1 rfl ?_
        refine x_bipush C dX8_taken_27 (v := 35) rfl ?_
        refine x_icmp_le C dX8_taken_29 (tgt := 67) rfl (fun c10 => ?_) (fun c10 => ?_)
        ·
          have c10 : j ≤ 35 := q_le_t rfl (rfl : (35 : Int32) = nI 35) (by omega) (by omega) c10
          refine x_aload_n C dX8_taken_67 0 rfl ?_
          refine x_get C inlX8 rfl 1 (by decide) gw_10_19 dX8_taken_68 0 rfl rfl ?_
          refine x_iload_n C dX8_taken_71 1 rfl ?_
          refine x_iaload C 0 rfl dX8_taken_72 j (q_cl rfl (by omega)) (q_ix rfl (by omega) (by omega)) 1 rfl ?_
          have hq11 := q_in6 (hkf j (by omega))
          rcases hq11 with hq11 | hq11 | hq11 | hq11 | hq11 | hq11
          ·
            refine x_topi C 0 hq11 ?_
            have hk9 : o_one (kf j) 0 = true := by rw [hq11]; decide
            refine x_istore_n C dX8_taken_73 (by decide) (lv' := [(3, .int 0), (0, .ref m), (1, .int (nI j)), (2, .int 0)]) rfl ?_
            refine x_iload_n C dX8_taken_74 0 rfl ?_
            refine x_iload_n C dX8_taken_75 3 rfl ?_
            refine x_icmp_eq C dX8_taken_76 (tgt := 106) rfl (fun _ => ?_) (fun q9 => by first | exact absurd q9 (by decide) | exact absurd (by decide) q9)
            refine x_iload_n C dX8_taken_106 0 rfl ?_
            refine x_iload_n C dX8_taken_107 3 rfl ?_
            refine x_icmp_ne C dX8_taken_108 (tgt := 115) rfl (fun q9 => absurd q9 (by decide)) (fun _ => ?_)
            refine x_iload_n C dX8_taken_111 2 rfl ?_
            refine x_goto C dX8_taken_112 (tgt := 117) rfl ?_
            refine E dX8_taken_117 (rfl) ?_
            exact ⟨(nI j), rfl, rfl, by (unfold o_taken); (try simp only [hnj]); (repeat (first | rw [if_pos (by first | exact hk9 | (rw [hk9]; decide) | (rw [if_pos (by decide)]; assumption) | (rw [if_neg (by decide), if_pos (by decide)]; assumption) | (rw [if_neg (by decide), if_neg (by decide)]; assumption) | assumption | decide | omega | exact o_one_t (by assumption) | (rw [o_one_f (by assumption)]; decide) | exact ⟨by assumption, by assumption⟩ | exact fun h9 => absurd h9.1 (by assumption) | exact fun h9 => absurd h9.2 (by assumption))] | rw [if_neg (by first | exact hk9 | (rw [hk9]; decide) | (rw [if_pos (by decide)]; assumption) | (rw [if_neg (by decide), if_pos (by decide)]; assumption) | (rw [if_neg (by decide), if_neg (by decide)]; assumption) | assumption | decide | omega | exact o_one_t (by assumption) | (rw [o_one_f (by assumption)]; decide) | exact ⟨by assumption, by assumption⟩ | exact fun h9 => absurd h9.1 (by assumption) | exact fun h9 => absurd h9.2 (by assumption))])); all_goals (first | rfl)⟩
          ·
            refine x_topi C 1 hq11 ?_
            have hk9 : o_one (kf j) 0 = true := by rw [hq11]; decide
            refine x_istore_n C dX8_taken_73 (by decide) (lv' := [(3, .int 1), (0, .ref m), (1, .int (nI j)), (2, .int 0)]) rfl ?_
            refine x_iload_n C dX8_taken_74 0 rfl ?_
            refine x_iload_n C dX8_taken_75 3 rfl ?_
            refine x_icmp_eq C dX8_taken_76 (tgt := 106) rfl (fun q9 => absurd q9 (by decide)) (fun _ => ?_)
            refine x_iload_n C dX8_taken_79 0 rfl ?_
            refine x_if_le C dX8_taken_80 (tgt := 106) rfl (fun q9 => absurd q9 (by decide)) (fun _ => ?_)
            refine x_iload_n C dX8_taken_83 0 rfl ?_
            refine x_iconst C dX8_taken_84 (v := 3) rfl ?_
            refine x_icmp_ne C dX8_taken_85 (tgt := 92) rfl (fun _ => ?_) (fun q9 => by first | exact absurd q9 (by decide) | exact absurd (by decide) q9)
            refine x_iload_n C dX8_taken_92 0 rfl ?_
            show X _ _ _ _ 93 _
            refine x_iconst C dX8_taken_93 (v := 5) rfl ?_
            refine x_icmp_ne C dX8_taken_94 (tgt := 101) rfl (fun _ => ?_) (fun q9 => by first | exact absurd q9 (by decide) | exact absurd (by decide) q9)
            refine x_iconst C dX8_taken_101 (v := 0) rfl ?_
            refine x_istore_n C dX8_taken_102 (by decide) (lv' := [(3, .int 0), (0, .ref m), (1, .int (nI j)), (2, .int 0)]) rfl ?_
            refine x_goto C dX8_taken_103 (tgt := 74) rfl ?_
            refine x_iload_n C dX8_taken_74 0 rfl ?_
            refine x_iload_n C dX8_taken_75 3 rfl ?_
            refine x_icmp_eq C dX8_taken_76 (tgt := 106) rfl (fun _ => ?_) (fun q9 => by first | exact absurd q9 (by decide) | exact absurd (by decide) q9)
            refine x_iload_n C dX8_taken_106 0 rfl ?_
            refine x_iload_n C dX8_taken_107 3 rfl ?_
            show X _ _ _ _ 108 _
            refine x_icmp_ne C dX8_taken_108 (tgt := 115) rfl (fun q9 => absurd q9 (by decide)) (fun _ => ?_)
            refine x_iload_n C dX8_taken_111 2 rfl ?_
            refine x_goto C dX8_taken_112 (tgt := 117) rfl ?_
            refine E dX8_taken_117 (rfl) ?_
            exact ⟨(nI j), rfl, rfl, by (unfold o_taken); (try simp only [hnj]); (repeat (first | rw [if_pos (by first | exact hk9 | (rw [hk9]; decide) | (rw [if_pos (by decide)]; assumption) | (rw [if_neg (by decide), if_pos (by decide)]; assumption) | (rw [if_neg (by decide), if_neg (by decide)]; assumption) | assumption | decide | omega | exact o_one_t (by assumption) | (rw [o_one_f (by assumption)]; decide) | exact ⟨by assumption, by assumption⟩ | exact fun h9 => absurd h9.1 (by assumption) | exact fun h9 => absurd h9.2 (by assumption))] | rw [if_neg (by first | exact hk9 | (rw [hk9]; decide) | (rw [if_pos (by decide)]; assumption) | (rw [if_neg (by decide), if_pos (by decide)]; assumption) | (rw [if_neg (by decide), if_neg (by decide)]; assumption) | assumption | decide | omega | exact o_one_t (by assumption) | (rw [o_one_f (by assumption)]; decide) | exact ⟨by assumption, by assumption⟩ | exact fun h9 => absurd h9.1 (by assumption) | exact fun h9 => absurd h9.2 (by assumption))])); all_goals (first | rfl)⟩
          ·
            refine x_topi C 2 hq11 ?_
            have hk9 : o_one (kf j) 0 = true := by rw [hq11]; decide
            refine x_istore_n C dX8_taken_73 (by decide) (lv' := [(3, .int 2), (0, .ref m), (1, .int (nI j)), (2, .int 0)]) rfl ?_
            refine x_iload_n C dX8_taken_74 0 rfl ?_
            refine x_iload_n C dX8_taken_75 3 rfl ?_
            refine x_icmp_eq C dX8_taken_76 (tgt := 106) rfl (fun q9 => absurd q9 (by decide)) (fun _ => ?_)
            refine x_iload_n C dX8_taken_79 0 rfl ?_
            refine x_if_le C dX8_taken_80 (tgt := 106) rfl (fun q9 => absurd q9 (by decide)) (fun _ => ?_)
            refine x_iload_n C dX8_taken_83 0 rfl ?_
            refine x_iconst C dX8_taken_84 (v := 3) rfl ?_
            refine x_icmp_ne C dX8_taken_85 (tgt := 92) rfl (fun _ => ?_) (fun q9 => by first | exact absurd q9 (by decide) | exact absurd (by decide) q9)
            refine x_iload_n C dX8_taken_92 0 rfl ?_
            show X _ _ _ _ 93 _
            refine x_iconst C dX8_taken_93 (v := 5) rfl ?_
            refine x_icmp_ne C dX8_taken_94 (tgt := 101) rfl (fun _ => ?_) (fun q9 => by first | exact absurd q9 (by decide) | exact absurd (by decide) q9)
            refine x_iconst C dX8_taken_101 (v := 0) rfl ?_
            refine x_istore_n C dX8_taken_102 (by decide) (lv' := [(3, .int 0), (0, .ref m), (1, .int (nI j)), (2, .int 0)]) rfl ?_
            refine x_goto C dX8_taken_103 (tgt := 74) rfl ?_
            refine x_iload_n C dX8_taken_74 0 rfl ?_
            refine x_iload_n C dX8_taken_75 3 rfl ?_
            refine x_icmp_eq C dX8_taken_76 (tgt := 106) rfl (fun _ => ?_) (fun q9 => by first | exact absurd q9 (by decide) | exact absurd (by decide) q9)
            refine x_iload_n C dX8_taken_106 0 rfl ?_
            refine x_iload_n C dX8_taken_107 3 rfl ?_
            show X _ _ _ _ 108 _
            refine x_icmp_ne C dX8_taken_108 (tgt := 115) rfl (fun q9 => absurd q9 (by decide)) (fun _ => ?_)
            refine x_iload_n C dX8_taken_111 2 rfl ?_
            refine x_goto C dX8_taken_112 (tgt := 117) rfl ?_
            refine E dX8_taken_117 (rfl) ?_
            exact ⟨(nI j), rfl, rfl, by (unfold o_taken); (try simp only [hnj]); (repeat (first | rw [if_pos (by first | exact hk9 | (rw [hk9]; decide) | (rw [if_pos (by decide)]; assumption) | (rw [if_neg (by decide), if_pos (by decide)]; assumption) | (rw [if_neg (by decide), if_neg (by decide)]; assumption) | assumption | decide | omega | exact o_one_t (by assumption) | (rw [o_one_f (by assumption)]; decide) | exact ⟨by assumption, by assumption⟩ | exact fun h9 => absurd h9.1 (by assumption) | exact fun h9 => absurd h9.2 (by assumption))] | rw [if_neg (by first | exact hk9 | (rw [hk9]; decide) | (rw [if_pos (by decide)]; assumption) | (rw [if_neg (by decide), if_pos (by decide)]; assumption) | (rw [if_neg (by decide), if_neg (by decide)]; assumption) | assumption | decide | omega | exact o_one_t (by assumption) | (rw [o_one_f (by assumption)]; decide) | exact ⟨by assumption, by assumption⟩ | exact fun h9 => absurd h9.1 (by assumption) | exact fun h9 => absurd h9.2 (by assumption))])); all_goals (first | rfl)⟩
          ·
            refine x_topi C 3 hq11 ?_
            have hk9 : o_one (kf j) 0 = true := by rw [hq11]; decide
            refine x_istore_n C dX8_taken_73 (by decide) (lv' := [(3, .int 3), (0, .ref m), (1, .int (nI j)), (2, .int 0)]) rfl ?_
            refine x_iload_n C dX8_taken_74 0 rfl ?_
            refine x_iload_n C dX8_taken_75 3 rfl ?_
            refine x_icmp_eq C dX8_taken_76 (tgt := 106) rfl (fun q9 => absurd q9 (by decide)) (fun _ => ?_)
            refine x_iload_n C dX8_taken_79 0 rfl ?_
            refine x_if_le C dX8_taken_80 (tgt := 106) rfl (fun q9 => absurd q9 (by decide)) (fun _ => ?_)
            refine x_iload_n C dX8_taken_83 0 rfl ?_
            refine x_iconst C dX8_taken_84 (v := 3) rfl ?_
            refine x_icmp_ne C dX8_taken_85 (tgt := 92) rfl (fun q9 => absurd q9 (by decide)) (fun _ => ?_)
            refine x_iconst C dX8_taken_88 (v := 1) rfl ?_
            show X _ _ _ _ 89 _
            refine x_goto C dX8_taken_89 (tgt := 102) rfl ?_
            refine x_istore_n C dX8_taken_102 (by decide) (lv' := [(3, .int 1), (0, .ref m), (1, .int (nI j)), (2, .int 0)]) rfl ?_
            refine x_goto C dX8_taken_103 (tgt := 74) rfl ?_
            refine x_iload_n C dX8_taken_74 0 rfl ?_
            refine x_iload_n C dX8_taken_75 3 rfl ?_
            refine x_icmp_eq C dX8_taken_76 (tgt := 106) rfl (fun q9 => absurd q9 (by decide)) (fun _ => ?_)
            refine x_iload_n C dX8_taken_79 0 rfl ?_
            refine x_if_le C dX8_taken_80 (tgt := 106) rfl (fun q9 => absurd q9 (by decide)) (fun _ => ?_)
            refine x_iload_n C dX8_taken_83 0 rfl ?_
            refine x_iconst C dX8_taken_84 (v := 3) rfl ?_
            show X _ _ _ _ 85 _
            refine x_icmp_ne C dX8_taken_85 (tgt := 92) rfl (fun _ => ?_) (fun q9 => by first | exact absurd q9 (by decide) | exact absurd (by decide) q9)
            refine x_iload_n C dX8_taken_92 0 rfl ?_
            refine x_iconst C dX8_taken_93 (v := 5) rfl ?_
            refine x_icmp_ne C dX8_taken_94 (tgt := 101) rfl (fun _ => ?_) (fun q9 => by first | exact absurd q9 (by decide) | exact absurd (by decide) q9)
            refine x_iconst C dX8_taken_101 (v := 0) rfl ?_
            refine x_istore_n C dX8_taken_102 (by decide) (lv' := [(3, .int 0), (0, .ref m), (1, .int (nI j)), (2, .int 0)]) rfl ?_
            refine x_goto C dX8_taken_103 (tgt := 74) rfl ?_
            refine x_iload_n C dX8_taken_74 0 rfl ?_
            refine x_iload_n C dX8_taken_75 3 rfl ?_
            refine x_icmp_eq C dX8_taken_76 (tgt := 106) rfl (fun _ => ?_) (fun q9 => by first | exact absurd q9 (by decide) | exact absurd (by decide) q9)
            show X _ _ _ _ 106 _
            refine x_iload_n C dX8_taken_106 0 rfl ?_
            refine x_iload_n C dX8_taken_107 3 rfl ?_
            refine x_icmp_ne C dX8_taken_108 (tgt := 115) rfl (fun q9 => absurd q9 (by decide)) (fun _ => ?_)
            refine x_iload_n C dX8_taken_111 2 rfl ?_
            refine x_goto C dX8_taken_112 (tgt := 117) rfl ?_
            refine E dX8_taken_117 (rfl) ?_
            exact ⟨(nI j), rfl, rfl, by (unfold o_taken); (try simp only [hnj]); (repeat (first | rw [if_pos (by first | exact hk9 | (rw [hk9]; decide) | (rw [if_pos (by decide)]; assumption) | (rw [if_neg (by decide), if_pos (by decide)]; assumption) | (rw [if_neg (by decide), if_neg (by decide)]; assumption) | assumption | decide | omega | exact o_one_t (by assumption) | (rw [o_one_f (by assumption)]; decide) | exact ⟨by assumption, by assumption⟩ | exact fun h9 => absurd h9.1 (by assumption) | exact fun h9 => absurd h9.2 (by assumption))] | rw [if_neg (by first | exact hk9 | (rw [hk9]; decide) | (rw [if_pos (by decide)]; assumption) | (rw [if_neg (by decide), if_pos (by decide)]; assumption) | (rw [if_neg (by decide), if_neg (by decide)]; assumption) | assumption | decide | omega | exact o_one_t (by assumption) | (rw [o_one_f (by assumption)]; decide) | exact ⟨by assumption, by assumption⟩ | exact fun h9 => absurd h9.1 (by assumption) | exact fun h9 => absurd h9.2 (by assumption))])); all_goals (first | rfl)⟩
          ·
            refine x_topi C 4 hq11 ?_
            have hk9 : o_one (kf j) 0 = true := by rw [hq11]; decide
            refine x_istore_n C dX8_taken_73 (by decide) (lv' := [(3, .int 4), (0, .ref m), (1, .int (nI j)), (2, .int 0)]) rfl ?_
            refine x_iload_n C dX8_taken_74 0 rfl ?_
            refine x_iload_n C dX8_taken_75 3 rfl ?_
            refine x_icmp_eq C dX8_taken_76 (tgt := 106) rfl (fun q9 => absurd q9 (by decide)) (fun _ => ?_)
            refine x_iload_n C dX8_taken_79 0 rfl ?_
            refine x_if_le C dX8_taken_80 (tgt := 106) rfl (fun q9 => absurd q9 (by decide)) (fun _ => ?_)
            refine x_iload_n C dX8_taken_83 0 rfl ?_
            refine x_iconst C dX8_taken_84 (v := 3) rfl ?_
            refine x_icmp_ne C dX8_taken_85 (tgt := 92) rfl (fun _ => ?_) (fun q9 => by first | exact absurd q9 (by decide) | exact absurd (by decide) q9)
            refine x_iload_n C dX8_taken_92 0 rfl ?_
            show X _ _ _ _ 93 _
            refine x_iconst C dX8_taken_93 (v := 5) rfl ?_
            refine x_icmp_ne C dX8_taken_94 (tgt := 101) rfl (fun _ => ?_) (fun q9 => by first | exact absurd q9 (by decide) | exact absurd (by decide) q9)
            refine x_iconst C dX8_taken_101 (v := 0) rfl ?_
            refine x_istore_n C dX8_taken_102 (by decide) (lv' := [(3, .int 0), (0, .ref m), (1, .int (nI j)), (2, .int 0)]) rfl ?_
            refine x_goto C dX8_taken_103 (tgt := 74) rfl ?_
            refine x_iload_n C dX8_taken_74 0 rfl ?_
            refine x_iload_n C dX8_taken_75 3 rfl ?_
            refine x_icmp_eq C dX8_taken_76 (tgt := 106) rfl (fun _ => ?_) (fun q9 => by first | exact absurd q9 (by decide) | exact absurd (by decide) q9)
            refine x_iload_n C dX8_taken_106 0 rfl ?_
            refine x_iload_n C dX8_taken_107 3 rfl ?_
            show X _ _ _ _ 108 _
            refine x_icmp_ne C dX8_taken_108 (tgt := 115) rfl (fun q9 => absurd q9 (by decide)) (fun _ => ?_)
            refine x_iload_n C dX8_taken_111 2 rfl ?_
            refine x_goto C dX8_taken_112 (tgt := 117) rfl ?_
            refine E dX8_taken_117 (rfl) ?_
            exact ⟨(nI j), rfl, rfl, by (unfold o_taken); (try simp only [hnj]); (repeat (first | rw [if_pos (by first | exact hk9 | (rw [hk9]; decide) | (rw [if_pos (by decide)]; assumption) | (rw [if_neg (by decide), if_pos (by decide)]; assumption) | (rw [if_neg (by decide), if_neg (by decide)]; assumption) | assumption | decide | omega | exact o_one_t (by assumption) | (rw [o_one_f (by assumption)]; decide) | exact ⟨by assumption, by assumption⟩ | exact fun h9 => absurd h9.1 (by assumption) | exact fun h9 => absurd h9.2 (by assumption))] | rw [if_neg (by first | exact hk9 | (rw [hk9]; decide) | (rw [if_pos (by decide)]; assumption) | (rw [if_neg (by decide), if_pos (by decide)]; assumption) | (rw [if_neg (by decide), if_neg (by decide)]; assumption) | assumption | decide | omega | exact o_one_t (by assumption) | (rw [o_one_f (by assumption)]; decide) | exact ⟨by assumption, by assumption⟩ | exact fun h9 => absurd h9.1 (by assumption) | exact fun h9 => absurd h9.2 (by assumption))])); all_goals (first | rfl)⟩
          ·
            refine x_topi C 5 hq11 ?_
            have hk9 : o_one (kf j) 0 = true := by rw [hq11]; decide
            refine x_istore_n C dX8_taken_73 (by decide) (lv' := [(3, .int 5), (0, .ref m), (1, .int (nI j)), (2, .int 0)]) rfl ?_
            refine x_iload_n C dX8_taken_74 0 rfl ?_
            refine x_iload_n C dX8_taken_75 3 rfl ?_
            refine x_icmp_eq C dX8_taken_76 (tgt := 106) rfl (fun q9 => absurd q9 (by decide)) (fun _ => ?_)
            refine x_iload_n C dX8_taken_79 0 rfl ?_
            refine x_if_le C dX8_taken_80 (tgt := 106) rfl (fun q9 => absurd q9 (by decide)) (fun _ => ?_)
            refine x_iload_n C dX8_taken_83 0 rfl ?_
            refine x_iconst C dX8_taken_84 (v := 3) rfl ?_
            refine x_icmp_ne C dX8_taken_85 (tgt := 92) rfl (fun _ => ?_) (fun q9 => by first | exact absurd q9 (by decide) | exact absurd (by decide) q9)
            refine x_iload_n C dX8_taken_92 0 rfl ?_
            show X _ _ _ _ 93 _
            refine x_iconst C dX8_taken_93 (v := 5) rfl ?_
            refine x_icmp_ne C dX8_taken_94 (tgt := 101) rfl (fun q9 => absurd q9 (by decide)) (fun _ => ?_)
            refine x_iconst C dX8_taken_97 (v := 2) rfl ?_
            refine x_goto C dX8_taken_98 (tgt := 102) rfl ?_
            refine x_istore_n C dX8_taken_102 (by decide) (lv' := [(3, .int 2), (0, .ref m), (1, .int (nI j)), (2, .int 0)]) rfl ?_
            refine x_goto C dX8_taken_103 (tgt := 74) rfl ?_
            refine x_iload_n C dX8_taken_74 0 rfl ?_
            refine x_iload_n C dX8_taken_75 3 rfl ?_
            refine x_icmp_eq C dX8_taken_76 (tgt := 106) rfl (fun q9 => absurd q9 (by decide)) (fun _ => ?_)
            refine x_iload_n C dX8_taken_79 0 rfl ?_
            show X _ _ _ _ 80 _
            refine x_if_le C dX8_taken_80 (tgt := 106) rfl (fun q9 => absurd q9 (by decide)) (fun _ => ?_)
            refine x_iload_n C dX8_taken_83 0 rfl ?_
            refine x_iconst C dX8_taken_84 (v := 3) rfl ?_
            refine x_icmp_ne C dX8_taken_85 (tgt := 92) rfl (fun _ => ?_) (fun q9 => by first | exact absurd q9 (by decide) | exact absurd (by decide) q9)
            refine x_iload_n C dX8_taken_92 0 rfl ?_
            refine x_iconst C dX8_taken_93 (v := 5) rfl ?_
            refine x_icmp_ne C dX8_taken_94 (tgt := 101) rfl (fun _ => ?_) (fun q9 => by first | exact absurd q9 (by decide) | exact absurd (by decide) q9)
            refine x_iconst C dX8_taken_101 (v := 0) rfl ?_
            refine x_istore_n C dX8_taken_102 (by decide) (lv' := [(3, .int 0), (0, .ref m), (1, .int (nI j)), (2, .int 0)]) rfl ?_
            refine x_goto C dX8_taken_103 (tgt := 74) rfl ?_
            show X _ _ _ _ 74 _
            refine x_iload_n C dX8_taken_74 0 rfl ?_
            refine x_iload_n C dX8_taken_75 3 rfl ?_
            refine x_icmp_eq C dX8_taken_76 (tgt := 106) rfl (fun _ => ?_) (fun q9 => by first | exact absurd q9 (by decide) | exact absurd (by decide) q9)
            refine x_iload_n C dX8_taken_106 0 rfl ?_
            refine x_iload_n C dX8_taken_107 3 rfl ?_
            refine x_icmp_ne C dX8_taken_108 (tgt := 115) rfl (fun q9 => absurd q9 (by decide)) (fun _ => ?_)
            refine x_iload_n C dX8_taken_111 2 rfl ?_
            refine x_goto C dX8_taken_112 (tgt := 117) rfl ?_
            refine E dX8_taken_117 (rfl) ?_
            exact ⟨(nI j), rfl, rfl, by (unfold o_taken); (try simp only [hnj]); (repeat (first | rw [if_pos (by first | exact hk9 | (rw [hk9]; decide) | (rw [if_pos (by decide)]; assumption) | (rw [if_neg (by decide), if_pos (by decide)]; assumption) | (rw [if_neg (by decide), if_neg (by decide)]; assumption) | assumption | decide | omega | exact o_one_t (by assumption) | (rw [o_one_f (by assumption)]; decide) | exact ⟨by assumption, by assumption⟩ | exact fun h9 => absurd h9.1 (by assumption) | exact fun h9 => absurd h9.2 (by assumption))] | rw [if_neg (by first | exact hk9 | (rw [hk9]; decide) | (rw [if_pos (by decide)]; assumption) | (rw [if_neg (by decide), if_pos (by decide)]; assumption) | (rw [if_neg (by decide), if_neg (by decide)]; assumption) | assumption | decide | omega | exact o_one_t (by assumption) | (rw [o_one_f (by assumption)]; decide) | exact ⟨by assumption, by assumption⟩ | exact fun h9 => absurd h9.1 (by assumption) | exact fun h9 => absurd h9.2 (by assumption))])); all_goals (first | rfl)⟩
        ·
          have c10 : j > 35 := q_le_f rfl (rfl : (35 : Int32) = nI 35) (by omega) (by omega) c10
          refine x_aload_n C dX8_taken_32 0 rfl ?_
          refine x_iload_n C dX8_taken_33 1 rfl ?_
          refine x_bipush C dX8_taken_34 (v := 36) rfl ?_
          refine x_isub C dX8_taken_36 ?_
          refine x_callV C (As := [.int ((nI j) - 36)]) (st := []) (wc := [(m, .inr (7, [.ref a_sky, .ref a_kind, .ref a_more, .ref a_strewn, .int (nI tn), .ref a_treeCell, .ref a_treeSort, .ref a_treeLeaves, .int i_raking, .long l_heaps, .int (nI tz), .ref a_tape, .int (nI wr), .int (nI lw), .ref a_code, .ref a_begins, .int i_made, .int i_at, .int i_from, .int i_sort, .int i_value, .int i_open, .ref a_stack, .ref a_dry, .ref a_wet, .ref a_covered, .ref a_hangs, .ref a_off, .int i_fell, .int i_fellToday, .int i_rotten, .int i_raked, .int i_cost, .ref a_dryGo, .ref a_wetGo, .ref a_keptSky, .int i_imaged, .int (nI itn), .int i_oldRaking, .long l_oldHeaps, .int (nI ilw), .ref a_oldSky, .ref a_oldCells, .ref a_sheetSort, .ref a_sheetSize, .ref a_items, .ref a_spare]))]) (wr := [(a_kind, .inl (cI, 36, .inl kf)), (a_treeLeaves, .inl (cI, 4, .inl ttf))]) (c_X8_isTree l dG cI cM cW cS m a_sky a_kind a_more a_strewn a_treeCell a_treeSort a_treeLeaves a_tape a_code a_begins a_stack a_dry a_wet a_covered a_hangs a_off a_dryGo a_wetGo a_keptSky a_oldSky a_oldCells a_sheetSort a_sheetSize a_items a_spare tn tz wr lw itn ilw i_raking i_made i_at i_from i_sort i_value i_open i_fell i_fellToday i_rotten i_raked i_cost i_imaged i_oldRaking l_heaps l_oldHeaps ((nI j) - 36) ) rZ0_ok (fun _ _ _ _ => trivial) kV_X8_230 ⟨rfl, hy_X8_isTree⟩ ⟨Nat.le_of_ble_eq_true rfl, Nat.le_of_ble_eq_true rfl⟩ ⟨Nat.le_of_ble_eq_true rfl, Nat.le_of_ble_eq_true rfl⟩ dX8_taken_37 0 rfl rfl [0] [1, 2] rfl rfl rfl rfl (by decide) rfl (Nat.le_of_ble_eq_true rfl) ?_
          intro v12 w13 h14
          rcases h14 with h14 | h14
          ·
            obtain ⟨rfl, rfl, hf15⟩ := h14
            show X 0 0 [(a_kind, .inl (cI, 36, .inl kf)), (a_treeLeaves, .inl (cI, 4, .inl ttf)), (m, .inr (7, [.ref a_sky, .ref a_kind, .ref a_more, .ref a_strewn, .int (nI tn), .ref a_treeCell, .ref a_treeSort, .ref a_treeLeaves, .int i_raking, .long l_heaps, .int (nI tz), .ref a_tape, .int (nI wr), .int (nI lw), .ref a_code, .ref a_begins, .int i_made, .int i_at, .int i_from, .int i_sort, .int i_value, .int i_open, .ref a_stack, .ref a_dry, .ref a_wet, .ref a_covered, .ref a_hangs, .ref a_off, .int i_fell, .int i_fellToday, .int i_rotten, .int i_raked, .int i_cost, .ref a_dryGo, .ref a_wetGo, .ref a_keptSky, .int i_imaged, .int (nI itn), .int i_oldRaking, .long l_oldHeaps, .int (nI ilw), .ref a_oldSky, .ref a_oldCells, .ref a_sheetSort, .ref a_sheetSize, .ref a_items, .ref a_spare]))] [(0, .ref m), (1, .int (nI j)), (2, .int 0)] 40 [.int 1]
            refine x_if_ne C dX8_taken_40 (tgt := 46) rfl (fun _ => ?_) (fun q9 => by first | exact absurd q9 (by decide) | exact absurd (by decide) q9)
            refine x_iload_n C dX8_taken_46 2 rfl ?_
            refine x_bipush C dX8_taken_47 (v := 6) rfl ?_
            refine x_icmp_ne C dX8_taken_49 (tgt := 64) rfl (fun _ => ?_) (fun q9 => by first | exact absurd q9 (by decide) | exact absurd (by decide) q9)
            refine x_bipush C dX8_taken_64 (v := (-13)) rfl ?_
            refine x_sub C [2, 0, 1] (ws' := [(m, .inr (7, [.ref a_sky, .ref a_kind, .ref a_more, .ref a_strewn, .int (nI tn), .ref a_treeCell, .ref a_treeSort, .ref a_treeLeaves, .int i_raking, .long l_heaps, .int (nI tz), .ref a_tape, .int (nI wr), .int (nI lw), .ref a_code, .ref a_begins, .int i_made, .int i_at, .int i_from, .int i_sort, .int i_value, .int i_open, .ref a_stack, .ref a_dry, .ref a_wet, .ref a_covered, .ref a_hangs, .ref a_off, .int i_fell, .int i_fellToday, .int i_rotten, .int i_raked, .int i_cost, .ref a_dryGo, .ref a_wetGo, .ref a_keptSky, .int i_imaged, .int (nI itn), .int i_oldRaking, .long l_oldHeaps, .int (nI ilw), .ref a_oldSky, .ref a_oldCells, .ref a_sheetSort, .ref a_sheetSize, .ref a_items, .ref a_spare])), (a_kind, .inl (cI, 36, .inl kf)), (a_treeLeaves, .inl (cI, 4, .inl ttf))]) rfl rfl ?_
            refine E dX8_taken_66 (rfl) ?_
            exact ⟨(-13), rfl, rfl, by (unfold o_taken); (try simp only [hnj]); (repeat (first | rw [if_pos (by first | exact hk9 | (rw [hk9]; decide) | (rw [if_pos (by decide)]; assumption) | (rw [if_neg (by decide), if_pos (by decide)]; assumption) | (rw [if_neg (by decide), if_neg (by decide)]; assumption) | assumption | decide | omega | exact o_one_t (by assumption) | (rw [o_one_f (by assumption)]; decide) | exact ⟨by assumption, by assumption⟩ | exact fun h9 => absurd h9.1 (by assumption) | exact fun h9 => absurd h9.2 (by assumption))] | rw [if_neg (by first | exact hk9 | (rw [hk9]; decide) | (rw [if_pos (by decide)]; assumption) | (rw [if_neg (by decide), if_pos (by decide)]; assumption) | (rw [if_neg (by decide), if_neg (by decide)]; assumption) | assumption | decide | omega | exact o_one_t (by assumption) | (rw [o_one_f (by assumption)]; decide) | exact ⟨by assumption, by assumption⟩ | exact fun h9 => absurd h9.1 (by assumption) | exact fun h9 => absurd h9.2 (by assumption))])); all_goals (first | rfl)⟩
          ·
            obtain ⟨rfl, rfl, hf16⟩ := h14
            show X 0 0 [(a_kind, .inl (cI, 36, .inl kf)), (a_treeLeaves, .inl (cI, 4, .inl ttf)), (m, .inr (7, [.ref a_sky, .ref a_kind, .ref a_more, .ref a_strewn, .int (nI tn), .ref a_treeCell, .ref a_treeSort, .ref a_treeLeaves, .int i_raking, .long l_heaps, .int (nI tz), .ref a_tape, .int (nI wr), .int (nI lw), .ref a_code, .ref a_begins, .int i_made, .int i_at, .int i_from, .int i_sort, .int i_value, .int i_open, .ref a_stack, .ref a_dry, .ref a_wet, .ref a_covered, .ref a_hangs, .ref a_off, .int i_fell, .int i_fellToday, .int i_rotten, .int i_raked, .int i_cost, .ref a_dryGo, .ref a_wetGo, .ref a_keptSky, .int i_imaged, .int (nI itn), .int i_oldRaking, .long l_oldHeaps, .int (nI ilw), .ref a_oldSky, .ref a_oldCells, .ref a_sheetSort, .ref a_sheetSize, .ref a_items, .ref a_spare]))] [(0, .ref m), (1, .int (nI j)), (2, .int 0)] 40 [.int 0]
            refine x_if_ne C dX8_taken_40 (tgt := 46) rfl (fun q9 => absurd q9 (by decide)) (fun _ => ?_)
            refine x_bipush C dX8_taken_43 (v := (-11)) rfl ?_
            refine x_sub C [2, 0, 1] (ws' := [(m, .inr (7, [.ref a_sky, .ref a_kind, .ref a_more, .ref a_strewn, .int (nI tn), .ref a_treeCell, .ref a_treeSort, .ref a_treeLeaves, .int i_raking, .long l_heaps, .int (nI tz), .ref a_tape, .int (nI wr), .int (nI lw), .ref a_code, .ref a_begins, .int i_made, .int i_at, .int i_from, .int i_sort, .int i_value, .int i_open, .ref a_stack, .ref a_dry, .ref a_wet, .ref a_covered, .ref a_hangs, .ref a_off, .int i_fell, .int i_fellToday, .int i_rotten, .int i_raked, .int i_cost, .ref a_dryGo, .ref a_wetGo, .ref a_keptSky, .int i_imaged, .int (nI itn), .int i_oldRaking, .long l_oldHeaps, .int (nI ilw), .ref a_oldSky, .ref a_oldCells, .ref a_sheetSort, .ref a_sheetSize, .ref a_items, .ref a_spare])), (a_kind, .inl (cI, 36, .inl kf)), (a_treeLeaves, .inl (cI, 4, .inl ttf))]) rfl rfl ?_
            refine E dX8_taken_45 (rfl) ?_
            exact ⟨(-11), rfl, rfl, by (unfold o_taken); (try simp only [hnj]); (repeat (first | rw [if_pos (by first | exact hk9 | (rw [hk9]; decide) | (rw [if_pos (by decide)]; assumption) | (rw [if_neg (by decide), if_pos (by decide)]; assumption) | (rw [if_neg (by decide), if_neg (by decide)]; assumption) | assumption | decide | omega | exact o_one_t (by assumption) | (rw [o_one_f (by assumption)]; decide) | exact ⟨by assumption, by assumption⟩ | exact fun h9 => absurd h9.1 (by assumption) | exact fun h9 => absurd h9.2 (by assumption))] | rw [if_neg (by first | exact hk9 | (rw [hk9]; decide) | (rw [if_pos (by decide)]; assumption) | (rw [if_neg (by decide), if_pos (by decide)]; assumption) | (rw [if_neg (by decide), if_neg (by decide)]; assumption) | assumption | decide | omega | exact o_one_t (by assumption) | (rw [o_one_f (by assumption)]; decide) | exact ⟨by assumption, by assumption⟩ | exact fun h9 => absurd h9.1 (by assumption) | exact fun h9 => absurd h9.2 (by assumption))])); all_goals (first | rfl)⟩
      ·
        obtain ⟨rfl, rfl, hf17⟩ := h7
        show X 0 0 [(m, .inr (7, [.ref a_sky, .ref a_kind, .ref a_more, .ref a_strewn, .int (nI tn), .ref a_treeCell, .ref a_treeSort, .ref a_treeLeaves, .int i_raking, .long l_heaps, .int (nI tz), .ref a_tape, .int (nI wr), .int (nI lw), .ref a_code, .ref a_begins, .int i_made, .int i_at, .int i_from, .int i_sort, .int i_value, .int i_open, .ref a_stack, .ref a_dry, .ref a_wet, .ref a_covered, .ref a_hangs, .ref a_off, .int i_fell, .int i_fellToday, .int i_rotten, .int i_raked, .int i_cost, .ref a_dryGo, .ref a_wetGo, .ref a_keptSky, .int i_imaged, .int (nI itn), .int i_oldRaking, .long l_oldHeaps, .int (nI ilw), .ref a_oldSky, .ref a_oldCells, .ref a_sheetSort, .ref a_sheetSize, .ref a_items, .ref a_spare])), (a_kind, .inl (cI, 36, .inl kf)), (a_treeLeaves, .inl (cI, 4, .inl ttf))] [(0, .ref m), (1, .int i), (2, .int 0)] 20 [.int 0]
        refine x_if_ne C dX8_taken_20 (tgt := 26) rfl (fun q9 => absurd q9 (by decide)) (fun _ => ?_)
        refine x_bipush C dX8_taken_23 (v := (-12)) rfl ?_
        refine E dX8_taken_25 (rfl) ?_
        exact ⟨(-12), rfl, rfl, by (unfold o_taken); (repeat (first | rw [if_pos (by first | exact hk9 | (rw [hk9]; decide) | (rw [if_pos (by decide)]; assumption) | (rw [if_neg (by decide), if_pos (by decide)]; assumption) | (rw [if_neg (by decide), if_neg (by decide)]; assumption) | assumption | decide | omega | exact o_one_t (by assumption) | (rw [o_one_f (by assumption)]; decide) | exact ⟨by assumption, by assumption⟩ | exact fun h9 => absurd h9.1 (by assumption) | exact fun h9 => absurd h9.2 (by assumption))] | rw [if_neg (by first | exact hk9 | (rw [hk9]; decide) | (rw [if_pos (by decide)]; assumption) | (rw [if_neg (by decide), if_pos (by decide)]; assumption) | (rw [if_neg (by decide), if_neg (by decide)]; assumption) | assumption | decide | omega | exact o_one_t (by assumption) | (rw [o_one_f (by assumption)]; decide) | exact ⟨by assumption, by assumption⟩ | exact fun h9 => absurd h9.1 (by assumption) | exact fun h9 => absurd h9.2 (by assumption))])); all_goals (first | rfl)⟩
    ·
      refine x_if_ne C dX8_taken_7 (tgt := 13) rfl (fun _ => ?_) (fun q9 => by first | exact absurd q9 (by decide) | exact absurd (by decide) q9)
      refine x_iload_n C dX8_taken_13 1 rfl ?_
      refine x_iconst C dX8_taken_14 (v := 0) rfl ?_
      refine x_bipush C dX8_taken_15 (v := 39) rfl ?_
      refine x_callS C (As := [.int i, .int 0, .int 39]) (st := []) (wc := []) (wr := [(m, .inr (7, [.ref a_sky, .ref a_kind, .ref a_more, .ref a_strewn, .int (nI tn), .ref a_treeCell, .ref a_treeSort, .ref a_treeLeaves, .int i_raking, .long l_heaps, .int (nI tz), .ref a_tape, .int (nI wr), .int (nI lw), .ref a_code, .ref a_begins, .int i_made, .int i_at, .int i_from, .int i_sort, .int i_value, .int i_open, .ref a_stack, .ref a_dry, .ref a_wet, .ref a_covered, .ref a_hangs, .ref a_off, .int i_fell, .int i_fellToday, .int i_rotten, .int i_raked, .int i_cost, .ref a_dryGo, .ref a_wetGo, .ref a_keptSky, .int i_imaged, .int (nI itn), .int i_oldRaking, .long l_oldHeaps, .int (nI ilw), .ref a_oldSky, .ref a_oldCells, .ref a_sheetSort, .ref a_sheetSize, .ref a_items, .ref a_spare])), (a_kind, .inl (cI, 36, .inl kf)), (a_treeLeaves, .inl (cI, 4, .inl ttf))]) (c_X8_within l dG cI cM cW cS i 0 39 ) rZ0_ok (fun _ _ _ _ => trivial) kS_X8_108 hy_X8_within ⟨Nat.le_of_ble_eq_true rfl, Nat.le_of_ble_eq_true rfl⟩ ⟨Nat.le_of_ble_eq_true rfl, Nat.le_of_ble_eq_true rfl⟩ dX8_taken_17 [] [0, 1, 2] rfl rfl rfl rfl (by decide) rfl (Nat.le_of_ble_eq_true rfl) ?_
      intro v18 w19 h20
      rcases h20 with h20 | h20
      ·
        obtain ⟨rfl, rfl, hf21⟩ := h20
        show X 0 0 [(m, .inr (7, [.ref a_sky, .ref a_kind, .ref a_more, .ref a_strewn, .int (nI tn), .ref a_treeCell, .ref a_treeSort, .ref a_treeLeaves, .int i_raking, .long l_heaps, .int (nI tz), .ref a_tape, .int (nI wr), .int (nI lw), .ref a_code, .ref a_begins, .int i_made, .int i_at, .int i_from, .int i_sort, .int i_value, .int i_open, .ref a_stack, .ref a_dry, .ref a_wet, .ref a_covered, .ref a_hangs, .ref a_off, .int i_fell, .int i_fellToday, .int i_rotten, .int i_raked, .int i_cost, .ref a_dryGo, .ref a_wetGo, .ref a_keptSky, .int i_imaged, .int (nI itn), .int i_oldRaking, .long l_oldHeaps, .int (nI ilw), .ref a_oldSky, .ref a_oldCells, .ref a_sheetSort, .ref a_sheetSize, .ref a_items, .ref a_spare])), (a_kind, .inl (cI, 36, .inl kf)), (a_treeLeaves, .inl (cI, 4, .inl ttf))] [(0, .ref m), (1, .int i), (2, .int 1)] 20 [.int 1]
        have hr22 := hf21
        obtain ⟨j, hj, rfl⟩ := q_w (n := 39) rfl (by decide) hf21
        have hnj : o_n (nI j) = j := o_n_nI (by omega)
        refine x_if_ne C dX8_taken_20 (tgt := 26) rfl (fun _ => ?_) (fun q9 => by first | exact absurd q9 (by decide) | exact absurd (by decide) q9)
        refine x_iload_n C dX8_taken_26 1 rfl ?_
        refine x_bipush C dX8_taken_27 (v := 35) rfl ?_
        refine x_icmp_le C dX8_taken_29 (tgt := 67) rfl (fun c23 => ?_) (fun c23 => ?_)
        ·
          have c23 : j ≤ 35 := q_le_t rfl (rfl : (35 : Int32) = nI 35) (by omega) (by omega) c23
          refine x_aload_n C dX8_taken_67 0 rfl ?_
          refine x_get C inlX8 rfl 1 (by decide) gw_10_19 dX8_taken_68 0 rfl rfl ?_
          refine x_iload_n C dX8_taken_71 1 rfl ?_
          refine x_iaload C 0 rfl dX8_taken_72 j (q_cl rfl (by omega)) (q_ix rfl (by omega) (by omega)) 1 rfl ?_
          have hq24 := q_in6 (hkf j (by omega))
          rcases hq24 with hq24 | hq24 | hq24 | hq24 | hq24 | hq24
          ·
            refine x_topi C 0 hq24 ?_
            have hk9 : o_one (kf j) 1 = false := by rw [hq24]; decide
            refine x_istore_n C dX8_taken_73 (by decide) (lv' := [(3, .int 0), (0, .ref m), (1, .int (nI j)), (2, .int 1)]) rfl ?_
            refine x_iload_n C dX8_taken_74 0 rfl ?_
            refine x_iload_n C dX8_taken_75 3 rfl ?_
            refine x_icmp_eq C dX8_taken_76 (tgt := 106) rfl (fun q9 => absurd q9 (by decide)) (fun _ => ?_)
            refine x_iload_n C dX8_taken_79 0 rfl ?_
            refine x_if_le C dX8_taken_80 (tgt := 106) rfl (fun _ => ?_) (fun q9 => by first | exact absurd q9 (by decide) | exact absurd (by decide) q9)
            refine x_iload_n C dX8_taken_106 0 rfl ?_
            refine x_iload_n C dX8_taken_107 3 rfl ?_
            refine x_icmp_ne C dX8_taken_108 (tgt := 115) rfl (fun _ => ?_) (fun q9 => by first | exact absurd q9 (by decide) | exact absurd (by decide) q9)
            refine x_bipush C dX8_taken_115 (v := (-13)) rfl ?_
            show X _ _ _ _ 117 _
            refine E dX8_taken_117 (rfl) ?_
            exact ⟨(-13), rfl, rfl, by (unfold o_taken); (try simp only [hnj]); (repeat (first | rw [if_pos (by first | exact hk9 | (rw [hk9]; decide) | (rw [if_pos (by decide)]; assumption) | (rw [if_neg (by decide), if_pos (by decide)]; assumption) | (rw [if_neg (by decide), if_neg (by decide)]; assumption) | assumption | decide | omega | exact o_one_t (by assumption) | (rw [o_one_f (by assumption)]; decide) | exact ⟨by assumption, by assumption⟩ | exact fun h9 => absurd h9.1 (by assumption) | exact fun h9 => absurd h9.2 (by assumption))] | rw [if_neg (by first | exact hk9 | (rw [hk9]; decide) | (rw [if_pos (by decide)]; assumption) | (rw [if_neg (by decide), if_pos (by decide)]; assumption) | (rw [if_neg (by decide), if_neg (by decide)]; assumption) | assumption | decide | omega | exact o_one_t (by assumption) | (rw [o_one_f (by assumption)]; decide) | exact ⟨by assumption, by assumption⟩ | exact fun h9 => absurd h9.1 (by assumption) | exact fun h9 => absurd h9.2 (by assumption))])); all_goals (first | rfl)⟩
          ·
            refine x_topi C 1 hq24 ?_
            have hk9 : o_one (kf j) 1 = true := by rw [hq24]; decide
            refine x_istore_n C dX8_taken_73 (by decide) (lv' := [(3, .int 1), (0, .ref m), (1, .int (nI j)), (2, .int 1)]) rfl ?_
            refine x_iload_n C dX8_taken_74 0 rfl ?_
            refine x_iload_n C dX8_taken_75 3 rfl ?_
            refine x_icmp_eq C dX8_taken_76 (tgt := 106) rfl (fun _ => ?_) (fun q9 => by first | exact absurd q9 (by decide) | exact absurd (by decide) q9)
            refine x_iload_n C dX8_taken_106 0 rfl ?_
            refine x_iload_n C dX8_taken_107 3 rfl ?_
            refine x_icmp_ne C dX8_taken_108 (tgt := 115) rfl (fun q9 => absurd q9 (by decide)) (fun _ => ?_)
            refine x_iload_n C dX8_taken_111 2 rfl ?_
            refine x_goto C dX8_taken_112 (tgt := 117) rfl ?_
            refine E dX8_taken_117 (rfl) ?_
            exact ⟨(nI j), rfl, rfl, by (unfold o_taken); (try simp only [hnj]); (repeat (first | rw [if_pos (by first | exact hk9 | (rw [hk9]; decide) | (rw [if_pos (by decide)]; assumption) | (rw [if_neg (by decide), if_pos (by decide)]; assumption) | (rw [if_neg (by decide), if_neg (by decide)]; assumption) | assumption | decide | omega | exact o_one_t (by assumption) | (rw [o_one_f (by assumption)]; decide) | exact ⟨by assumption, by assumption⟩ | exact fun h9 => absurd h9.1 (by assumption) | exact fun h9 => absurd h9.2 (by assumption))] | rw [if_neg (by first | exact hk9 | (rw [hk9]; decide) | (rw [if_pos (by decide)]; assumption) | (rw [if_neg (by decide), if_pos (by decide)]; assumption) | (rw [if_neg (by decide), if_neg (by decide)]; assumption) | assumption | decide | omega | exact o_one_t (by assumption) | (rw [o_one_f (by assumption)]; decide) | exact ⟨by assumption, by assumption⟩ | exact fun h9 => absurd h9.1 (by assumption) | exact fun h9 => absurd h9.2 (by assumption))])); all_goals (first | rfl)⟩
          ·
            refine x_topi C 2 hq24 ?_
            have hk9 : o_one (kf j) 1 = false := by rw [hq24]; decide
            refine x_istore_n C dX8_taken_73 (by decide) (lv' := [(3, .int 2), (0, .ref m), (1, .int (nI j)), (2, .int 1)]) rfl ?_
            refine x_iload_n C dX8_taken_74 0 rfl ?_
            refine x_iload_n C dX8_taken_75 3 rfl ?_
            refine x_icmp_eq C dX8_taken_76 (tgt := 106) rfl (fun q9 => absurd q9 (by decide)) (fun _ => ?_)
            refine x_iload_n C dX8_taken_79 0 rfl ?_
            refine x_if_le C dX8_taken_80 (tgt := 106) rfl (fun q9 => absurd q9 (by decide)) (fun _ => ?_)
            refine x_iload_n C dX8_taken_83 0 rfl ?_
            refine x_iconst C dX8_taken_84 (v := 3) rfl ?_
            refine x_icmp_ne C dX8_taken_85 (tgt := 92) rfl (fun _ => ?_) (fun q9 => by first | exact absurd q9 (by decide) | exact absurd (by decide) q9)
            refine x_iload_n C dX8_taken_92 0 rfl ?_
            show X _ _ _ _ 93 _
            refine x_iconst C dX8_taken_93 (v := 5) rfl ?_
            refine x_icmp_ne C dX8_taken_94 (tgt := 101) rfl (fun _ => ?_) (fun q9 => by first | exact absurd q9 (by decide) | exact absurd (by decide) q9)
            refine x_iconst C dX8_taken_101 (v := 0) rfl ?_
            refine x_istore_n C dX8_taken_102 (by decide) (lv' := [(3, .int 0), (0, .ref m), (1, .int (nI j)), (2, .int 1)]) rfl ?_
            refine x_goto C dX8_taken_103 (tgt := 74) rfl ?_
            refine x_iload_n C dX8_taken_74 0 rfl ?_
            refine x_iload_n C dX8_taken_75 3 rfl ?_
            refine x_icmp_eq C dX8_taken_76 (tgt := 106) rfl (fun q9 => absurd q9 (by decide)) (fun _ => ?_)
            refine x_iload_n C dX8_taken_79 0 rfl ?_
            refine x_if_le C dX8_taken_80 (tgt := 106) rfl (fun _ => ?_) (fun q9 => by first | exact absurd q9 (by decide) | exact absurd (by decide) q9)
            show X _ _ _ _ 106 _
            refine x_iload_n C dX8_taken_106 0 rfl ?_
            refine x_iload_n C dX8_taken_107 3 rfl ?_
            refine x_icmp_ne C dX8_taken_108 (tgt := 115) rfl (fun _ => ?_) (fun q9 => by first | exact absurd q9 (by decide) | exact absurd (by decide) q9)
            refine x_bipush C dX8_taken_115 (v := (-13)) rfl ?_
            refine E dX8_taken_117 (rfl) ?_
            exact ⟨(-13), rfl, rfl, by (unfold o_taken); (try simp only [hnj]); (repeat (first | rw [if_pos (by first | exact hk9 | (rw [hk9]; decide) | (rw [if_pos (by decide)]; assumption) | (rw [if_neg (by decide), if_pos (by decide)]; assumption) | (rw [if_neg (by decide), if_neg (by decide)]; assumption) | assumption | decide | omega | exact o_one_t (by assumption) | (rw [o_one_f (by assumption)]; decide) | exact ⟨by assumption, by assumption⟩ | exact fun h9 => absurd h9.1 (by assumption) | exact fun h9 => absurd h9.2 (by assumption))] | rw [if_neg (by first | exact hk9 | (rw [hk9]; decide) | (rw [if_pos (by decide)]; assumption) | (rw [if_neg (by decide), if_pos (by decide)]; assumption) | (rw [if_neg (by decide), if_neg (by decide)]; assumption) | assumption | decide | omega | exact o_one_t (by assumption) | (rw [o_one_f (by assumption)]; decide) | exact ⟨by assumption, by assumption⟩ | exact fun h9 => absurd h9.1 (by assumption) | exact fun h9 => absurd h9.2 (by assumption))])); all_goals (first | rfl)⟩
          ·
            refine x_topi C 3 hq24 ?_
            have hk9 : o_one (kf j) 1 = true := by rw [hq24]; decide
            refine x_istore_n C dX8_taken_73 (by decide) (lv' := [(3, .int 3), (0, .ref m), (1, .int (nI j)), (2, .int 1)]) rfl ?_
            refine x_iload_n C dX8_taken_74 0 rfl ?_
            refine x_iload_n C dX8_taken_75 3 rfl ?_
            refine x_icmp_eq C dX8_taken_76 (tgt := 106) rfl (fun q9 => absurd q9 (by decide)) (fun _ => ?_)
            refine x_iload_n C dX8_taken_79 0 rfl ?_
            refine x_if_le C dX8_taken_80 (tgt := 106) rfl (fun q9 => absurd q9 (by decide)) (fun _ => ?_)
            refine x_iload_n C dX8_taken_83 0 rfl ?_
            refine x_iconst C dX8_taken_84 (v := 3) rfl ?_
            refine x_icmp_ne C dX8_taken_85 (tgt := 92) rfl (fun q9 => absurd q9 (by decide)) (fun _ => ?_)
            refine x_iconst C dX8_taken_88 (v := 1) rfl ?_
            show X _ _ _ _ 89 _
            refine x_goto C dX8_taken_89 (tgt := 102) rfl ?_
            refine x_istore_n C dX8_taken_102 (by decide) (lv' := [(3, .int 1), (0, .ref m), (1, .int (nI j)), (2, .int 1)]) rfl ?_
            refine x_goto C dX8_taken_103 (tgt := 74) rfl ?_
            refine x_iload_n C dX8_taken_74 0 rfl ?_
            refine x_iload_n C dX8_taken_75 3 rfl ?_
            refine x_icmp_eq C dX8_taken_76 (tgt := 106) rfl (fun _ => ?_) (fun q9 => by first | exact absurd q9 (by decide) | exact absurd (by decide) q9)
            refine x_iload_n C dX8_taken_106 0 rfl ?_
            refine x_iload_n C dX8_taken_107 3 rfl ?_
            refine x_icmp_ne C dX8_taken_108 (tgt := 115) rfl (fun q9 => absurd q9 (by decide)) (fun _ => ?_)
            refine x_iload_n C dX8_taken_111 2 rfl ?_
            show X _ _ _ _ 112 _
            refine x_goto C dX8_taken_112 (tgt := 117) rfl ?_
            refine E dX8_taken_117 (rfl) ?_
            exact ⟨(nI j), rfl, rfl, by (unfold o_taken); (try simp only [hnj]); (repeat (first | rw [if_pos (by first | exact hk9 | (rw [hk9]; decide) | (rw [if_pos (by decide)]; assumption) | (rw [if_neg (by decide), if_pos (by decide)]; assumption) | (rw [if_neg (by decide), if_neg (by decide)]; assumption) | assumption | decide | omega | exact o_one_t (by assumption) | (rw [o_one_f (by assumption)]; decide) | exact ⟨by assumption, by assumption⟩ | exact fun h9 => absurd h9.1 (by assumption) | exact fun h9 => absurd h9.2 (by assumption))] | rw [if_neg (by first | exact hk9 | (rw [hk9]; decide) | (rw [if_pos (by decide)]; assumption) | (rw [if_neg (by decide), if_pos (by decide)]; assumption) | (rw [if_neg (by decide), if_neg (by decide)]; assumption) | assumption | decide | omega | exact o_one_t (by assumption) | (rw [o_one_f (by assumption)]; decide) | exact ⟨by assumption, by assumption⟩ | exact fun h9 => absurd h9.1 (by assumption) | exact fun h9 => absurd h9.2 (by assumption))])); all_goals (first | rfl)⟩
          ·
            refine x_topi C 4 hq24 ?_
            have hk9 : o_one (kf j) 1 = false := by rw [hq24]; decide
            refine x_istore_n C dX8_taken_73 (by decide) (lv' := [(3, .int 4), (0, .ref m), (1, .int (nI j)), (2, .int 1)]) rfl ?_
            refine x_iload_n C dX8_taken_74 0 rfl ?_
            refine x_iload_n C dX8_taken_75 3 rfl ?_
            refine x_icmp_eq C dX8_taken_76 (tgt := 106) rfl (fun q9 => absurd q9 (by decide)) (fun _ => ?_)
            refine x_iload_n C dX8_taken_79 0 rfl ?_
            refine x_if_le C dX8_taken_80 (tgt := 106) rfl (fun q9 => absurd q9 (by decide)) (fun _ => ?_)
            refine x_iload_n C dX8_taken_83 0 rfl ?_
            refine x_iconst C dX8_taken_84 (v := 3) rfl ?_
            refine x_icmp_ne C dX8_taken_85 (tgt := 92) rfl (fun _ => ?_) (fun q9 => by first | exact absurd q9 (by decide) | exact absurd (by decide) q9)
            refine x_iload_n C dX8_taken_92 0 rfl ?_
            show X _ _ _ _ 93 _
            refine x_iconst C dX8_taken_93 (v := 5) rfl ?_
            refine x_icmp_ne C dX8_taken_94 (tgt := 101) rfl (fun _ => ?_) (fun q9 => by first | exact absurd q9 (by decide) | exact absurd (by decide) q9)
            refine x_iconst C dX8_taken_101 (v := 0) rfl ?_
            refine x_istore_n C dX8_taken_102 (by decide) (lv' := [(3, .int 0), (0, .ref m), (1, .int (nI j)), (2, .int 1)]) rfl ?_
            refine x_goto C dX8_taken_103 (tgt := 74) rfl ?_
            refine x_iload_n C dX8_taken_74 0 rfl ?_
            refine x_iload_n C dX8_taken_75 3 rfl ?_
            refine x_icmp_eq C dX8_taken_76 (tgt := 106) rfl (fun q9 => absurd q9 (by decide)) (fun _ => ?_)
            refine x_iload_n C dX8_taken_79 0 rfl ?_
            refine x_if_le C dX8_taken_80 (tgt := 106) rfl (fun _ => ?_) (fun q9 => by first | exact absurd q9 (by decide) | exact absurd (by decide) q9)
            show X _ _ _ _ 106 _
            refine x_iload_n C dX8_taken_106 0 rfl ?_
            refine x_iload_n C dX8_taken_107 3 rfl ?_
            refine x_icmp_ne C dX8_taken_108 (tgt := 115) rfl (fun _ => ?_) (fun q9 => by first | exact absurd q9 (by decide) | exact absurd (by decide) q9)
            refine x_bipush C dX8_taken_115 (v := (-13)) rfl ?_
            refine E dX8_taken_117 (rfl) ?_
            exact ⟨(-13), rfl, rfl, by (unfold o_taken); (try simp only [hnj]); (repeat (first | rw [if_pos (by first | exact hk9 | (rw [hk9]; decide) | (rw [if_pos (by decide)]; assumption) | (rw [if_neg (by decide), if_pos (by decide)]; assumption) | (rw [if_neg (by decide), if_neg (by decide)]; assumption) | assumption | decide | omega | exact o_one_t (by assumption) | (rw [o_one_f (by assumption)]; decide) | exact ⟨by assumption, by assumption⟩ | exact fun h9 => absurd h9.1 (by assumption) | exact fun h9 => absurd h9.2 (by assumption))] | rw [if_neg (by first | exact hk9 | (rw [hk9]; decide) | (rw [if_pos (by decide)]; assumption) | (rw [if_neg (by decide), if_pos (by decide)]; assumption) | (rw [if_neg (by decide), if_neg (by decide)]; assumption) | assumption | decide | omega | exact o_one_t (by assumption) | (rw [o_one_f (by assumption)]; decide) | exact ⟨by assumption, by assumption⟩ | exact fun h9 => absurd h9.1 (by assumption) | exact fun h9 => absurd h9.2 (by assumption))])); all_goals (first | rfl)⟩
          ·
            refine x_topi C 5 hq24 ?_
            have hk9 : o_one (kf j) 1 = false := by rw [hq24]; decide
            refine x_istore_n C dX8_taken_73 (by decide) (lv' := [(3, .int 5), (0, .ref m), (1, .int (nI j)), (2, .int 1)]) rfl ?_
            refine x_iload_n C dX8_taken_74 0 rfl ?_
            refine x_iload_n C dX8_taken_75 3 rfl ?_
            refine x_icmp_eq C dX8_taken_76 (tgt := 106) rfl (fun q9 => absurd q9 (by decide)) (fun _ => ?_)
            refine x_iload_n C dX8_taken_79 0 rfl ?_
            refine x_if_le C dX8_taken_80 (tgt := 106) rfl (fun q9 => absurd q9 (by decide)) (fun _ => ?_)
            refine x_iload_n C dX8_taken_83 0 rfl ?_
            refine x_iconst C dX8_taken_84 (v := 3) rfl ?_
            refine x_icmp_ne C dX8_taken_85 (tgt := 92) rfl (fun _ => ?_) (fun q9 => by first | exact absurd q9 (by decide) | exact absurd (by decide) q9)
            refine x_iload_n C dX8_taken_92 0 rfl ?_
            show X _ _ _ _ 93 _
            refine x_iconst C dX8_taken_93 (v := 5) rfl ?_
            refine x_icmp_ne C dX8_taken_94 (tgt := 101) rfl (fun q9 => absurd q9 (by decide)) (fun _ => ?_)
            refine x_iconst C dX8_taken_97 (v := 2) rfl ?_
            refine x_goto C dX8_taken_98 (tgt := 102) rfl ?_
            refine x_istore_n C dX8_taken_102 (by decide) (lv' := [(3, .int 2), (0, .ref m), (1, .int (nI j)), (2, .int 1)]) rfl ?_
            refine x_goto C dX8_taken_103 (tgt := 74) rfl ?_
            refine x_iload_n C dX8_taken_74 0 rfl ?_
            refine x_iload_n C dX8_taken_75 3 rfl ?_
            refine x_icmp_eq C dX8_taken_76 (tgt := 106) rfl (fun q9 => absurd q9 (by decide)) (fun _ => ?_)
            refine x_iload_n C dX8_taken_79 0 rfl ?_
            show X _ _ _ _ 80 _
            refine x_if_le C dX8_taken_80 (tgt := 106) rfl (fun q9 => absurd q9 (by decide)) (fun _ => ?_)
            refine x_iload_n C dX8_taken_83 0 rfl ?_
            refine x_iconst C dX8_taken_84 (v := 3) rfl ?_
            refine x_icmp_ne C dX8_taken_85 (tgt := 92) rfl (fun _ => ?_) (fun q9 => by first | exact absurd q9 (by decide) | exact absurd (by decide) q9)
            refine x_iload_n C dX8_taken_92 0 rfl ?_
            refine x_iconst C dX8_taken_93 (v := 5) rfl ?_
            refine x_icmp_ne C dX8_taken_94 (tgt := 101) rfl (fun _ => ?_) (fun q9 => by first | exact absurd q9 (by decide) | exact absurd (by decide) q9)
            refine x_iconst C dX8_taken_101 (v := 0) rfl ?_
            refine x_istore_n C dX8_taken_102 (by decide) (lv' := [(3, .int 0), (0, .ref m), (1, .int (nI j)), (2, .int 1)]) rfl ?_
            refine x_goto C dX8_taken_103 (tgt := 74) rfl ?_
            show X _ _ _ _ 74 _
            refine x_iload_n C dX8_taken_74 0 rfl ?_
            refine x_iload_n C dX8_taken_75 3 rfl ?_
            refine x_icmp_eq C dX8_taken_76 (tgt := 106) rfl (fun q9 => absurd q9 (by decide)) (fun _ => ?_)
            refine x_iload_n C dX8_taken_79 0 rfl ?_
            refine x_if_le C dX8_taken_80 (tgt := 106) rfl (fun _ => ?_) (fun q9 => by first | exact absurd q9 (by decide) | exact absurd (by decide) q9)
            refine x_iload_n C dX8_taken_106 0 rfl ?_
            refine x_iload_n C dX8_taken_107 3 rfl ?_
            refine x_icmp_ne C dX8_taken_108 (tgt := 115) rfl (fun _ => ?_) (fun q9 => by first | exact absurd q9 (by decide) | exact absurd (by decide) q9)
            refine x_bipush C dX8_taken_115 (v := (-13)) rfl ?_
            refine E dX8_taken_117 (rfl) ?_
            exact ⟨(-13), rfl, rfl, by (unfold o_taken); (try simp only [hnj]); (repeat (first | rw [if_pos (by first | exact hk9 | (rw [hk9]; decide) | (rw [if_pos (by decide)]; assumption) | (rw [if_neg (by decide), if_pos (by decide)]; assumption) | (rw [if_neg (by decide), if_neg (by decide)]; assumption) | assumption | decide | omega | exact o_one_t (by assumption) | (rw [o_one_f (by assumption)]; decide) | exact ⟨by assumption, by assumption⟩ | exact fun h9 => absurd h9.1 (by assumption) | exact fun h9 => absurd h9.2 (by assumption))] | rw [if_neg (by first | exact hk9 | (rw [hk9]; decide) | (rw [if_pos (by decide)]; assumption) | (rw [if_neg (by decide), if_pos (by decide)]; assumption) | (rw [if_neg (by decide), if_neg (by decide)]; assumption) | assumption | decide | omega | exact o_one_t (by assumption) | (rw [o_one_f (by assumption)]; decide) | exact ⟨by assumption, by assumption⟩ | exact fun h9 => absurd h9.1 (by assumption) | exact fun h9 => absurd h9.2 (by assumption))])); all_goals (first | rfl)⟩
        ·
          have c23 : j > 35 := q_le_f rfl (rfl : (35 : Int32) = nI 35) (by omega) (by omega) c23
          refine x_aload_n C dX8_taken_32 0 rfl ?_
          refine x_iload_n C dX8_taken_33 1 rfl ?_
          refine x_bipush C dX8_taken_34 (v := 36) rfl ?_
          refine x_isub C dX8_taken_36 ?_
          refine x_callV C (As := [.int ((nI j) - 36)]) (st := []) (wc := [(m, .inr (7, [.ref a_sky, .ref a_kind, .ref a_more, .ref a_strewn, .int (nI tn), .ref a_treeCell, .ref a_treeSort, .ref a_treeLeaves, .int i_raking, .long l_heaps, .int (nI tz), .ref a_tape, .int (nI wr), .int (nI lw), .ref a_code, .ref a_begins, .int i_made, .int i_at, .int i_from, .int i_sort, .int i_value, .int i_open, .ref a_stack, .ref a_dry, .ref a_wet, .ref a_covered, .ref a_hangs, .ref a_off, .int i_fell, .int i_fellToday, .int i_rotten, .int i_raked, .int i_cost, .ref a_dryGo, .ref a_wetGo, .ref a_keptSky, .int i_imaged, .int (nI itn), .int i_oldRaking, .long l_oldHeaps, .int (nI ilw), .ref a_oldSky, .ref a_oldCells, .ref a_sheetSort, .ref a_sheetSize, .ref a_items, .ref a_spare]))]) (wr := [(a_kind, .inl (cI, 36, .inl kf)), (a_treeLeaves, .inl (cI, 4, .inl ttf))]) (c_X8_isTree l dG cI cM cW cS m a_sky a_kind a_more a_strewn a_treeCell a_treeSort a_treeLeaves a_tape a_code a_begins a_stack a_dry a_wet a_covered a_hangs a_off a_dryGo a_wetGo a_keptSky a_oldSky a_oldCells a_sheetSort a_sheetSize a_items a_spare tn tz wr lw itn ilw i_raking i_made i_at i_from i_sort i_value i_open i_fell i_fellToday i_rotten i_raked i_cost i_imaged i_oldRaking l_heaps l_oldHeaps ((nI j) - 36) ) rZ0_ok (fun _ _ _ _ => trivial) kV_X8_230 ⟨rfl, hy_X8_isTree⟩ ⟨Nat.le_of_ble_eq_true rfl, Nat.le_of_ble_eq_true rfl⟩ ⟨Nat.le_of_ble_eq_true rfl, Nat.le_of_ble_eq_true rfl⟩ dX8_taken_37 0 rfl rfl [0] [1, 2] rfl rfl rfl rfl (by decide) rfl (Nat.le_of_ble_eq_true rfl) ?_
          intro v25 w26 h27
          rcases h27 with h27 | h27
          ·
            obtain ⟨rfl, rfl, hf28⟩ := h27
            show X 0 0 [(a_kind, .inl (cI, 36, .inl kf)), (a_treeLeaves, .inl (cI, 4, .inl ttf)), (m, .inr (7, [.ref a_sky, .ref a_kind, .ref a_more, .ref a_strewn, .int (nI tn), .ref a_treeCell, .ref a_treeSort, .ref a_treeLeaves, .int i_raking, .long l_heaps, .int (nI tz), .ref a_tape, .int (nI wr), .int (nI lw), .ref a_code, .ref a_begins, .int i_made, .int i_at, .int i_from, .int i_sort, .int i_value, .int i_open, .ref a_stack, .ref a_dry, .ref a_wet, .ref a_covered, .ref a_hangs, .ref a_off, .int i_fell, .int i_fellToday, .int i_rotten, .int i_raked, .int i_cost, .ref a_dryGo, .ref a_wetGo, .ref a_keptSky, .int i_imaged, .int (nI itn), .int i_oldRaking, .long l_oldHeaps, .int (nI ilw), .ref a_oldSky, .ref a_oldCells, .ref a_sheetSort, .ref a_sheetSize, .ref a_items, .ref a_spare]))] [(0, .ref m), (1, .int (nI j)), (2, .int 1)] 40 [.int 1]
            refine x_if_ne C dX8_taken_40 (tgt := 46) rfl (fun _ => ?_) (fun q9 => by first | exact absurd q9 (by decide) | exact absurd (by decide) q9)
            refine x_iload_n C dX8_taken_46 2 rfl ?_
            refine x_bipush C dX8_taken_47 (v := 6) rfl ?_
            refine x_icmp_ne C dX8_taken_49 (tgt := 64) rfl (fun _ => ?_) (fun q9 => by first | exact absurd q9 (by decide) | exact absurd (by decide) q9)
            refine x_bipush C dX8_taken_64 (v := (-13)) rfl ?_
            refine x_sub C [2, 0, 1] (ws' := [(m, .inr (7, [.ref a_sky, .ref a_kind, .ref a_more, .ref a_strewn, .int (nI tn), .ref a_treeCell, .ref a_treeSort, .ref a_treeLeaves, .int i_raking, .long l_heaps, .int (nI tz), .ref a_tape, .int (nI wr), .int (nI lw), .ref a_code, .ref a_begins, .int i_made, .int i_at, .int i_from, .int i_sort, .int i_value, .int i_open, .ref a_stack, .ref a_dry, .ref a_wet, .ref a_covered, .ref a_hangs, .ref a_off, .int i_fell, .int i_fellToday, .int i_rotten, .int i_raked, .int i_cost, .ref a_dryGo, .ref a_wetGo, .ref a_keptSky, .int i_imaged, .int (nI itn), .int i_oldRaking, .long l_oldHeaps, .int (nI ilw), .ref a_oldSky, .ref a_oldCells, .ref a_sheetSort, .ref a_sheetSize, .ref a_items, .ref a_spare])), (a_kind, .inl (cI, 36, .inl kf)), (a_treeLeaves, .inl (cI, 4, .inl ttf))]) rfl rfl ?_
            refine E dX8_taken_66 (rfl) ?_
            exact ⟨(-13), rfl, rfl, by (unfold o_taken); (try simp only [hnj]); (repeat (first | rw [if_pos (by first | exact hk9 | (rw [hk9]; decide) | (rw [if_pos (by decide)]; assumption) | (rw [if_neg (by decide), if_pos (by decide)]; assumption) | (rw [if_neg (by decide), if_neg (by decide)]; assumption) | assumption | decide | omega | exact o_one_t (by assumption) | (rw [o_one_f (by assumption)]; decide) | exact ⟨by assumption, by assumption⟩ | exact fun h9 => absurd h9.1 (by assumption) | exact fun h9 => absurd h9.2 (by assumption))] | rw [if_neg (by first | exact hk9 | (rw [hk9]; decide) | (rw [if_pos (by decide)]; assumption) | (rw [if_neg (by decide), if_pos (by decide)]; assumption) | (rw [if_neg (by decide), if_neg (by decide)]; assumption) | assumption | decide | omega | exact o_one_t (by assumption) | (rw [o_one_f (by assumption)]; decide) | exact ⟨by assumption, by assumption⟩ | exact fun h9 => absurd h9.1 (by assumption) | exact fun h9 => absurd h9.2 (by assumption))])); all_goals (first | rfl)⟩
          ·
            obtain ⟨rfl, rfl, hf29⟩ := h27
            show X 0 0 [(a_kind, .inl (cI, 36, .inl kf)), (a_treeLeaves, .inl (cI, 4, .inl ttf)), (m, .inr (7, [.ref a_sky, .ref a_kind, .ref a_more, .ref a_strewn, .int (nI tn), .ref a_treeCell, .ref a_treeSort, .ref a_treeLeaves, .int i_raking, .long l_heaps, .int (nI tz), .ref a_tape, .int (nI wr), .int (nI lw), .ref a_code, .ref a_begins, .int i_made, .int i_at, .int i_from, .int i_sort, .int i_value, .int i_open, .ref a_stack, .ref a_dry, .ref a_wet, .ref a_covered, .ref a_hangs, .ref a_off, .int i_fell, .int i_fellToday, .int i_rotten, .int i_raked, .int i_cost, .ref a_dryGo, .ref a_wetGo, .ref a_keptSky, .int i_imaged, .int (nI itn), .int i_oldRaking, .long l_oldHeaps, .int (nI ilw), .ref a_oldSky, .ref a_oldCells, .ref a_sheetSort, .ref a_sheetSize, .ref a_items, .ref a_spare]))] [(0, .ref m), (1, .int (nI j)), (2, .int 1)] 40 [.int 0]
            refine x_if_ne C dX8_taken_40 (tgt := 46) rfl (fun q9 => absurd q9 (by decide)) (fun _ => ?_)
            refine x_bipush C dX8_taken_43 (v := (-11)) rfl ?_
            refine x_sub C [2, 0, 1] (ws' := [(m, .inr (7, [.ref a_sky, .ref a_kind, .ref a_more, .ref a_strewn, .int (nI tn), .ref a_treeCell, .ref a_treeSort, .ref a_treeLeaves, .int i_raking, .long l_heaps, .int (nI tz), .ref a_tape, .int (nI wr), .int (nI lw), .ref a_code, .ref a_begins, .int i_made, .int i_at, .int i_from, .int i_sort, .int i_value, .int i_open, .ref a_stack, .ref a_dry, .ref a_wet, .ref a_covered, .ref a_hangs, .ref a_off, .int i_fell, .int i_fellToday, .int i_rotten, .int i_raked, .int i_cost, .ref a_dryGo, .ref a_wetGo, .ref a_keptSky, .int i_imaged, .int (nI itn), .int i_oldRaking, .long l_oldHeaps, .int (nI ilw), .ref a_oldSky, .ref a_oldCells, .ref a_sheetSort, .ref a_sheetSize, .ref a_items, .ref a_spare])), (a_kind, .inl (cI, 36, .inl kf)), (a_treeLeaves, .inl (cI, 4, .inl ttf))]) rfl rfl ?_
            refine E dX8_taken_45 (rfl) ?_
            exact ⟨(-11), rfl, rfl, by (unfold o_taken); (try simp only [hnj]); (repeat (first | rw [if_pos (by first | exact hk9 | (rw [hk9]; decide) | (rw [if_pos (by decide)]; assumption) | (rw [if_neg (by decide), if_pos (by decide)]; assumption) | (rw [if_neg (by decide), if_neg (by decide)]; assumption) | assumption | decide | omega | exact o_one_t (by assumption) | (rw [o_one_f (by assumption)]; decide) | exact ⟨by assumption, by assumption⟩ | exact fun h9 => absurd h9.1 (by assumption) | exact fun h9 => absurd h9.2 (by assumption))] | rw [if_neg (by first | exact hk9 | (rw [hk9]; decide) | (rw [if_pos (by decide)]; assumption) | (rw [if_neg (by decide), if_pos (by decide)]; assumption) | (rw [if_neg (by decide), if_neg (by decide)]; assumption) | assumption | decide | omega | exact o_one_t (by assumption) | (rw [o_one_f (by assumption)]; decide) | exact ⟨by assumption, by assumption⟩ | exact fun h9 => absurd h9.1 (by assumption) | exact fun h9 => absurd h9.2 (by assumption))])); all_goals (first | rfl)⟩
      ·
        obtain ⟨rfl, rfl, hf30⟩ := h20
        show X 0 0 [(m, .inr (7, [.ref a_sky, .ref a_kind, .ref a_more, .ref a_strewn, .int (nI tn), .ref a_treeCell, .ref a_treeSort, .ref a_treeLeaves, .int i_raking, .long l_heaps, .int (nI tz), .ref a_tape, .int (nI wr), .int (nI lw), .ref a_code, .ref a_begins, .int i_made, .int i_at, .int i_from, .int i_sort, .int i_value, .int i_open, .ref a_stack, .ref a_dry, .ref a_wet, .ref a_covered, .ref a_hangs, .ref a_off, .int i_fell, .int i_fellToday, .int i_rotten, .int i_raked, .int i_cost, .ref a_dryGo, .ref a_wetGo, .ref a_keptSky, .int i_imaged, .int (nI itn), .int i_oldRaking, .long l_oldHeaps, .int (nI ilw), .ref a_oldSky, .ref a_oldCells, .ref a_sheetSort, .ref a_sheetSize, .ref a_items, .ref a_spare])), (a_kind, .inl (cI, 36, .inl kf)), (a_treeLeaves, .inl (cI, 4, .inl ttf))] [(0, .ref m), (1, .int i), (2, .int 1)] 20 [.int 0]
        refine x_if_ne C dX8_taken_20 (tgt := 26) rfl (fun q9 => absurd q9 (by decide)) (fun _ => ?_)
        refine x_bipush C dX8_taken_23 (v := (-12)) rfl ?_
        refine E dX8_taken_25 (rfl) ?_
        exact ⟨(-12), rfl, rfl, by (unfold o_taken); (repeat (first | rw [if_pos (by first | exact hk9 | (rw [hk9]; decide) | (rw [if_pos (by decide)]; assumption) | (rw [if_neg (by decide), if_pos (by decide)]; assumption) | (rw [if_neg (by decide), if_neg (by decide)]; assumption) | assumption | decide | omega | exact o_one_t (by assumption) | (rw [o_one_f (by assumption)]; decide) | exact ⟨by assumption, by assumption⟩ | exact fun h9 => absurd h9.1 (by assumption) | exact fun h9 => absurd h9.2 (by assumption))] | rw [if_neg (by first | exact hk9 | (rw [hk9]; decide) | (rw [if_pos (by decide)]; assumption) | (rw [if_neg (by decide), if_pos (by decide)]; assumption) | (rw [if_neg (by decide), if_neg (by decide)]; assumption) | assumption | decide | omega | exact o_one_t (by assumption) | (rw [o_one_f (by assumption)]; decide) | exact ⟨by assumption, by assumption⟩ | exact fun h9 => absurd h9.1 (by assumption) | exact fun h9 => absurd h9.2 (by assumption))])); all_goals (first | rfl)⟩
    ·
      refine x_if_ne C dX8_taken_7 (tgt := 13) rfl (fun _ => ?_) (fun q9 => by first | exact absurd q9 (by decide) | exact absurd (by decide) q9)
      refine x_iload_n C dX8_taken_13 1 rfl ?_
      refine x_iconst C dX8_taken_14 (v := 0) rfl ?_
      refine x_bipush C dX8_taken_15 (v := 39) rfl ?_
      refine x_callS C (As := [.int i, .int 0, .int 39]) (st := []) (wc := []) (wr := [(m, .inr (7, [.ref a_sky, .ref a_kind, .ref a_more, .ref a_strewn, .int (nI tn), .ref a_treeCell, .ref a_treeSort, .ref a_treeLeaves, .int i_raking, .long l_heaps, .int (nI tz), .ref a_tape, .int (nI wr), .int (nI lw), .ref a_code, .ref a_begins, .int i_made, .int i_at, .int i_from, .int i_sort, .int i_value, .int i_open, .ref a_stack, .ref a_dry, .ref a_wet, .ref a_covered, .ref a_hangs, .ref a_off, .int i_fell, .int i_fellToday, .int i_rotten, .int i_raked, .int i_cost, .ref a_dryGo, .ref a_wetGo, .ref a_keptSky, .int i_imaged, .int (nI itn), .int i_oldRaking, .long l_oldHeaps, .int (nI ilw), .ref a_oldSky, .ref a_oldCells, .ref a_sheetSort, .ref a_sheetSize, .ref a_items, .ref a_spare])), (a_kind, .inl (cI, 36, .inl kf)), (a_treeLeaves, .inl (cI, 4, .inl ttf))]) (c_X8_within l dG cI cM cW cS i 0 39 ) rZ0_ok (fun _ _ _ _ => trivial) kS_X8_108 hy_X8_within ⟨Nat.le_of_ble_eq_true rfl, Nat.le_of_ble_eq_true rfl⟩ ⟨Nat.le_of_ble_eq_true rfl, Nat.le_of_ble_eq_true rfl⟩ dX8_taken_17 [] [0, 1, 2] rfl rfl rfl rfl (by decide) rfl (Nat.le_of_ble_eq_true rfl) ?_
      intro v31 w32 h33
      rcases h33 with h33 | h33
      ·
        obtain ⟨rfl, rfl, hf34⟩ := h33
        show X 0 0 [(m, .inr (7, [.ref a_sky, .ref a_kind, .ref a_more, .ref a_strewn, .int (nI tn), .ref a_treeCell, .ref a_treeSort, .ref a_treeLeaves, .int i_raking, .long l_heaps, .int (nI tz), .ref a_tape, .int (nI wr), .int (nI lw), .ref a_code, .ref a_begins, .int i_made, .int i_at, .int i_from, .int i_sort, .int i_value, .int i_open, .ref a_stack, .ref a_dry, .ref a_wet, .ref a_covered, .ref a_hangs, .ref a_off, .int i_fell, .int i_fellToday, .int i_rotten, .int i_raked, .int i_cost, .ref a_dryGo, .ref a_wetGo, .ref a_keptSky, .int i_imaged, .int (nI itn), .int i_oldRaking, .long l_oldHeaps, .int (nI ilw), .ref a_oldSky, .ref a_oldCells, .ref a_sheetSort, .ref a_sheetSize, .ref a_items, .ref a_spare])), (a_kind, .inl (cI, 36, .inl kf)), (a_treeLeaves, .inl (cI, 4, .inl ttf))] [(0, .ref m), (1, .int i), (2, .int 2)] 20 [.int 1]
        have hr35 := hf34
        obtain ⟨j, hj, rfl⟩ := q_w (n := 39) rfl (by decide) hf34
        have hnj : o_n (nI j) = j := o_n_nI (by omega)
        refine x_if_ne C dX8_taken_20 (tgt := 26) rfl (fun _ => ?_) (fun q9 => by first | exact absurd q9 (by decide) | exact absurd (by decide) q9)
        refine x_iload_n C dX8_taken_26 1 rfl ?_
        refine x_bipush C dX8_taken_27 (v := 35) rfl ?_
        refine x_icmp_le C dX8_taken_29 (tgt := 67) rfl (fun c36 => ?_) (fun c36 => ?_)
        ·
          have c36 : j ≤ 35 := q_le_t rfl (rfl : (35 : Int32) = nI 35) (by omega) (by omega) c36
          refine x_aload_n C dX8_taken_67 0 rfl ?_
          refine x_get C inlX8 rfl 1 (by decide) gw_10_19 dX8_taken_68 0 rfl rfl ?_
          refine x_iload_n C dX8_taken_71 1 rfl ?_
          refine x_iaload C 0 rfl dX8_taken_72 j (q_cl rfl (by omega)) (q_ix rfl (by omega) (by omega)) 1 rfl ?_
          have hq37 := q_in6 (hkf j (by omega))
          rcases hq37 with hq37 | hq37 | hq37 | hq37 | hq37 | hq37
          ·
            refine x_topi C 0 hq37 ?_
            have hk9 : o_one (kf j) 2 = false := by rw [hq37]; decide
            refine x_istore_n C dX8_taken_73 (by decide) (lv' := [(3, .int 0), (0, .ref m), (1, .int (nI j)), (2, .int 2)]) rfl ?_
            refine x_iload_n C dX8_taken_74 0 rfl ?_
            refine x_iload_n C dX8_taken_75 3 rfl ?_
            refine x_icmp_eq C dX8_taken_76 (tgt := 106) rfl (fun q9 => absurd q9 (by decide)) (fun _ => ?_)
            refine x_iload_n C dX8_taken_79 0 rfl ?_
            refine x_if_le C dX8_taken_80 (tgt := 106) rfl (fun _ => ?_) (fun q9 => by first | exact absurd q9 (by decide) | exact absurd (by decide) q9)
            refine x_iload_n C dX8_taken_106 0 rfl ?_
            refine x_iload_n C dX8_taken_107 3 rfl ?_
            refine x_icmp_ne C dX8_taken_108 (tgt := 115) rfl (fun _ => ?_) (fun q9 => by first | exact absurd q9 (by decide) | exact absurd (by decide) q9)
            refine x_bipush C dX8_taken_115 (v := (-13)) rfl ?_
            show X _ _ _ _ 117 _
            refine E dX8_taken_117 (rfl) ?_
            exact ⟨(-13), rfl, rfl, by (unfold o_taken); (try simp only [hnj]); (repeat (first | rw [if_pos (by first | exact hk9 | (rw [hk9]; decide) | (rw [if_pos (by decide)]; assumption) | (rw [if_neg (by decide), if_pos (by decide)]; assumption) | (rw [if_neg (by decide), if_neg (by decide)]; assumption) | assumption | decide | omega | exact o_one_t (by assumption) | (rw [o_one_f (by assumption)]; decide) | exact ⟨by assumption, by assumption⟩ | exact fun h9 => absurd h9.1 (by assumption) | exact fun h9 => absurd h9.2 (by assumption))] | rw [if_neg (by first | exact hk9 | (rw [hk9]; decide) | (rw [if_pos (by decide)]; assumption) | (rw [if_neg (by decide), if_pos (by decide)]; assumption) | (rw [if_neg (by decide), if_neg (by decide)]; assumption) | assumption | decide | omega | exact o_one_t (by assumption) | (rw [o_one_f (by assumption)]; decide) | exact ⟨by assumption, by assumption⟩ | exact fun h9 => absurd h9.1 (by assumption) | exact fun h9 => absurd h9.2 (by assumption))])); all_goals (first | rfl)⟩
          ·
            refine x_topi C 1 hq37 ?_
            have hk9 : o_one (kf j) 2 = false := by rw [hq37]; decide
            refine x_istore_n C dX8_taken_73 (by decide) (lv' := [(3, .int 1), (0, .ref m), (1, .int (nI j)), (2, .int 2)]) rfl ?_
            refine x_iload_n C dX8_taken_74 0 rfl ?_
            refine x_iload_n C dX8_taken_75 3 rfl ?_
            refine x_icmp_eq C dX8_taken_76 (tgt := 106) rfl (fun q9 => absurd q9 (by decide)) (fun _ => ?_)
            refine x_iload_n C dX8_taken_79 0 rfl ?_
            refine x_if_le C dX8_taken_80 (tgt := 106) rfl (fun q9 => absurd q9 (by decide)) (fun _ => ?_)
            refine x_iload_n C dX8_taken_83 0 rfl ?_
            refine x_iconst C dX8_taken_84 (v := 3) rfl ?_
            refine x_icmp_ne C dX8_taken_85 (tgt := 92) rfl (fun _ => ?_) (fun q9 => by first | exact absurd q9 (by decide) | exact absurd (by decide) q9)
            refine x_iload_n C dX8_taken_92 0 rfl ?_
            show X _ _ _ _ 93 _
            refine x_iconst C dX8_taken_93 (v := 5) rfl ?_
            refine x_icmp_ne C dX8_taken_94 (tgt := 101) rfl (fun _ => ?_) (fun q9 => by first | exact absurd q9 (by decide) | exact absurd (by decide) q9)
            refine x_iconst C dX8_taken_101 (v := 0) rfl ?_
            refine x_istore_n C dX8_taken_102 (by decide) (lv' := [(3, .int 0), (0, .ref m), (1, .int (nI j)), (2, .int 2)]) rfl ?_
            refine x_goto C dX8_taken_103 (tgt := 74) rfl ?_
            refine x_iload_n C dX8_taken_74 0 rfl ?_
            refine x_iload_n C dX8_taken_75 3 rfl ?_
            refine x_icmp_eq C dX8_taken_76 (tgt := 106) rfl (fun q9 => absurd q9 (by decide)) (fun _ => ?_)
            refine x_iload_n C dX8_taken_79 0 rfl ?_
            refine x_if_le C dX8_taken_80 (tgt := 106) rfl (fun _ => ?_) (fun q9 => by first | exact absurd q9 (by decide) | exact absurd (by decide) q9)
            show X _ _ _ _ 106 _
            refine x_iload_n C dX8_taken_106 0 rfl ?_
            refine x_iload_n C dX8_taken_107 3 rfl ?_
            refine x_icmp_ne C dX8_taken_108 (tgt := 115) rfl (fun _ => ?_) (fun q9 => by first | exact absurd q9 (by decide) | exact absurd (by decide) q9)
            refine x_bipush C dX8_taken_115 (v := (-13)) rfl ?_
            refine E dX8_taken_117 (rfl) ?_
            exact ⟨(-13), rfl, rfl, by (unfold o_taken); (try simp only [hnj]); (repeat (first | rw [if_pos (by first | exact hk9 | (rw [hk9]; decide) | (rw [if_pos (by decide)]; assumption) | (rw [if_neg (by decide), if_pos (by decide)]; assumption) | (rw [if_neg (by decide), if_neg (by decide)]; assumption) | assumption | decide | omega | exact o_one_t (by assumption) | (rw [o_one_f (by assumption)]; decide) | exact ⟨by assumption, by assumption⟩ | exact fun h9 => absurd h9.1 (by assumption) | exact fun h9 => absurd h9.2 (by assumption))] | rw [if_neg (by first | exact hk9 | (rw [hk9]; decide) | (rw [if_pos (by decide)]; assumption) | (rw [if_neg (by decide), if_pos (by decide)]; assumption) | (rw [if_neg (by decide), if_neg (by decide)]; assumption) | assumption | decide | omega | exact o_one_t (by assumption) | (rw [o_one_f (by assumption)]; decide) | exact ⟨by assumption, by assumption⟩ | exact fun h9 => absurd h9.1 (by assumption) | exact fun h9 => absurd h9.2 (by assumption))])); all_goals (first | rfl)⟩
          ·
            refine x_topi C 2 hq37 ?_
            have hk9 : o_one (kf j) 2 = true := by rw [hq37]; decide
            refine x_istore_n C dX8_taken_73 (by decide) (lv' := [(3, .int 2), (0, .ref m), (1, .int (nI j)), (2, .int 2)]) rfl ?_
            refine x_iload_n C dX8_taken_74 0 rfl ?_
            refine x_iload_n C dX8_taken_75 3 rfl ?_
            refine x_icmp_eq C dX8_taken_76 (tgt := 106) rfl (fun _ => ?_) (fun q9 => by first | exact absurd q9 (by decide) | exact absurd (by decide) q9)
            refine x_iload_n C dX8_taken_106 0 rfl ?_
            refine x_iload_n C dX8_taken_107 3 rfl ?_
            refine x_icmp_ne C dX8_taken_108 (tgt := 115) rfl (fun q9 => absurd q9 (by decide)) (fun _ => ?_)
            refine x_iload_n C dX8_taken_111 2 rfl ?_
            refine x_goto C dX8_taken_112 (tgt := 117) rfl ?_
            refine E dX8_taken_117 (rfl) ?_
            exact ⟨(nI j), rfl, rfl, by (unfold o_taken); (try simp only [hnj]); (repeat (first | rw [if_pos (by first | exact hk9 | (rw [hk9]; decide) | (rw [if_pos (by decide)]; assumption) | (rw [if_neg (by decide), if_pos (by decide)]; assumption) | (rw [if_neg (by decide), if_neg (by decide)]; assumption) | assumption | decide | omega | exact o_one_t (by assumption) | (rw [o_one_f (by assumption)]; decide) | exact ⟨by assumption, by assumption⟩ | exact fun h9 => absurd h9.1 (by assumption) | exact fun h9 => absurd h9.2 (by assumption))] | rw [if_neg (by first | exact hk9 | (rw [hk9]; decide) | (rw [if_pos (by decide)]; assumption) | (rw [if_neg (by decide), if_pos (by decide)]; assumption) | (rw [if_neg (by decide), if_neg (by decide)]; assumption) | assumption | decide | omega | exact o_one_t (by assumption) | (rw [o_one_f (by assumption)]; decide) | exact ⟨by assumption, by assumption⟩ | exact fun h9 => absurd h9.1 (by assumption) | exact fun h9 => absurd h9.2 (by assumption))])); all_goals (first | rfl)⟩
          ·
            refine x_topi C 3 hq37 ?_
            have hk9 : o_one (kf j) 2 = false := by rw [hq37]; decide
            refine x_istore_n C dX8_taken_73 (by decide) (lv' := [(3, .int 3), (0, .ref m), (1, .int (nI j)), (2, .int 2)]) rfl ?_
            refine x_iload_n C dX8_taken_74 0 rfl ?_
            refine x_iload_n C dX8_taken_75 3 rfl ?_
            refine x_icmp_eq C dX8_taken_76 (tgt := 106) rfl (fun q9 => absurd q9 (by decide)) (fun _ => ?_)
            refine x_iload_n C dX8_taken_79 0 rfl ?_
            refine x_if_le C dX8_taken_80 (tgt := 106) rfl (fun q9 => absurd q9 (by decide)) (fun _ => ?_)
            refine x_iload_n C dX8_taken_83 0 rfl ?_
            refine x_iconst C dX8_taken_84 (v := 3) rfl ?_
            refine x_icmp_ne C dX8_taken_85 (tgt := 92) rfl (fun q9 => absurd q9 (by decide)) (fun _ => ?_)
            refine x_iconst C dX8_taken_88 (v := 1) rfl ?_
            show X _ _ _ _ 89 _
            refine x_goto C dX8_taken_89 (tgt := 102) rfl ?_
            refine x_istore_n C dX8_taken_102 (by decide) (lv' := [(3, .int 1), (0, .ref m), (1, .int (nI j)), (2, .int 2)]) rfl ?_
            refine x_goto C dX8_taken_103 (tgt := 74) rfl ?_
            refine x_iload_n C dX8_taken_74 0 rfl ?_
            refine x_iload_n C dX8_taken_75 3 rfl ?_
            refine x_icmp_eq C dX8_taken_76 (tgt := 106) rfl (fun q9 => absurd q9 (by decide)) (fun _ => ?_)
            refine x_iload_n C dX8_taken_79 0 rfl ?_
            refine x_if_le C dX8_taken_80 (tgt := 106) rfl (fun q9 => absurd q9 (by decide)) (fun _ => ?_)
            refine x_iload_n C dX8_taken_83 0 rfl ?_
            refine x_iconst C dX8_taken_84 (v := 3) rfl ?_
            show X _ _ _ _ 85 _
            refine x_icmp_ne C dX8_taken_85 (tgt := 92) rfl (fun _ => ?_) (fun q9 => by first | exact absurd q9 (by decide) | exact absurd (by decide) q9)
            refine x_iload_n C dX8_taken_92 0 rfl ?_
            refine x_iconst C dX8_taken_93 (v := 5) rfl ?_
            refine x_icmp_ne C dX8_taken_94 (tgt := 101) rfl (fun _ => ?_) (fun q9 => by first | exact absurd q9 (by decide) | exact absurd (by decide) q9)
            refine x_iconst C dX8_taken_101 (v := 0) rfl ?_
            refine x_istore_n C dX8_taken_102 (by decide) (lv' := [(3, .int 0), (0, .ref m), (1, .int (nI j)), (2, .int 2)]) rfl ?_
            refine x_goto C dX8_taken_103 (tgt := 74) rfl ?_
            refine x_iload_n C dX8_taken_74 0 rfl ?_
            refine x_iload_n C dX8_taken_75 3 rfl ?_
            refine x_icmp_eq C dX8_taken_76 (tgt := 106) rfl (fun q9 => absurd q9 (by decide)) (fun _ => ?_)
            show X _ _ _ _ 79 _
            refine x_iload_n C dX8_taken_79 0 rfl ?_
            refine x_if_le C dX8_taken_80 (tgt := 106) rfl (fun _ => ?_) (fun q9 => by first | exact absurd q9 (by decide) | exact absurd (by decide) q9)
            refine x_iload_n C dX8_taken_106 0 rfl ?_
            refine x_iload_n C dX8_taken_107 3 rfl ?_
            refine x_icmp_ne C dX8_taken_108 (tgt := 115) rfl (fun _ => ?_) (fun q9 => by first | exact absurd q9 (by decide) | exact absurd (by decide) q9)
            refine x_bipush C dX8_taken_115 (v := (-13)) rfl ?_
            refine E dX8_taken_117 (rfl) ?_
            exact ⟨(-13), rfl, rfl, by (unfold o_taken); (try simp only [hnj]); (repeat (first | rw [if_pos (by first | exact hk9 | (rw [hk9]; decide) | (rw [if_pos (by decide)]; assumption) | (rw [if_neg (by decide), if_pos (by decide)]; assumption) | (rw [if_neg (by decide), if_neg (by decide)]; assumption) | assumption | decide | omega | exact o_one_t (by assumption) | (rw [o_one_f (by assumption)]; decide) | exact ⟨by assumption, by assumption⟩ | exact fun h9 => absurd h9.1 (by assumption) | exact fun h9 => absurd h9.2 (by assumption))] | rw [if_neg (by first | exact hk9 | (rw [hk9]; decide) | (rw [if_pos (by decide)]; assumption) | (rw [if_neg (by decide), if_pos (by decide)]; assumption) | (rw [if_neg (by decide), if_neg (by decide)]; assumption) | assumption | decide | omega | exact o_one_t (by assumption) | (rw [o_one_f (by assumption)]; decide) | exact ⟨by assumption, by assumption⟩ | exact fun h9 => absurd h9.1 (by assumption) | exact fun h9 => absurd h9.2 (by assumption))])); all_goals (first | rfl)⟩
          ·
            refine x_topi C 4 hq37 ?_
            have hk9 : o_one (kf j) 2 = false := by rw [hq37]; decide
            refine x_istore_n C dX8_taken_73 (by decide) (lv' := [(3, .int 4), (0, .ref m), (1, .int (nI j)), (2, .int 2)]) rfl ?_
            refine x_iload_n C dX8_taken_74 0 rfl ?_
            refine x_iload_n C dX8_taken_75 3 rfl ?_
            refine x_icmp_eq C dX8_taken_76 (tgt := 106) rfl (fun q9 => absurd q9 (by decide)) (fun _ => ?_)
            refine x_iload_n C dX8_taken_79 0 rfl ?_
            refine x_if_le C dX8_taken_80 (tgt := 106) rfl (fun q9 => absurd q9 (by decide)) (fun _ => ?_)
            refine x_iload_n C dX8_taken_83 0 rfl ?_
            refine x_iconst C dX8_taken_84 (v := 3) rfl ?_
            refine x_icmp_ne C dX8_taken_85 (tgt := 92) rfl (fun _ => ?_) (fun q9 => by first | exact absurd q9 (by decide) | exact absurd (by decide) q9)
            refine x_iload_n C dX8_taken_92 0 rfl ?_
            show X _ _ _ _ 93 _
            refine x_iconst C dX8_taken_93 (v := 5) rfl ?_
            refine x_icmp_ne C dX8_taken_94 (tgt := 101) rfl (fun _ => ?_) (fun q9 => by first | exact absurd q9 (by decide) | exact absurd (by decide) q9)
            refine x_iconst C dX8_taken_101 (v := 0) rfl ?_
            refine x_istore_n C dX8_taken_102 (by decide) (lv' := [(3, .int 0), (0, .ref m), (1, .int (nI j)), (2, .int 2)]) rfl ?_
            refine x_goto C dX8_taken_103 (tgt := 74) rfl ?_
            refine x_iload_n C dX8_taken_74 0 rfl ?_
            refine x_iload_n C dX8_taken_75 3 rfl ?_
            refine x_icmp_eq C dX8_taken_76 (tgt := 106) rfl (fun q9 => absurd q9 (by decide)) (fun _ => ?_)
            refine x_iload_n C dX8_taken_79 0 rfl ?_
            refine x_if_le C dX8_taken_80 (tgt := 106) rfl (fun _ => ?_) (fun q9 => by first | exact absurd q9 (by decide) | exact absurd (by decide) q9)
            show X _ _ _ _ 106 _
            refine x_iload_n C dX8_taken_106 0 rfl ?_
            refine x_iload_n C dX8_taken_107 3 rfl ?_
            refine x_icmp_ne C dX8_taken_108 (tgt := 115) rfl (fun _ => ?_) (fun q9 => by first | exact absurd q9 (by decide) | exact absurd (by decide) q9)
            refine x_bipush C dX8_taken_115 (v := (-13)) rfl ?_
            refine E dX8_taken_117 (rfl) ?_
            exact ⟨(-13), rfl, rfl, by (unfold o_taken); (try simp only [hnj]); (repeat (first | rw [if_pos (by first | exact hk9 | (rw [hk9]; decide) | (rw [if_pos (by decide)]; assumption) | (rw [if_neg (by decide), if_pos (by decide)]; assumption) | (rw [if_neg (by decide), if_neg (by decide)]; assumption) | assumption | decide | omega | exact o_one_t (by assumption) | (rw [o_one_f (by assumption)]; decide) | exact ⟨by assumption, by assumption⟩ | exact fun h9 => absurd h9.1 (by assumption) | exact fun h9 => absurd h9.2 (by assumption))] | rw [if_neg (by first | exact hk9 | (rw [hk9]; decide) | (rw [if_pos (by decide)]; assumption) | (rw [if_neg (by decide), if_pos (by decide)]; assumption) | (rw [if_neg (by decide), if_neg (by decide)]; assumption) | assumption | decide | omega | exact o_one_t (by assumption) | (rw [o_one_f (by assumption)]; decide) | exact ⟨by assumption, by assumption⟩ | exact fun h9 => absurd h9.1 (by assumption) | exact fun h9 => absurd h9.2 (by assumption))])); all_goals (first | rfl)⟩
          ·
            refine x_topi C 5 hq37 ?_
            have hk9 : o_one (kf j) 2 = true := by rw [hq37]; decide
            refine x_istore_n C dX8_taken_73 (by decide) (lv' := [(3, .int 5), (0, .ref m), (1, .int (nI j)), (2, .int 2)]) rfl ?_
            refine x_iload_n C dX8_taken_74 0 rfl ?_
            refine x_iload_n C dX8_taken_75 3 rfl ?_
            refine x_icmp_eq C dX8_taken_76 (tgt := 106) rfl (fun q9 => absurd q9 (by decide)) (fun _ => ?_)
            refine x_iload_n C dX8_taken_79 0 rfl ?_
            refine x_if_le C dX8_taken_80 (tgt := 106) rfl (fun q9 => absurd q9 (by decide)) (fun _ => ?_)
            refine x_iload_n C dX8_taken_83 0 rfl ?_
            refine x_iconst C dX8_taken_84 (v := 3) rfl ?_
            refine x_icmp_ne C dX8_taken_85 (tgt := 92) rfl (fun _ => ?_) (fun q9 => by first | exact absurd q9 (by decide) | exact absurd (by decide) q9)
            refine x_iload_n C dX8_taken_92 0 rfl ?_
            show X _ _ _ _ 93 _
            refine x_iconst C dX8_taken_93 (v := 5) rfl ?_
            refine x_icmp_ne C dX8_taken_94 (tgt := 101) rfl (fun q9 => absurd q9 (by decide)) (fun _ => ?_)
            refine x_iconst C dX8_taken_97 (v := 2) rfl ?_
            refine x_goto C dX8_taken_98 (tgt := 102) rfl ?_
            refine x_istore_n C dX8_taken_102 (by decide) (lv' := [(3, .int 2), (0, .ref m), (1, .int (nI j)), (2, .int 2)]) rfl ?_
            refine x_goto C dX8_taken_103 (tgt := 74) rfl ?_
            refine x_iload_n C dX8_taken_74 0 rfl ?_
            refine x_iload_n C dX8_taken_75 3 rfl ?_
            refine x_icmp_eq C dX8_taken_76 (tgt := 106) rfl (fun _ => ?_) (fun q9 => by first | exact absurd q9 (by decide) | exact absurd (by decide) q9)
            refine x_iload_n C dX8_taken_106 0 rfl ?_
            show X _ _ _ _ 107 _
            refine x_iload_n C dX8_taken_107 3 rfl ?_
            refine x_icmp_ne C dX8_taken_108 (tgt := 115) rfl (fun q9 => absurd q9 (by decide)) (fun _ => ?_)
            refine x_iload_n C dX8_taken_111 2 rfl ?_
            refine x_goto C dX8_taken_112 (tgt := 117) rfl ?_
            refine E dX8_taken_117 (rfl) ?_
            exact ⟨(nI j), rfl, rfl, by (unfold o_taken); (try simp only [hnj]); (repeat (first | rw [if_pos (by first | exact hk9 | (rw [hk9]; decide) | (rw [if_pos (by decide)]; assumption) | (rw [if_neg (by decide), if_pos (by decide)]; assumption) | (rw [if_neg (by decide), if_neg (by decide)]; assumption) | assumption | decide | omega | exact o_one_t (by assumption) | (rw [o_one_f (by assumption)]; decide) | exact ⟨by assumption, by assumption⟩ | exact fun h9 => absurd h9.1 (by assumption) | exact fun h9 => absurd h9.2 (by assumption))] | rw [if_neg (by first | exact hk9 | (rw [hk9]; decide) | (rw [if_pos (by decide)]; assumption) | (rw [if_neg (by decide), if_pos (by decide)]; assumption) | (rw [if_neg (by decide), if_neg (by decide)]; assumption) | assumption | decide | omega | exact o_one_t (by assumption) | (rw [o_one_f (by assumption)]; decide) | exact ⟨by assumption, by assumption⟩ | exact fun h9 => absurd h9.1 (by assumption) | exact fun h9 => absurd h9.2 (by assumption))])); all_goals (first | rfl)⟩
        ·
          have c36 : j > 35 := q_le_f rfl (rfl : (35 : Int32) = nI 35) (by omega) (by omega) c36
          refine x_aload_n C dX8_taken_32 0 rfl ?_
          refine x_iload_n C dX8_taken_33 1 rfl ?_
          refine x_bipush C dX8_taken_34 (v := 36) rfl ?_
          refine x_isub C dX8_taken_36 ?_
          refine x_callV C (As := [.int ((nI j) - 36)]) (st := []) (wc := [(m, .inr (7, [.ref a_sky, .ref a_kind, .ref a_more, .ref a_strewn, .int (nI tn), .ref a_treeCell, .ref a_treeSort, .ref a_treeLeaves, .int i_raking, .long l_heaps, .int (nI tz), .ref a_tape, .int (nI wr), .int (nI lw), .ref a_code, .ref a_begins, .int i_made, .int i_at, .int i_from, .int i_sort, .int i_value, .int i_open, .ref a_stack, .ref a_dry, .ref a_wet, .ref a_covered, .ref a_hangs, .ref a_off, .int i_fell, .int i_fellToday, .int i_rotten, .int i_raked, .int i_cost, .ref a_dryGo, .ref a_wetGo, .ref a_keptSky, .int i_imaged, .int (nI itn), .int i_oldRaking, .long l_oldHeaps, .int (nI ilw), .ref a_oldSky, .ref a_oldCells, .ref a_sheetSort, .ref a_sheetSize, .ref a_items, .ref a_spare]))]) (wr := [(a_kind, .inl (cI, 36, .inl kf)), (a_treeLeaves, .inl (cI, 4, .inl ttf))]) (c_X8_isTree l dG cI cM cW cS m a_sky a_kind a_more a_strewn a_treeCell a_treeSort a_treeLeaves a_tape a_code a_begins a_stack a_dry a_wet a_covered a_hangs a_off a_dryGo a_wetGo a_keptSky a_oldSky a_oldCells a_sheetSort a_sheetSize a_items a_spare tn tz wr lw itn ilw i_raking i_made i_at i_from i_sort i_value i_open i_fell i_fellToday i_rotten i_raked i_cost i_imaged i_oldRaking l_heaps l_oldHeaps ((nI j) - 36) ) rZ0_ok (fun _ _ _ _ => trivial) kV_X8_230 ⟨rfl, hy_X8_isTree⟩ ⟨Nat.le_of_ble_eq_true rfl, Nat.le_of_ble_eq_true rfl⟩ ⟨Nat.le_of_ble_eq_true rfl, Nat.le_of_ble_eq_true rfl⟩ dX8_taken_37 0 rfl rfl [0] [1, 2] rfl rfl rfl rfl (by decide) rfl (Nat.le_of_ble_eq_true rfl) ?_
          intro v38 w39 h40
          rcases h40 with h40 | h40
          ·
            obtain ⟨rfl, rfl, hf41⟩ := h40
            show X 0 0 [(a_kind, .inl (cI, 36, .inl kf)), (a_treeLeaves, .inl (cI, 4, .inl ttf)), (m, .inr (7, [.ref a_sky, .ref a_kind, .ref a_more, .ref a_strewn, .int (nI tn), .ref a_treeCell, .ref a_treeSort, .ref a_treeLeaves, .int i_raking, .long l_heaps, .int (nI tz), .ref a_tape, .int (nI wr), .int (nI lw), .ref a_code, .ref a_begins, .int i_made, .int i_at, .int i_from, .int i_sort, .int i_value, .int i_open, .ref a_stack, .ref a_dry, .ref a_wet, .ref a_covered, .ref a_hangs, .ref a_off, .int i_fell, .int i_fellToday, .int i_rotten, .int i_raked, .int i_cost, .ref a_dryGo, .ref a_wetGo, .ref a_keptSky, .int i_imaged, .int (nI itn), .int i_oldRaking, .long l_oldHeaps, .int (nI ilw), .ref a_oldSky, .ref a_oldCells, .ref a_sheetSort, .ref a_sheetSize, .ref a_items, .ref a_spare]))] [(0, .ref m), (1, .int (nI j)), (2, .int 2)] 40 [.int 1]
            refine x_if_ne C dX8_taken_40 (tgt := 46) rfl (fun _ => ?_) (fun q9 => by first | exact absurd q9 (by decide) | exact absurd (by decide) q9)
            refine x_iload_n C dX8_taken_46 2 rfl ?_
            refine x_bipush C dX8_taken_47 (v := 6) rfl ?_
            refine x_icmp_ne C dX8_taken_49 (tgt := 64) rfl (fun _ => ?_) (fun q9 => by first | exact absurd q9 (by decide) | exact absurd (by decide) q9)
            refine x_bipush C dX8_taken_64 (v := (-13)) rfl ?_
            refine x_sub C [2, 0, 1] (ws' := [(m, .inr (7, [.ref a_sky, .ref a_kind, .ref a_more, .ref a_strewn, .int (nI tn), .ref a_treeCell, .ref a_treeSort, .ref a_treeLeaves, .int i_raking, .long l_heaps, .int (nI tz), .ref a_tape, .int (nI wr), .int (nI lw), .ref a_code, .ref a_begins, .int i_made, .int i_at, .int i_from, .int i_sort, .int i_value, .int i_open, .ref a_stack, .ref a_dry, .ref a_wet, .ref a_covered, .ref a_hangs, .ref a_off, .int i_fell, .int i_fellToday, .int i_rotten, .int i_raked, .int i_cost, .ref a_dryGo, .ref a_wetGo, .ref a_keptSky, .int i_imaged, .int (nI itn), .int i_oldRaking, .long l_oldHeaps, .int (nI ilw), .ref a_oldSky, .ref a_oldCells, .ref a_sheetSort, .ref a_sheetSize, .ref a_items, .ref a_spare])), (a_kind, .inl (cI, 36, .inl kf)), (a_treeLeaves, .inl (cI, 4, .inl ttf))]) rfl rfl ?_
            refine E dX8_taken_66 (rfl) ?_
            exact ⟨(-13), rfl, rfl, by (unfold o_taken); (try simp only [hnj]); (repeat (first | rw [if_pos (by first | exact hk9 | (rw [hk9]; decide) | (rw [if_pos (by decide)]; assumption) | (rw [if_neg (by decide), if_pos (by decide)]; assumption) | (rw [if_neg (by decide), if_neg (by decide)]; assumption) | assumption | decide | omega | exact o_one_t (by assumption) | (rw [o_one_f (by assumption)]; decide) | exact ⟨by assumption, by assumption⟩ | exact fun h9 => absurd h9.1 (by assumption) | exact fun h9 => absurd h9.2 (by assumption))] | rw [if_neg (by first | exact hk9 | (rw [hk9]; decide) | (rw [if_pos (by decide)]; assumption) | (rw [if_neg (by decide), if_pos (by decide)]; assumption) | (rw [if_neg (by decide), if_neg (by decide)]; assumption) | assumption | decide | omega | exact o_one_t (by assumption) | (rw [o_one_f (by assumption)]; decide) | exact ⟨by assumption, by assumption⟩ | exact fun h9 => absurd h9.1 (by assumption) | exact fun h9 => absurd h9.2 (by assumption))])); all_goals (first | rfl)⟩
          ·
            obtain ⟨rfl, rfl, hf42⟩ := h40
            show X 0 0 [(a_kind, .inl (cI, 36, .inl kf)), (a_treeLeaves, .inl (cI, 4, .inl ttf)), (m, .inr (7, [.ref a_sky, .ref a_kind, .ref a_more, .ref a_strewn, .int (nI tn), .ref a_treeCell, .ref a_treeSort, .ref a_treeLeaves, .int i_raking, .long l_heaps, .int (nI tz), .ref a_tape, .int (nI wr), .int (nI lw), .ref a_code, .ref a_begins, .int i_made, .int i_at, .int i_from, .int i_sort, .int i_value, .int i_open, .ref a_stack, .ref a_dry, .ref a_wet, .ref a_covered, .ref a_hangs, .ref a_off, .int i_fell, .int i_fellToday, .int i_rotten, .int i_raked, .int i_cost, .ref a_dryGo, .ref a_wetGo, .ref a_keptSky, .int i_imaged, .int (nI itn), .int i_oldRaking, .long l_oldHeaps, .int (nI ilw), .ref a_oldSky, .ref a_oldCells, .ref a_sheetSort, .ref a_sheetSize, .ref a_items, .ref a_spare]))] [(0, .ref m), (1, .int (nI j)), (2, .int 2)] 40 [.int 0]
            refine x_if_ne C dX8_taken_40 (tgt := 46) rfl (fun q9 => absurd q9 (by decide)) (fun _ => ?_)
            refine x_bipush C dX8_taken_43 (v := (-11)) rfl ?_
            refine x_sub C [2, 0, 1] (ws' := [(m, .inr (7, [.ref a_sky, .ref a_kind, .ref a_more, .ref a_strewn, .int (nI tn), .ref a_treeCell, .ref a_treeSort, .ref a_treeLeaves, .int i_raking, .long l_heaps, .int (nI tz), .ref a_tape, .int (nI wr), .int (nI lw), .ref a_code, .ref a_begins, .int i_made, .int i_at, .int i_from, .int i_sort, .int i_value, .int i_open, .ref a_stack, .ref a_dry, .ref a_wet, .ref a_covered, .ref a_hangs, .ref a_off, .int i_fell, .int i_fellToday, .int i_rotten, .int i_raked, .int i_cost, .ref a_dryGo, .ref a_wetGo, .ref a_keptSky, .int i_imaged, .int (nI itn), .int i_oldRaking, .long l_oldHeaps, .int (nI ilw), .ref a_oldSky, .ref a_oldCells, .ref a_sheetSort, .ref a_sheetSize, .ref a_items, .ref a_spare])), (a_kind, .inl (cI, 36, .inl kf)), (a_treeLeaves, .inl (cI, 4, .inl ttf))]) rfl rfl ?_
            refine E dX8_taken_45 (rfl) ?_
            exact ⟨(-11), rfl, rfl, by (unfold o_taken); (try simp only [hnj]); (repeat (first | rw [if_pos (by first | exact hk9 | (rw [hk9]; decide) | (rw [if_pos (by decide)]; assumption) | (rw [if_neg (by decide), if_pos (by decide)]; assumption) | (rw [if_neg (by decide), if_neg (by decide)]; assumption) | assumption | decide | omega | exact o_one_t (by assumption) | (rw [o_one_f (by assumption)]; decide) | exact ⟨by assumption, by assumption⟩ | exact fun h9 => absurd h9.1 (by assumption) | exact fun h9 => absurd h9.2 (by assumption))] | rw [if_neg (by first | exact hk9 | (rw [hk9]; decide) | (rw [if_pos (by decide)]; assumption) | (rw [if_neg (by decide), if_pos (by decide)]; assumption) | (rw [if_neg (by decide), if_neg (by decide)]; assumption) | assumption | decide | omega | exact o_one_t (by assumption) | (rw [o_one_f (by assumption)]; decide) | exact ⟨by assumption, by assumption⟩ | exact fun h9 => absurd h9.1 (by assumption) | exact fun h9 => absurd h9.2 (by assumption))])); all_goals (first | rfl)⟩
      ·
        obtain ⟨rfl, rfl, hf43⟩ := h33
        show X 0 0 [(m, .inr (7, [.ref a_sky, .ref a_kind, .ref a_more, .ref a_strewn, .int (nI tn), .ref a_treeCell, .ref a_treeSort, .ref a_treeLeaves, .int i_raking, .long l_heaps, .int (nI tz), .ref a_tape, .int (nI wr), .int (nI lw), .ref a_code, .ref a_begins, .int i_made, .int i_at, .int i_from, .int i_sort, .int i_value, .int i_open, .ref a_stack, .ref a_dry, .ref a_wet, .ref a_covered, .ref a_hangs, .ref a_off, .int i_fell, .int i_fellToday, .int i_rotten, .int i_raked, .int i_cost, .ref a_dryGo, .ref a_wetGo, .ref a_keptSky, .int i_imaged, .int (nI itn), .int i_oldRaking, .long l_oldHeaps, .int (nI ilw), .ref a_oldSky, .ref a_oldCells, .ref a_sheetSort, .ref a_sheetSize, .ref a_items, .ref a_spare])), (a_kind, .inl (cI, 36, .inl kf)), (a_treeLeaves, .inl (cI, 4, .inl ttf))] [(0, .ref m), (1, .int i), (2, .int 2)] 20 [.int 0]
        refine x_if_ne C dX8_taken_20 (tgt := 26) rfl (fun q9 => absurd q9 (by decide)) (fun _ => ?_)
        refine x_bipush C dX8_taken_23 (v := (-12)) rfl ?_
        refine E dX8_taken_25 (rfl) ?_
        exact ⟨(-12), rfl, rfl, by (unfold o_taken); (repeat (first | rw [if_pos (by first | exact hk9 | (rw [hk9]; decide) | (rw [if_pos (by decide)]; assumption) | (rw [if_neg (by decide), if_pos (by decide)]; assumption) | (rw [if_neg (by decide), if_neg (by decide)]; assumption) | assumption | decide | omega | exact o_one_t (by assumption) | (rw [o_one_f (by assumption)]; decide) | exact ⟨by assumption, by assumption⟩ | exact fun h9 => absurd h9.1 (by assumption) | exact fun h9 => absurd h9.2 (by assumption))] | rw [if_neg (by first | exact hk9 | (rw [hk9]; decide) | (rw [if_pos (by decide)]; assumption) | (rw [if_neg (by decide), if_pos (by decide)]; assumption) | (rw [if_neg (by decide), if_neg (by decide)]; assumption) | assumption | decide | omega | exact o_one_t (by assumption) | (rw [o_one_f (by assumption)]; decide) | exact ⟨by assumption, by assumption⟩ | exact fun h9 => absurd h9.1 (by assumption) | exact fun h9 => absurd h9.2 (by assumption))])); all_goals (first | rfl)⟩
    ·
      refine x_if_ne C dX8_taken_7 (tgt := 13) rfl (fun _ => ?_) (fun q9 => by first | exact absurd q9 (by decide) | exact absurd (by decide) q9)
      refine x_iload_n C dX8_taken_13 1 rfl ?_
      refine x_iconst C dX8_taken_14 (v := 0) rfl ?_
      refine x_bipush C dX8_taken_15 (v := 39) rfl ?_
      refine x_callS C (As := [.int i, .int 0, .int 39]) (st := []) (wc := []) (wr := [(m, .inr (7, [.ref a_sky, .ref a_kind, .ref a_more, .ref a_strewn, .int (nI tn), .ref a_treeCell, .ref a_treeSort, .ref a_treeLeaves, .int i_raking, .long l_heaps, .int (nI tz), .ref a_tape, .int (nI wr), .int (nI lw), .ref a_code, .ref a_begins, .int i_made, .int i_at, .int i_from, .int i_sort, .int i_value, .int i_open, .ref a_stack, .ref a_dry, .ref a_wet, .ref a_covered, .ref a_hangs, .ref a_off, .int i_fell, .int i_fellToday, .int i_rotten, .int i_raked, .int i_cost, .ref a_dryGo, .ref a_wetGo, .ref a_keptSky, .int i_imaged, .int (nI itn), .int i_oldRaking, .long l_oldHeaps, .int (nI ilw), .ref a_oldSky, .ref a_oldCells, .ref a_sheetSort, .ref a_sheetSize, .ref a_items, .ref a_spare])), (a_kind, .inl (cI, 36, .inl kf)), (a_treeLeaves, .inl (cI, 4, .inl ttf))]) (c_X8_within l dG cI cM cW cS i 0 39 ) rZ0_ok (fun _ _ _ _ => trivial) kS_X8_108 hy_X8_within ⟨Nat.le_of_ble_eq_true rfl, Nat.le_of_ble_eq_true rfl⟩ ⟨Nat.le_of_ble_eq_true rfl, Nat.le_of_ble_eq_true rfl⟩ dX8_taken_17 [] [0, 1, 2] rfl rfl rfl rfl (by decide) rfl (Nat.le_of_ble_eq_true rfl) ?_
      intro v44 w45 h46
      rcases h46 with h46 | h46
      ·
        obtain ⟨rfl, rfl, hf47⟩ := h46
        show X 0 0 [(m, .inr (7, [.ref a_sky, .ref a_kind, .ref a_more, .ref a_strewn, .int (nI tn), .ref a_treeCell, .ref a_treeSort, .ref a_treeLeaves, .int i_raking, .long l_heaps, .int (nI tz), .ref a_tape, .int (nI wr), .int (nI lw), .ref a_code, .ref a_begins, .int i_made, .int i_at, .int i_from, .int i_sort, .int i_value, .int i_open, .ref a_stack, .ref a_dry, .ref a_wet, .ref a_covered, .ref a_hangs, .ref a_off, .int i_fell, .int i_fellToday, .int i_rotten, .int i_raked, .int i_cost, .ref a_dryGo, .ref a_wetGo, .ref a_keptSky, .int i_imaged, .int (nI itn), .int i_oldRaking, .long l_oldHeaps, .int (nI ilw), .ref a_oldSky, .ref a_oldCells, .ref a_sheetSort, .ref a_sheetSize, .ref a_items, .ref a_spare])), (a_kind, .inl (cI, 36, .inl kf)), (a_treeLeaves, .inl (cI, 4, .inl ttf))] [(0, .ref m), (1, .int i), (2, .int 3)] 20 [.int 1]
        have hr48 := hf47
        obtain ⟨j, hj, rfl⟩ := q_w (n := 39) rfl (by decide) hf47
        have hnj : o_n (nI j) = j := o_n_nI (by omega)
        refine x_if_ne C dX8_taken_20 (tgt := 26) rfl (fun _ => ?_) (fun q9 => by first | exact absurd q9 (by decide) | exact absurd (by decide) q9)
        refine x_iload_n C dX8_taken_26 1 rfl ?_
        refine x_bipush C dX8_taken_27 (v := 35) rfl ?_
        refine x_icmp_le C dX8_taken_29 (tgt := 67) rfl (fun c49 => ?_) (fun c49 => ?_)
        ·
          have c49 : j ≤ 35 := q_le_t rfl (rfl : (35 : Int32) = nI 35) (by omega) (by omega) c49
          refine x_aload_n C dX8_taken_67 0 rfl ?_
          refine x_get C inlX8 rfl 1 (by decide) gw_10_19 dX8_taken_68 0 rfl rfl ?_
          refine x_iload_n C dX8_taken_71 1 rfl ?_
          refine x_iaload C 0 rfl dX8_taken_72 j (q_cl rfl (by omega)) (q_ix rfl (by omega) (by omega)) 1 rfl ?_
          have hq50 := q_in6 (hkf j (by omega))
          rcases hq50 with hq50 | hq50 | hq50 | hq50 | hq50 | hq50
          ·
            refine x_topi C 0 hq50 ?_
            have hk9 : o_one (kf j) 3 = false := by rw [hq50]; decide
            refine x_istore_n C dX8_taken_73 (by decide) (lv' := [(3, .int 0), (0, .ref m), (1, .int (nI j)), (2, .int 3)]) rfl ?_
            refine x_iload_n C dX8_taken_74 0 rfl ?_
            refine x_iload_n C dX8_taken_75 3 rfl ?_
            refine x_icmp_eq C dX8_taken_76 (tgt := 106) rfl (fun q9 => absurd q9 (by decide)) (fun _ => ?_)
            refine x_iload_n C dX8_taken_79 0 rfl ?_
            refine x_if_le C dX8_taken_80 (tgt := 106) rfl (fun _ => ?_) (fun q9 => by first | exact absurd q9 (by decide) | exact absurd (by decide) q9)
            refine x_iload_n C dX8_taken_106 0 rfl ?_
            refine x_iload_n C dX8_taken_107 3 rfl ?_
            refine x_icmp_ne C dX8_taken_108 (tgt := 115) rfl (fun _ => ?_) (fun q9 => by first | exact absurd q9 (by decide) | exact absurd (by decide) q9)
            refine x_bipush C dX8_taken_115 (v := (-13)) rfl ?_
            show X _ _ _ _ 117 _
            refine E dX8_taken_117 (rfl) ?_
            exact ⟨(-13), rfl, rfl, by (unfold o_taken); (try simp only [hnj]); (repeat (first | rw [if_pos (by first | exact hk9 | (rw [hk9]; decide) | (rw [if_pos (by decide)]; assumption) | (rw [if_neg (by decide), if_pos (by decide)]; assumption) | (rw [if_neg (by decide), if_neg (by decide)]; assumption) | assumption | decide | omega | exact o_one_t (by assumption) | (rw [o_one_f (by assumption)]; decide) | exact ⟨by assumption, by assumption⟩ | exact fun h9 => absurd h9.1 (by assumption) | exact fun h9 => absurd h9.2 (by assumption))] | rw [if_neg (by first | exact hk9 | (rw [hk9]; decide) | (rw [if_pos (by decide)]; assumption) | (rw [if_neg (by decide), if_pos (by decide)]; assumption) | (rw [if_neg (by decide), if_neg (by decide)]; assumption) | assumption | decide | omega | exact o_one_t (by assumption) | (rw [o_one_f (by assumption)]; decide) | exact ⟨by assumption, by assumption⟩ | exact fun h9 => absurd h9.1 (by assumption) | exact fun h9 => absurd h9.2 (by assumption))])); all_goals (first | rfl)⟩
          ·
            refine x_topi C 1 hq50 ?_
            have hk9 : o_one (kf j) 3 = false := by rw [hq50]; decide
            refine x_istore_n C dX8_taken_73 (by decide) (lv' := [(3, .int 1), (0, .ref m), (1, .int (nI j)), (2, .int 3)]) rfl ?_
            refine x_iload_n C dX8_taken_74 0 rfl ?_
            refine x_iload_n C dX8_taken_75 3 rfl ?_
            refine x_icmp_eq C dX8_taken_76 (tgt := 106) rfl (fun q9 => absurd q9 (by decide)) (fun _ => ?_)
            refine x_iload_n C dX8_taken_79 0 rfl ?_
            refine x_if_le C dX8_taken_80 (tgt := 106) rfl (fun q9 => absurd q9 (by decide)) (fun _ => ?_)
            refine x_iload_n C dX8_taken_83 0 rfl ?_
            refine x_iconst C dX8_taken_84 (v := 3) rfl ?_
            refine x_icmp_ne C dX8_taken_85 (tgt := 92) rfl (fun _ => ?_) (fun q9 => by first | exact absurd q9 (by decide) | exact absurd (by decide) q9)
            refine x_iload_n C dX8_taken_92 0 rfl ?_
            show X _ _ _ _ 93 _
            refine x_iconst C dX8_taken_93 (v := 5) rfl ?_
            refine x_icmp_ne C dX8_taken_94 (tgt := 101) rfl (fun _ => ?_) (fun q9 => by first | exact absurd q9 (by decide) | exact absurd (by decide) q9)
            refine x_iconst C dX8_taken_101 (v := 0) rfl ?_
            refine x_istore_n C dX8_taken_102 (by decide) (lv' := [(3, .int 0), (0, .ref m), (1, .int (nI j)), (2, .int 3)]) rfl ?_
            refine x_goto C dX8_taken_103 (tgt := 74) rfl ?_
            refine x_iload_n C dX8_taken_74 0 rfl ?_
            refine x_iload_n C dX8_taken_75 3 rfl ?_
            refine x_icmp_eq C dX8_taken_76 (tgt := 106) rfl (fun q9 => absurd q9 (by decide)) (fun _ => ?_)
            refine x_iload_n C dX8_taken_79 0 rfl ?_
            refine x_if_le C dX8_taken_80 (tgt := 106) rfl (fun _ => ?_) (fun q9 => by first | exact absurd q9 (by decide) | exact absurd (by decide) q9)
            show X _ _ _ _ 106 _
            refine x_iload_n C dX8_taken_106 0 rfl ?_
            refine x_iload_n C dX8_taken_107 3 rfl ?_
            refine x_icmp_ne C dX8_taken_108 (tgt := 115) rfl (fun _ => ?_) (fun q9 => by first | exact absurd q9 (by decide) | exact absurd (by decide) q9)
            refine x_bipush C dX8_taken_115 (v := (-13)) rfl ?_
            refine E dX8_taken_117 (rfl) ?_
            exact ⟨(-13), rfl, rfl, by (unfold o_taken); (try simp only [hnj]); (repeat (first | rw [if_pos (by first | exact hk9 | (rw [hk9]; decide) | (rw [if_pos (by decide)]; assumption) | (rw [if_neg (by decide), if_pos (by decide)]; assumption) | (rw [if_neg (by decide), if_neg (by decide)]; assumption) | assumption | decide | omega | exact o_one_t (by assumption) | (rw [o_one_f (by assumption)]; decide) | exact ⟨by assumption, by assumption⟩ | exact fun h9 => absurd h9.1 (by assumption) | exact fun h9 => absurd h9.2 (by assumption))] | rw [if_neg (by first | exact hk9 | (rw [hk9]; decide) | (rw [if_pos (by decide)]; assumption) | (rw [if_neg (by decide), if_pos (by decide)]; assumption) | (rw [if_neg (by decide), if_neg (by decide)]; assumption) | assumption | decide | omega | exact o_one_t (by assumption) | (rw [o_one_f (by assumption)]; decide) | exact ⟨by assumption, by assumption⟩ | exact fun h9 => absurd h9.1 (by assumption) | exact fun h9 => absurd h9.2 (by assumption))])); all_goals (first | rfl)⟩
          ·
            refine x_topi C 2 hq50 ?_
            have hk9 : o_one (kf j) 3 = false := by rw [hq50]; decide
            refine x_istore_n C dX8_taken_73 (by decide) (lv' := [(3, .int 2), (0, .ref m), (1, .int (nI j)), (2, .int 3)]) rfl ?_
            refine x_iload_n C dX8_taken_74 0 rfl ?_
            refine x_iload_n C dX8_taken_75 3 rfl ?_
            refine x_icmp_eq C dX8_taken_76 (tgt := 106) rfl (fun q9 => absurd q9 (by decide)) (fun _ => ?_)
            refine x_iload_n C dX8_taken_79 0 rfl ?_
            refine x_if_le C dX8_taken_80 (tgt := 106) rfl (fun q9 => absurd q9 (by decide)) (fun _ => ?_)
            refine x_iload_n C dX8_taken_83 0 rfl ?_
            refine x_iconst C dX8_taken_84 (v := 3) rfl ?_
            refine x_icmp_ne C dX8_taken_85 (tgt := 92) rfl (fun _ => ?_) (fun q9 => by first | exact absurd q9 (by decide) | exact absurd (by decide) q9)
            refine x_iload_n C dX8_taken_92 0 rfl ?_
            show X _ _ _ _ 93 _
            refine x_iconst C dX8_taken_93 (v := 5) rfl ?_
            refine x_icmp_ne C dX8_taken_94 (tgt := 101) rfl (fun _ => ?_) (fun q9 => by first | exact absurd q9 (by decide) | exact absurd (by decide) q9)
            refine x_iconst C dX8_taken_101 (v := 0) rfl ?_
            refine x_istore_n C dX8_taken_102 (by decide) (lv' := [(3, .int 0), (0, .ref m), (1, .int (nI j)), (2, .int 3)]) rfl ?_
            refine x_goto C dX8_taken_103 (tgt := 74) rfl ?_
            refine x_iload_n C dX8_taken_74 0 rfl ?_
            refine x_iload_n C dX8_taken_75 3 rfl ?_
            refine x_icmp_eq C dX8_taken_76 (tgt := 106) rfl (fun q9 => absurd q9 (by decide)) (fun _ => ?_)
            refine x_iload_n C dX8_taken_79 0 rfl ?_
            refine x_if_le C dX8_taken_80 (tgt := 106) rfl (fun _ => ?_) (fun q9 => by first | exact absurd q9 (by decide) | exact absurd (by decide) q9)
            show X _ _ _ _ 106 _
            refine x_iload_n C dX8_taken_106 0 rfl ?_
            refine x_iload_n C dX8_taken_107 3 rfl ?_
            refine x_icmp_ne C dX8_taken_108 (tgt := 115) rfl (fun _ => ?_) (fun q9 => by first | exact absurd q9 (by decide) | exact absurd (by decide) q9)
            refine x_bipush C dX8_taken_115 (v := (-13)) rfl ?_
            refine E dX8_taken_117 (rfl) ?_
            exact ⟨(-13), rfl, rfl, by (unfold o_taken); (try simp only [hnj]); (repeat (first | rw [if_pos (by first | exact hk9 | (rw [hk9]; decide) | (rw [if_pos (by decide)]; assumption) | (rw [if_neg (by decide), if_pos (by decide)]; assumption) | (rw [if_neg (by decide), if_neg (by decide)]; assumption) | assumption | decide | omega | exact o_one_t (by assumption) | (rw [o_one_f (by assumption)]; decide) | exact ⟨by assumption, by assumption⟩ | exact fun h9 => absurd h9.1 (by assumption) | exact fun h9 => absurd h9.2 (by assumption))] | rw [if_neg (by first | exact hk9 | (rw [hk9]; decide) | (rw [if_pos (by decide)]; assumption) | (rw [if_neg (by decide), if_pos (by decide)]; assumption) | (rw [if_neg (by decide), if_neg (by decide)]; assumption) | assumption | decide | omega | exact o_one_t (by assumption) | (rw [o_one_f (by assumption)]; decide) | exact ⟨by assumption, by assumption⟩ | exact fun h9 => absurd h9.1 (by assumption) | exact fun h9 => absurd h9.2 (by assumption))])); all_goals (first | rfl)⟩
          ·
            refine x_topi C 3 hq50 ?_
            have hk9 : o_one (kf j) 3 = true := by rw [hq50]; decide
            refine x_istore_n C dX8_taken_73 (by decide) (lv' := [(3, .int 3), (0, .ref m), (1, .int (nI j)), (2, .int 3)]) rfl ?_
            refine x_iload_n C dX8_taken_74 0 rfl ?_
            refine x_iload_n C dX8_taken_75 3 rfl ?_
            refine x_icmp_eq C dX8_taken_76 (tgt := 106) rfl (fun _ => ?_) (fun q9 => by first | exact absurd q9 (by decide) | exact absurd (by decide) q9)
            refine x_iload_n C dX8_taken_106 0 rfl ?_
            refine x_iload_n C dX8_taken_107 3 rfl ?_
            refine x_icmp_ne C dX8_taken_108 (tgt := 115) rfl (fun q9 => absurd q9 (by decide)) (fun _ => ?_)
            refine x_iload_n C dX8_taken_111 2 rfl ?_
            refine x_goto C dX8_taken_112 (tgt := 117) rfl ?_
            refine E dX8_taken_117 (rfl) ?_
            exact ⟨(nI j), rfl, rfl, by (unfold o_taken); (try simp only [hnj]); (repeat (first | rw [if_pos (by first | exact hk9 | (rw [hk9]; decide) | (rw [if_pos (by decide)]; assumption) | (rw [if_neg (by decide), if_pos (by decide)]; assumption) | (rw [if_neg (by decide), if_neg (by decide)]; assumption) | assumption | decide | omega | exact o_one_t (by assumption) | (rw [o_one_f (by assumption)]; decide) | exact ⟨by assumption, by assumption⟩ | exact fun h9 => absurd h9.1 (by assumption) | exact fun h9 => absurd h9.2 (by assumption))] | rw [if_neg (by first | exact hk9 | (rw [hk9]; decide) | (rw [if_pos (by decide)]; assumption) | (rw [if_neg (by decide), if_pos (by decide)]; assumption) | (rw [if_neg (by decide), if_neg (by decide)]; assumption) | assumption | decide | omega | exact o_one_t (by assumption) | (rw [o_one_f (by assumption)]; decide) | exact ⟨by assumption, by assumption⟩ | exact fun h9 => absurd h9.1 (by assumption) | exact fun h9 => absurd h9.2 (by assumption))])); all_goals (first | rfl)⟩
          ·
            refine x_topi C 4 hq50 ?_
            have hk9 : o_one (kf j) 3 = false := by rw [hq50]; decide
            refine x_istore_n C dX8_taken_73 (by decide) (lv' := [(3, .int 4), (0, .ref m), (1, .int (nI j)), (2, .int 3)]) rfl ?_
            refine x_iload_n C dX8_taken_74 0 rfl ?_
            refine x_iload_n C dX8_taken_75 3 rfl ?_
            refine x_icmp_eq C dX8_taken_76 (tgt := 106) rfl (fun q9 => absurd q9 (by decide)) (fun _ => ?_)
            refine x_iload_n C dX8_taken_79 0 rfl ?_
            refine x_if_le C dX8_taken_80 (tgt := 106) rfl (fun q9 => absurd q9 (by decide)) (fun _ => ?_)
            refine x_iload_n C dX8_taken_83 0 rfl ?_
            refine x_iconst C dX8_taken_84 (v := 3) rfl ?_
            refine x_icmp_ne C dX8_taken_85 (tgt := 92) rfl (fun _ => ?_) (fun q9 => by first | exact absurd q9 (by decide) | exact absurd (by decide) q9)
            refine x_iload_n C dX8_taken_92 0 rfl ?_
            show X _ _ _ _ 93 _
            refine x_iconst C dX8_taken_93 (v := 5) rfl ?_
            refine x_icmp_ne C dX8_taken_94 (tgt := 101) rfl (fun _ => ?_) (fun q9 => by first | exact absurd q9 (by decide) | exact absurd (by decide) q9)
            refine x_iconst C dX8_taken_101 (v := 0) rfl ?_
            refine x_istore_n C dX8_taken_102 (by decide) (lv' := [(3, .int 0), (0, .ref m), (1, .int (nI j)), (2, .int 3)]) rfl ?_
            refine x_goto C dX8_taken_103 (tgt := 74) rfl ?_
            refine x_iload_n C dX8_taken_74 0 rfl ?_
            refine x_iload_n C dX8_taken_75 3 rfl ?_
            refine x_icmp_eq C dX8_taken_76 (tgt := 106) rfl (fun q9 => absurd q9 (by decide)) (fun _ => ?_)
            refine x_iload_n C dX8_taken_79 0 rfl ?_
            refine x_if_le C dX8_taken_80 (tgt := 106) rfl (fun _ => ?_) (fun q9 => by first | exact absurd q9 (by decide) | exact absurd (by decide) q9)
            show X _ _ _ _ 106 _
            refine x_iload_n C dX8_taken_106 0 rfl ?_
            refine x_iload_n C dX8_taken_107 3 rfl ?_
            refine x_icmp_ne C dX8_taken_108 (tgt := 115) rfl (fun _ => ?_) (fun q9 => by first | exact absurd q9 (by decide) | exact absurd (by decide) q9)
            refine x_bipush C dX8_taken_115 (v := (-13)) rfl ?_
            refine E dX8_taken_117 (rfl) ?_
            exact ⟨(-13), rfl, rfl, by (unfold o_taken); (try simp only [hnj]); (repeat (first | rw [if_pos (by first | exact hk9 | (rw [hk9]; decide) | (rw [if_pos (by decide)]; assumption) | (rw [if_neg (by decide), if_pos (by decide)]; assumption) | (rw [if_neg (by decide), if_neg (by decide)]; assumption) | assumption | decide | omega | exact o_one_t (by assumption) | (rw [o_one_f (by assumption)]; decide) | exact ⟨by assumption, by assumption⟩ | exact fun h9 => absurd h9.1 (by assumption) | exact fun h9 => absurd h9.2 (by assumption))] | rw [if_neg (by first | exact hk9 | (rw [hk9]; decide) | (rw [if_pos (by decide)]; assumption) | (rw [if_neg (by decide), if_pos (by decide)]; assumption) | (rw [if_neg (by decide), if_neg (by decide)]; assumption) | assumption | decide | omega | exact o_one_t (by assumption) | (rw [o_one_f (by assumption)]; decide) | exact ⟨by assumption, by assumption⟩ | exact fun h9 => absurd h9.1 (by assumption) | exact fun h9 => absurd h9.2 (by assumption))])); all_goals (first | rfl)⟩
          ·
            refine x_topi C 5 hq50 ?_
            have hk9 : o_one (kf j) 3 = false := by rw [hq50]; decide
            refine x_istore_n C dX8_taken_73 (by decide) (lv' := [(3, .int 5), (0, .ref m), (1, .int (nI j)), (2, .int 3)]) rfl ?_
            refine x_iload_n C dX8_taken_74 0 rfl ?_
            refine x_iload_n C dX8_taken_75 3 rfl ?_
            refine x_icmp_eq C dX8_taken_76 (tgt := 106) rfl (fun q9 => absurd q9 (by decide)) (fun _ => ?_)
            refine x_iload_n C dX8_taken_79 0 rfl ?_
            refine x_if_le C dX8_taken_80 (tgt := 106) rfl (fun q9 => absurd q9 (by decide)) (fun _ => ?_)
            refine x_iload_n C dX8_taken_83 0 rfl ?_
            refine x_iconst C dX8_taken_84 (v := 3) rfl ?_
            refine x_icmp_ne C dX8_taken_85 (tgt := 92) rfl (fun _ => ?_) (fun q9 => by first | exact absurd q9 (by decide) | exact absurd (by decide) q9)
            refine x_iload_n C dX8_taken_92 0 rfl ?_
            show X _ _ _ _ 93 _
            refine x_iconst C dX8_taken_93 (v := 5) rfl ?_
            refine x_icmp_ne C dX8_taken_94 (tgt := 101) rfl (fun q9 => absurd q9 (by decide)) (fun _ => ?_)
            refine x_iconst C dX8_taken_97 (v := 2) rfl ?_
            refine x_goto C dX8_taken_98 (tgt := 102) rfl ?_
            refine x_istore_n C dX8_taken_102 (by decide) (lv' := [(3, .int 2), (0, .ref m), (1, .int (nI j)), (2, .int 3)]) rfl ?_
            refine x_goto C dX8_taken_103 (tgt := 74) rfl ?_
            refine x_iload_n C dX8_taken_74 0 rfl ?_
            refine x_iload_n C dX8_taken_75 3 rfl ?_
            refine x_icmp_eq C dX8_taken_76 (tgt := 106) rfl (fun q9 => absurd q9 (by decide)) (fun _ => ?_)
            refine x_iload_n C dX8_taken_79 0 rfl ?_
            show X _ _ _ _ 80 _
            refine x_if_le C dX8_taken_80 (tgt := 106) rfl (fun q9 => absurd q9 (by decide)) (fun _ => ?_)
            refine x_iload_n C dX8_taken_83 0 rfl ?_
            refine x_iconst C dX8_taken_84 (v := 3) rfl ?_
            refine x_icmp_ne C dX8_taken_85 (tgt := 92) rfl (fun _ => ?_) (fun q9 => by first | exact absurd q9 (by decide) | exact absurd (by decide) q9)
            refine x_iload_n C dX8_taken_92 0 rfl ?_
            refine x_iconst C dX8_taken_93 (v := 5) rfl ?_
            refine x_icmp_ne C dX8_taken_94 (tgt := 101) rfl (fun _ => ?_) (fun q9 => by first | exact absurd q9 (by decide) | exact absurd (by decide) q9)
            refine x_iconst C dX8_taken_101 (v := 0) rfl ?_
            refine x_istore_n C dX8_taken_102 (by decide) (lv' := [(3, .int 0), (0, .ref m), (1, .int (nI j)), (2, .int 3)]) rfl ?_
            refine x_goto C dX8_taken_103 (tgt := 74) rfl ?_
            show X _ _ _ _ 74 _
            refine x_iload_n C dX8_taken_74 0 rfl ?_
            refine x_iload_n C dX8_taken_75 3 rfl ?_
            refine x_icmp_eq C dX8_taken_76 (tgt := 106) rfl (fun q9 => absurd q9 (by decide)) (fun _ => ?_)
            refine x_iload_n C dX8_taken_79 0 rfl ?_
            refine x_if_le C dX8_taken_80 (tgt := 106) rfl (fun _ => ?_) (fun q9 => by first | exact absurd q9 (by decide) | exact absurd (by decide) q9)
            refine x_iload_n C dX8_taken_106 0 rfl ?_
            refine x_iload_n C dX8_taken_107 3 rfl ?_
            refine x_icmp_ne C dX8_taken_108 (tgt := 115) rfl (fun _ => ?_) (fun q9 => by first | exact absurd q9 (by decide) | exact absurd (by decide) q9)
            refine x_bipush C dX8_taken_115 (v := (-13)) rfl ?_
            refine E dX8_taken_117 (rfl) ?_
            exact ⟨(-13), rfl, rfl, by (unfold o_taken); (try simp only [hnj]); (repeat (first | rw [if_pos (by first | exact hk9 | (rw [hk9]; decide) | (rw [if_pos (by decide)]; assumption) | (rw [if_neg (by decide), if_pos (by decide)]; assumption) | (rw [if_neg (by decide), if_neg (by decide)]; assumption) | assumption | decide | omega | exact o_one_t (by assumption) | (rw [o_one_f (by assumption)]; decide) | exact ⟨by assumption, by assumption⟩ | exact fun h9 => absurd h9.1 (by assumption) | exact fun h9 => absurd h9.2 (by assumption))] | rw [if_neg (by first | exact hk9 | (rw [hk9]; decide) | (rw [if_pos (by decide)]; assumption) | (rw [if_neg (by decide), if_pos (by decide)]; assumption) | (rw [if_neg (by decide), if_neg (by decide)]; assumption) | assumption | decide | omega | exact o_one_t (by assumption) | (rw [o_one_f (by assumption)]; decide) | exact ⟨by assumption, by assumption⟩ | exact fun h9 => absurd h9.1 (by assumption) | exact fun h9 => absurd h9.2 (by assumption))])); all_goals (first | rfl)⟩
        ·
          have c49 : j > 35 := q_le_f rfl (rfl : (35 : Int32) = nI 35) (by omega) (by omega) c49
          refine x_aload_n C dX8_taken_32 0 rfl ?_
          refine x_iload_n C dX8_taken_33 1 rfl ?_
          refine x_bipush C dX8_taken_34 (v := 36) rfl ?_
          refine x_isub C dX8_taken_36 ?_
          refine x_callV C (As := [.int ((nI j) - 36)]) (st := []) (wc := [(m, .inr (7, [.ref a_sky, .ref a_kind, .ref a_more, .ref a_strewn, .int (nI tn), .ref a_treeCell, .ref a_treeSort, .ref a_treeLeaves, .int i_raking, .long l_heaps, .int (nI tz), .ref a_tape, .int (nI wr), .int (nI lw), .ref a_code, .ref a_begins, .int i_made, .int i_at, .int i_from, .int i_sort, .int i_value, .int i_open, .ref a_stack, .ref a_dry, .ref a_wet, .ref a_covered, .ref a_hangs, .ref a_off, .int i_fell, .int i_fellToday, .int i_rotten, .int i_raked, .int i_cost, .ref a_dryGo, .ref a_wetGo, .ref a_keptSky, .int i_imaged, .int (nI itn), .int i_oldRaking, .long l_oldHeaps, .int (nI ilw), .ref a_oldSky, .ref a_oldCells, .ref a_sheetSort, .ref a_sheetSize, .ref a_items, .ref a_spare]))]) (wr := [(a_kind, .inl (cI, 36, .inl kf)), (a_treeLeaves, .inl (cI, 4, .inl ttf))]) (c_X8_isTree l dG cI cM cW cS m a_sky a_kind a_more a_strewn a_treeCell a_treeSort a_treeLeaves a_tape a_code a_begins a_stack a_dry a_wet a_covered a_hangs a_off a_dryGo a_wetGo a_keptSky a_oldSky a_oldCells a_sheetSort a_sheetSize a_items a_spare tn tz wr lw itn ilw i_raking i_made i_at i_from i_sort i_value i_open i_fell i_fellToday i_rotten i_raked i_cost i_imaged i_oldRaking l_heaps l_oldHeaps ((nI j) - 36) ) rZ0_ok (fun _ _ _ _ => trivial) kV_X8_230 ⟨rfl, hy_X8_isTree⟩ ⟨Nat.le_of_ble_eq_true rfl, Nat.le_of_ble_eq_true rfl⟩ ⟨Nat.le_of_ble_eq_true rfl, Nat.le_of_ble_eq_true rfl⟩ dX8_taken_37 0 rfl rfl [0] [1, 2] rfl rfl rfl rfl (by decide) rfl (Nat.le_of_ble_eq_true rfl) ?_
          intro v51 w52 h53
          rcases h53 with h53 | h53
          ·
            obtain ⟨rfl, rfl, hf54⟩ := h53
            show X 0 0 [(a_kind, .inl (cI, 36, .inl kf)), (a_treeLeaves, .inl (cI, 4, .inl ttf)), (m, .inr (7, [.ref a_sky, .ref a_kind, .ref a_more, .ref a_strewn, .int (nI tn), .ref a_treeCell, .ref a_treeSort, .ref a_treeLeaves, .int i_raking, .long l_heaps, .int (nI tz), .ref a_tape, .int (nI wr), .int (nI lw), .ref a_code, .ref a_begins, .int i_made, .int i_at, .int i_from, .int i_sort, .int i_value, .int i_open, .ref a_stack, .ref a_dry, .ref a_wet, .ref a_covered, .ref a_hangs, .ref a_off, .int i_fell, .int i_fellToday, .int i_rotten, .int i_raked, .int i_cost, .ref a_dryGo, .ref a_wetGo, .ref a_keptSky, .int i_imaged, .int (nI itn), .int i_oldRaking, .long l_oldHeaps, .int (nI ilw), .ref a_oldSky, .ref a_oldCells, .ref a_sheetSort, .ref a_sheetSize, .ref a_items, .ref a_spare]))] [(0, .ref m), (1, .int (nI j)), (2, .int 3)] 40 [.int 1]
            refine x_if_ne C dX8_taken_40 (tgt := 46) rfl (fun _ => ?_) (fun q9 => by first | exact absurd q9 (by decide) | exact absurd (by decide) q9)
            refine x_iload_n C dX8_taken_46 2 rfl ?_
            refine x_bipush C dX8_taken_47 (v := 6) rfl ?_
            refine x_icmp_ne C dX8_taken_49 (tgt := 64) rfl (fun _ => ?_) (fun q9 => by first | exact absurd q9 (by decide) | exact absurd (by decide) q9)
            refine x_bipush C dX8_taken_64 (v := (-13)) rfl ?_
            refine x_sub C [2, 0, 1] (ws' := [(m, .inr (7, [.ref a_sky, .ref a_kind, .ref a_more, .ref a_strewn, .int (nI tn), .ref a_treeCell, .ref a_treeSort, .ref a_treeLeaves, .int i_raking, .long l_heaps, .int (nI tz), .ref a_tape, .int (nI wr), .int (nI lw), .ref a_code, .ref a_begins, .int i_made, .int i_at, .int i_from, .int i_sort, .int i_value, .int i_open, .ref a_stack, .ref a_dry, .ref a_wet, .ref a_covered, .ref a_hangs, .ref a_off, .int i_fell, .int i_fellToday, .int i_rotten, .int i_raked, .int i_cost, .ref a_dryGo, .ref a_wetGo, .ref a_keptSky, .int i_imaged, .int (nI itn), .int i_oldRaking, .long l_oldHeaps, .int (nI ilw), .ref a_oldSky, .ref a_oldCells, .ref a_sheetSort, .ref a_sheetSize, .ref a_items, .ref a_spare])), (a_kind, .inl (cI, 36, .inl kf)), (a_treeLeaves, .inl (cI, 4, .inl ttf))]) rfl rfl ?_
            refine E dX8_taken_66 (rfl) ?_
            exact ⟨(-13), rfl, rfl, by (unfold o_taken); (try simp only [hnj]); (repeat (first | rw [if_pos (by first | exact hk9 | (rw [hk9]; decide) | (rw [if_pos (by decide)]; assumption) | (rw [if_neg (by decide), if_pos (by decide)]; assumption) | (rw [if_neg (by decide), if_neg (by decide)]; assumption) | assumption | decide | omega | exact o_one_t (by assumption) | (rw [o_one_f (by assumption)]; decide) | exact ⟨by assumption, by assumption⟩ | exact fun h9 => absurd h9.1 (by assumption) | exact fun h9 => absurd h9.2 (by assumption))] | rw [if_neg (by first | exact hk9 | (rw [hk9]; decide) | (rw [if_pos (by decide)]; assumption) | (rw [if_neg (by decide), if_pos (by decide)]; assumption) | (rw [if_neg (by decide), if_neg (by decide)]; assumption) | assumption | decide | omega | exact o_one_t (by assumption) | (rw [o_one_f (by assumption)]; decide) | exact ⟨by assumption, by assumption⟩ | exact fun h9 => absurd h9.1 (by assumption) | exact fun h9 => absurd h9.2 (by assumption))])); all_goals (first | rfl)⟩
          ·
            obtain ⟨rfl, rfl, hf55⟩ := h53
            show X 0 0 [(a_kind, .inl (cI, 36, .inl kf)), (a_treeLeaves, .inl (cI, 4, .inl ttf)), (m, .inr (7, [.ref a_sky, .ref a_kind, .ref a_more, .ref a_strewn, .int (nI tn), .ref a_treeCell, .ref a_treeSort, .ref a_treeLeaves, .int i_raking, .long l_heaps, .int (nI tz), .ref a_tape, .int (nI wr), .int (nI lw), .ref a_code, .ref a_begins, .int i_made, .int i_at, .int i_from, .int i_sort, .int i_value, .int i_open, .ref a_stack, .ref a_dry, .ref a_wet, .ref a_covered, .ref a_hangs, .ref a_off, .int i_fell, .int i_fellToday, .int i_rotten, .int i_raked, .int i_cost, .ref a_dryGo, .ref a_wetGo, .ref a_keptSky, .int i_imaged, .int (nI itn), .int i_oldRaking, .long l_oldHeaps, .int (nI ilw), .ref a_oldSky, .ref a_oldCells, .ref a_sheetSort, .ref a_sheetSize, .ref a_items, .ref a_spare]))] [(0, .ref m), (1, .int (nI j)), (2, .int 3)] 40 [.int 0]
            refine x_if_ne C dX8_taken_40 (tgt := 46) rfl (fun q9 => absurd q9 (by decide)) (fun _ => ?_)
            refine x_bipush C dX8_taken_43 (v := (-11)) rfl ?_
            refine x_sub C [2, 0, 1] (ws' := [(m, .inr (7, [.ref a_sky, .ref a_kind, .ref a_more, .ref a_strewn, .int (nI tn), .ref a_treeCell, .ref a_treeSort, .ref a_treeLeaves, .int i_raking, .long l_heaps, .int (nI tz), .ref a_tape, .int (nI wr), .int (nI lw), .ref a_code, .ref a_begins, .int i_made, .int i_at, .int i_from, .int i_sort, .int i_value, .int i_open, .ref a_stack, .ref a_dry, .ref a_wet, .ref a_covered, .ref a_hangs, .ref a_off, .int i_fell, .int i_fellToday, .int i_rotten, .int i_raked, .int i_cost, .ref a_dryGo, .ref a_wetGo, .ref a_keptSky, .int i_imaged, .int (nI itn), .int i_oldRaking, .long l_oldHeaps, .int (nI ilw), .ref a_oldSky, .ref a_oldCells, .ref a_sheetSort, .ref a_sheetSize, .ref a_items, .ref a_spare])), (a_kind, .inl (cI, 36, .inl kf)), (a_treeLeaves, .inl (cI, 4, .inl ttf))]) rfl rfl ?_
            refine E dX8_taken_45 (rfl) ?_
            exact ⟨(-11), rfl, rfl, by (unfold o_taken); (try simp only [hnj]); (repeat (first | rw [if_pos (by first | exact hk9 | (rw [hk9]; decide) | (rw [if_pos (by decide)]; assumption) | (rw [if_neg (by decide), if_pos (by decide)]; assumption) | (rw [if_neg (by decide), if_neg (by decide)]; assumption) | assumption | decide | omega | exact o_one_t (by assumption) | (rw [o_one_f (by assumption)]; decide) | exact ⟨by assumption, by assumption⟩ | exact fun h9 => absurd h9.1 (by assumption) | exact fun h9 => absurd h9.2 (by assumption))] | rw [if_neg (by first | exact hk9 | (rw [hk9]; decide) | (rw [if_pos (by decide)]; assumption) | (rw [if_neg (by decide), if_pos (by decide)]; assumption) | (rw [if_neg (by decide), if_neg (by decide)]; assumption) | assumption | decide | omega | exact o_one_t (by assumption) | (rw [o_one_f (by assumption)]; decide) | exact ⟨by assumption, by assumption⟩ | exact fun h9 => absurd h9.1 (by assumption) | exact fun h9 => absurd h9.2 (by assumption))])); all_goals (first | rfl)⟩
      ·
        obtain ⟨rfl, rfl, hf56⟩ := h46
        show X 0 0 [(m, .inr (7, [.ref a_sky, .ref a_kind, .ref a_more, .ref a_strewn, .int (nI tn), .ref a_treeCell, .ref a_treeSort, .ref a_treeLeaves, .int i_raking, .long l_heaps, .int (nI tz), .ref a_tape, .int (nI wr), .int (nI lw), .ref a_code, .ref a_begins, .int i_made, .int i_at, .int i_from, .int i_sort, .int i_value, .int i_open, .ref a_stack, .ref a_dry, .ref a_wet, .ref a_covered, .ref a_hangs, .ref a_off, .int i_fell, .int i_fellToday, .int i_rotten, .int i_raked, .int i_cost, .ref a_dryGo, .ref a_wetGo, .ref a_keptSky, .int i_imaged, .int (nI itn), .int i_oldRaking, .long l_oldHeaps, .int (nI ilw), .ref a_oldSky, .ref a_oldCells, .ref a_sheetSort, .ref a_sheetSize, .ref a_items, .ref a_spare])), (a_kind, .inl (cI, 36, .inl kf)), (a_treeLeaves, .inl (cI, 4, .inl ttf))] [(0, .ref m), (1, .int i), (2, .int 3)] 20 [.int 0]
        refine x_if_ne C dX8_taken_20 (tgt := 26) rfl (fun q9 => absurd q9 (by decide)) (fun _ => ?_)
        refine x_bipush C dX8_taken_23 (v := (-12)) rfl ?_
        refine E dX8_taken_25 (rfl) ?_
        exact ⟨(-12), rfl, rfl, by (unfold o_taken); (repeat (first | rw [if_pos (by first | exact hk9 | (rw [hk9]; decide) | (rw [if_pos (by decide)]; assumption) | (rw [if_neg (by decide), if_pos (by decide)]; assumption) | (rw [if_neg (by decide), if_neg (by decide)]; assumption) | assumption | decide | omega | exact o_one_t (by assumption) | (rw [o_one_f (by assumption)]; decide) | exact ⟨by assumption, by assumption⟩ | exact fun h9 => absurd h9.1 (by assumption) | exact fun h9 => absurd h9.2 (by assumption))] | rw [if_neg (by first | exact hk9 | (rw [hk9]; decide) | (rw [if_pos (by decide)]; assumption) | (rw [if_neg (by decide), if_pos (by decide)]; assumption) | (rw [if_neg (by decide), if_neg (by decide)]; assumption) | assumption | decide | omega | exact o_one_t (by assumption) | (rw [o_one_f (by assumption)]; decide) | exact ⟨by assumption, by assumption⟩ | exact fun h9 => absurd h9.1 (by assumption) | exact fun h9 => absurd h9.2 (by assumption))])); all_goals (first | rfl)⟩
    ·
      refine x_if_ne C dX8_taken_7 (tgt := 13) rfl (fun _ => ?_) (fun q9 => by first | exact absurd q9 (by decide) | exact absurd (by decide) q9)
      refine x_iload_n C dX8_taken_13 1 rfl ?_
      refine x_iconst C dX8_taken_14 (v := 0) rfl ?_
      refine x_bipush C dX8_taken_15 (v := 39) rfl ?_
      refine x_callS C (As := [.int i, .int 0, .int 39]) (st := []) (wc := []) (wr := [(m, .inr (7, [.ref a_sky, .ref a_kind, .ref a_more, .ref a_strewn, .int (nI tn), .ref a_treeCell, .ref a_treeSort, .ref a_treeLeaves, .int i_raking, .long l_heaps, .int (nI tz), .ref a_tape, .int (nI wr), .int (nI lw), .ref a_code, .ref a_begins, .int i_made, .int i_at, .int i_from, .int i_sort, .int i_value, .int i_open, .ref a_stack, .ref a_dry, .ref a_wet, .ref a_covered, .ref a_hangs, .ref a_off, .int i_fell, .int i_fellToday, .int i_rotten, .int i_raked, .int i_cost, .ref a_dryGo, .ref a_wetGo, .ref a_keptSky, .int i_imaged, .int (nI itn), .int i_oldRaking, .long l_oldHeaps, .int (nI ilw), .ref a_oldSky, .ref a_oldCells, .ref a_sheetSort, .ref a_sheetSize, .ref a_items, .ref a_spare])), (a_kind, .inl (cI, 36, .inl kf)), (a_treeLeaves, .inl (cI, 4, .inl ttf))]) (c_X8_within l dG cI cM cW cS i 0 39 ) rZ0_ok (fun _ _ _ _ => trivial) kS_X8_108 hy_X8_within ⟨Nat.le_of_ble_eq_true rfl, Nat.le_of_ble_eq_true rfl⟩ ⟨Nat.le_of_ble_eq_true rfl, Nat.le_of_ble_eq_true rfl⟩ dX8_taken_17 [] [0, 1, 2] rfl rfl rfl rfl (by decide) rfl (Nat.le_of_ble_eq_true rfl) ?_
      intro v57 w58 h59
      rcases h59 with h59 | h59
      ·
        obtain ⟨rfl, rfl, hf60⟩ := h59
        show X 0 0 [(m, .inr (7, [.ref a_sky, .ref a_kind, .ref a_more, .ref a_strewn, .int (nI tn), .ref a_treeCell, .ref a_treeSort, .ref a_treeLeaves, .int i_raking, .long l_heaps, .int (nI tz), .ref a_tape, .int (nI wr), .int (nI lw), .ref a_code, .ref a_begins, .int i_made, .int i_at, .int i_from, .int i_sort, .int i_value, .int i_open, .ref a_stack, .ref a_dry, .ref a_wet, .ref a_covered, .ref a_hangs, .ref a_off, .int i_fell, .int i_fellToday, .int i_rotten, .int i_raked, .int i_cost, .ref a_dryGo, .ref a_wetGo, .ref a_keptSky, .int i_imaged, .int (nI itn), .int i_oldRaking, .long l_oldHeaps, .int (nI ilw), .ref a_oldSky, .ref a_oldCells, .ref a_sheetSort, .ref a_sheetSize, .ref a_items, .ref a_spare])), (a_kind, .inl (cI, 36, .inl kf)), (a_treeLeaves, .inl (cI, 4, .inl ttf))] [(0, .ref m), (1, .int i), (2, .int 4)] 20 [.int 1]
        have hr61 := hf60
        obtain ⟨j, hj, rfl⟩ := q_w (n := 39) rfl (by decide) hf60
        have hnj : o_n (nI j) = j := o_n_nI (by omega)
        refine x_if_ne C dX8_taken_20 (tgt := 26) rfl (fun _ => ?_) (fun q9 => by first | exact absurd q9 (by decide) | exact absurd (by decide) q9)
        refine x_iload_n C dX8_taken_26 1 rfl ?_
        refine x_bipush C dX8_taken_27 (v := 35) rfl ?_
        refine x_icmp_le C dX8_taken_29 (tgt := 67) rfl (fun c62 => ?_) (fun c62 => ?_)
        ·
          have c62 : j ≤ 35 := q_le_t rfl (rfl : (35 : Int32) = nI 35) (by omega) (by omega) c62
          refine x_aload_n C dX8_taken_67 0 rfl ?_
          refine x_get C inlX8 rfl 1 (by decide) gw_10_19 dX8_taken_68 0 rfl rfl ?_
          refine x_iload_n C dX8_taken_71 1 rfl ?_
          refine x_iaload C 0 rfl dX8_taken_72 j (q_cl rfl (by omega)) (q_ix rfl (by omega) (by omega)) 1 rfl ?_
          have hq63 := q_in6 (hkf j (by omega))
          rcases hq63 with hq63 | hq63 | hq63 | hq63 | hq63 | hq63
          ·
            refine x_topi C 0 hq63 ?_
            have hk9 : o_one (kf j) 4 = false := by rw [hq63]; decide
            refine x_istore_n C dX8_taken_73 (by decide) (lv' := [(3, .int 0), (0, .ref m), (1, .int (nI j)), (2, .int 4)]) rfl ?_
            refine x_iload_n C dX8_taken_74 0 rfl ?_
            refine x_iload_n C dX8_taken_75 3 rfl ?_
            refine x_icmp_eq C dX8_taken_76 (tgt := 106) rfl (fun q9 => absurd q9 (by decide)) (fun _ => ?_)
            refine x_iload_n C dX8_taken_79 0 rfl ?_
            refine x_if_le C dX8_taken_80 (tgt := 106) rfl (fun _ => ?_) (fun q9 => by first | exact absurd q9 (by decide) | exact absurd (by decide) q9)
            refine x_iload_n C dX8_taken_106 0 rfl ?_
            refine x_iload_n C dX8_taken_107 3 rfl ?_
            refine x_icmp_ne C dX8_taken_108 (tgt := 115) rfl (fun _ => ?_) (fun q9 => by first | exact absurd q9 (by decide) | exact absurd (by decide) q9)
            refine x_bipush C dX8_taken_115 (v := (-13)) rfl ?_
            show X _ _ _ _ 117 _
            refine E dX8_taken_117 (rfl) ?_
            exact ⟨(-13), rfl, rfl, by (unfold o_taken); (try simp only [hnj]); (repeat (first | rw [if_pos (by first | exact hk9 | (rw [hk9]; decide) | (rw [if_pos (by decide)]; assumption) | (rw [if_neg (by decide), if_pos (by decide)]; assumption) | (rw [if_neg (by decide), if_neg (by decide)]; assumption) | assumption | decide | omega | exact o_one_t (by assumption) | (rw [o_one_f (by assumption)]; decide) | exact ⟨by assumption, by assumption⟩ | exact fun h9 => absurd h9.1 (by assumption) | exact fun h9 => absurd h9.2 (by assumption))] | rw [if_neg (by first | exact hk9 | (rw [hk9]; decide) | (rw [if_pos (by decide)]; assumption) | (rw [if_neg (by decide), if_pos (by decide)]; assumption) | (rw [if_neg (by decide), if_neg (by decide)]; assumption) | assumption | decide | omega | exact o_one_t (by assumption) | (rw [o_one_f (by assumption)]; decide) | exact ⟨by assumption, by assumption⟩ | exact fun h9 => absurd h9.1 (by assumption) | exact fun h9 => absurd h9.2 (by assumption))])); all_goals (first | rfl)⟩
          ·
            refine x_topi C 1 hq63 ?_
            have hk9 : o_one (kf j) 4 = false := by rw [hq63]; decide
            refine x_istore_n C dX8_taken_73 (by decide) (lv' := [(3, .int 1), (0, .ref m), (1, .int (nI j)), (2, .int 4)]) rfl ?_
            refine x_iload_n C dX8_taken_74 0 rfl ?_
            refine x_iload_n C dX8_taken_75 3 rfl ?_
            refine x_icmp_eq C dX8_taken_76 (tgt := 106) rfl (fun q9 => absurd q9 (by decide)) (fun _ => ?_)
            refine x_iload_n C dX8_taken_79 0 rfl ?_
            refine x_if_le C dX8_taken_80 (tgt := 106) rfl (fun q9 => absurd q9 (by decide)) (fun _ => ?_)
            refine x_iload_n C dX8_taken_83 0 rfl ?_
            refine x_iconst C dX8_taken_84 (v := 3) rfl ?_
            refine x_icmp_ne C dX8_taken_85 (tgt := 92) rfl (fun _ => ?_) (fun q9 => by first | exact absurd q9 (by decide) | exact absurd (by decide) q9)
            refine x_iload_n C dX8_taken_92 0 rfl ?_
            show X _ _ _ _ 93 _
            refine x_iconst C dX8_taken_93 (v := 5) rfl ?_
            refine x_icmp_ne C dX8_taken_94 (tgt := 101) rfl (fun _ => ?_) (fun q9 => by first | exact absurd q9 (by decide) | exact absurd (by decide) q9)
            refine x_iconst C dX8_taken_101 (v := 0) rfl ?_
            refine x_istore_n C dX8_taken_102 (by decide) (lv' := [(3, .int 0), (0, .ref m), (1, .int (nI j)), (2, .int 4)]) rfl ?_
            refine x_goto C dX8_taken_103 (tgt := 74) rfl ?_
            refine x_iload_n C dX8_taken_74 0 rfl ?_
            refine x_iload_n C dX8_taken_75 3 rfl ?_
            refine x_icmp_eq C dX8_taken_76 (tgt := 106) rfl (fun q9 => absurd q9 (by decide)) (fun _ => ?_)
            refine x_iload_n C dX8_taken_79 0 rfl ?_
            refine x_if_le C dX8_taken_80 (tgt := 106) rfl (fun _ => ?_) (fun q9 => by first | exact absurd q9 (by decide) | exact absurd (by decide) q9)
            show X _ _ _ _ 106 _
            refine x_iload_n C dX8_taken_106 0 rfl ?_
            refine x_iload_n C dX8_taken_107 3 rfl ?_
            refine x_icmp_ne C dX8_taken_108 (tgt := 115) rfl (fun _ => ?_) (fun q9 => by first | exact absurd q9 (by decide) | exact absurd (by decide) q9)
            refine x_bipush C dX8_taken_115 (v := (-13)) rfl ?_
            refine E dX8_taken_117 (rfl) ?_
            exact ⟨(-13), rfl, rfl, by (unfold o_taken); (try simp only [hnj]); (repeat (first | rw [if_pos (by first | exact hk9 | (rw [hk9]; decide) | (rw [if_pos (by decide)]; assumption) | (rw [if_neg (by decide), if_pos (by decide)]; assumption) | (rw [if_neg (by decide), if_neg (by decide)]; assumption) | assumption | decide | omega | exact o_one_t (by assumption) | (rw [o_one_f (by assumption)]; decide) | exact ⟨by assumption, by assumption⟩ | exact fun h9 => absurd h9.1 (by assumption) | exact fun h9 => absurd h9.2 (by assumption))] | rw [if_neg (by first | exact hk9 | (rw [hk9]; decide) | (rw [if_pos (by decide)]; assumption) | (rw [if_neg (by decide), if_pos (by decide)]; assumption) | (rw [if_neg (by decide), if_neg (by decide)]; assumption) | assumption | decide | omega | exact o_one_t (by assumption) | (rw [o_one_f (by assumption)]; decide) | exact ⟨by assumption, by assumption⟩ | exact fun h9 => absurd h9.1 (by assumption) | exact fun h9 => absurd h9.2 (by assumption))])); all_goals (first | rfl)⟩
          ·
            refine x_topi C 2 hq63 ?_
            have hk9 : o_one (kf j) 4 = false := by rw [hq63]; decide
            refine x_istore_n C dX8_taken_73 (by decide) (lv' := [(3, .int 2), (0, .ref m), (1, .int (nI j)), (2, .int 4)]) rfl ?_
            refine x_iload_n C dX8_taken_74 0 rfl ?_
            refine x_iload_n C dX8_taken_75 3 rfl ?_
            refine x_icmp_eq C dX8_taken_76 (tgt := 106) rfl (fun q9 => absurd q9 (by decide)) (fun _ => ?_)
            refine x_iload_n C dX8_taken_79 0 rfl ?_
            refine x_if_le C dX8_taken_80 (tgt := 106) rfl (fun q9 => absurd q9 (by decide)) (fun _ => ?_)
            refine x_iload_n C dX8_taken_83 0 rfl ?_
            refine x_iconst C dX8_taken_84 (v := 3) rfl ?_
            refine x_icmp_ne C dX8_taken_85 (tgt := 92) rfl (fun _ => ?_) (fun q9 => by first | exact absurd q9 (by decide) | exact absurd (by decide) q9)
            refine x_iload_n C dX8_taken_92 0 rfl ?_
            show X _ _ _ _ 93 _
            refine x_iconst C dX8_taken_93 (v := 5) rfl ?_
            refine x_icmp_ne C dX8_taken_94 (tgt := 101) rfl (fun _ => ?_) (fun q9 => by first | exact absurd q9 (by decide) | exact absurd (by decide) q9)
            refine x_iconst C dX8_taken_101 (v := 0) rfl ?_
            refine x_istore_n C dX8_taken_102 (by decide) (lv' := [(3, .int 0), (0, .ref m), (1, .int (nI j)), (2, .int 4)]) rfl ?_
            refine x_goto C dX8_taken_103 (tgt := 74) rfl ?_
            refine x_iload_n C dX8_taken_74 0 rfl ?_
            refine x_iload_n C dX8_taken_75 3 rfl ?_
            refine x_icmp_eq C dX8_taken_76 (tgt := 106) rfl (fun q9 => absurd q9 (by decide)) (fun _ => ?_)
            refine x_iload_n C dX8_taken_79 0 rfl ?_
            refine x_if_le C dX8_taken_80 (tgt := 106) rfl (fun _ => ?_) (fun q9 => by first | exact absurd q9 (by decide) | exact absurd (by decide) q9)
            show X _ _ _ _ 106 _
            refine x_iload_n C dX8_taken_106 0 rfl ?_
            refine x_iload_n C dX8_taken_107 3 rfl ?_
            refine x_icmp_ne C dX8_taken_108 (tgt := 115) rfl (fun _ => ?_) (fun q9 => by first | exact absurd q9 (by decide) | exact absurd (by decide) q9)
            refine x_bipush C dX8_taken_115 (v := (-13)) rfl ?_
            refine E dX8_taken_117 (rfl) ?_
            exact ⟨(-13), rfl, rfl, by (unfold o_taken); (try simp only [hnj]); (repeat (first | rw [if_pos (by first | exact hk9 | (rw [hk9]; decide) | (rw [if_pos (by decide)]; assumption) | (rw [if_neg (by decide), if_pos (by decide)]; assumption) | (rw [if_neg (by decide), if_neg (by decide)]; assumption) | assumption | decide | omega | exact o_one_t (by assumption) | (rw [o_one_f (by assumption)]; decide) | exact ⟨by assumption, by assumption⟩ | exact fun h9 => absurd h9.1 (by assumption) | exact fun h9 => absurd h9.2 (by assumption))] | rw [if_neg (by first | exact hk9 | (rw [hk9]; decide) | (rw [if_pos (by decide)]; assumption) | (rw [if_neg (by decide), if_pos (by decide)]; assumption) | (rw [if_neg (by decide), if_neg (by decide)]; assumption) | assumption | decide | omega | exact o_one_t (by assumption) | (rw [o_one_f (by assumption)]; decide) | exact ⟨by assumption, by assumption⟩ | exact fun h9 => absurd h9.1 (by assumption) | exact fun h9 => absurd h9.2 (by assumption))])); all_goals (first | rfl)⟩
          ·
            refine x_topi C 3 hq63 ?_
            have hk9 : o_one (kf j) 4 = false := by rw [hq63]; decide
            refine x_istore_n C dX8_taken_73 (by decide) (lv' := [(3, .int 3), (0, .ref m), (1, .int (nI j)), (2, .int 4)]) rfl ?_
            refine x_iload_n C dX8_taken_74 0 rfl ?_
            refine x_iload_n C dX8_taken_75 3 rfl ?_
            refine x_icmp_eq C dX8_taken_76 (tgt := 106) rfl (fun q9 => absurd q9 (by decide)) (fun _ => ?_)
            refine x_iload_n C dX8_taken_79 0 rfl ?_
            refine x_if_le C dX8_taken_80 (tgt := 106) rfl (fun q9 => absurd q9 (by decide)) (fun _ => ?_)
            refine x_iload_n C dX8_taken_83 0 rfl ?_
            refine x_iconst C dX8_taken_84 (v := 3) rfl ?_
            refine x_icmp_ne C dX8_taken_85 (tgt := 92) rfl (fun q9 => absurd q9 (by decide)) (fun _ => ?_)
            refine x_iconst C dX8_taken_88 (v := 1) rfl ?_
            show X _ _ _ _ 89 _
            refine x_goto C dX8_taken_89 (tgt := 102) rfl ?_
            refine x_istore_n C dX8_taken_102 (by decide) (lv' := [(3, .int 1), (0, .ref m), (1, .int (nI j)), (2, .int 4)]) rfl ?_
            refine x_goto C dX8_taken_103 (tgt := 74) rfl ?_
            refine x_iload_n C dX8_taken_74 0 rfl ?_
            refine x_iload_n C dX8_taken_75 3 rfl ?_
            refine x_icmp_eq C dX8_taken_76 (tgt := 106) rfl (fun q9 => absurd q9 (by decide)) (fun _ => ?_)
            refine x_iload_n C dX8_taken_79 0 rfl ?_
            refine x_if_le C dX8_taken_80 (tgt := 106) rfl (fun q9 => absurd q9 (by decide)) (fun _ => ?_)
            refine x_iload_n C dX8_taken_83 0 rfl ?_
            refine x_iconst C dX8_taken_84 (v := 3) rfl ?_
            show X _ _ _ _ 85 _
            refine x_icmp_ne C dX8_taken_85 (tgt := 92) rfl (fun _ => ?_) (fun q9 => by first | exact absurd q9 (by decide) | exact absurd (by decide) q9)
            refine x_iload_n C dX8_taken_92 0 rfl ?_
            refine x_iconst C dX8_taken_93 (v := 5) rfl ?_
            refine x_icmp_ne C dX8_taken_94 (tgt := 101) rfl (fun _ => ?_) (fun q9 => by first | exact absurd q9 (by decide) | exact absurd (by decide) q9)
            refine x_iconst C dX8_taken_101 (v := 0) rfl ?_
            refine x_istore_n C dX8_taken_102 (by decide) (lv' := [(3, .int 0), (0, .ref m), (1, .int (nI j)), (2, .int 4)]) rfl ?_
            refine x_goto C dX8_taken_103 (tgt := 74) rfl ?_
            refine x_iload_n C dX8_taken_74 0 rfl ?_
            refine x_iload_n C dX8_taken_75 3 rfl ?_
            refine x_icmp_eq C dX8_taken_76 (tgt := 106) rfl (fun q9 => absurd q9 (by decide)) (fun _ => ?_)
            show X _ _ _ _ 79 _
            refine x_iload_n C dX8_taken_79 0 rfl ?_
            refine x_if_le C dX8_taken_80 (tgt := 106) rfl (fun _ => ?_) (fun q9 => by first | exact absurd q9 (by decide) | exact absurd (by decide) q9)
            refine x_iload_n C dX8_taken_106 0 rfl ?_
            refine x_iload_n C dX8_taken_107 3 rfl ?_
            refine x_icmp_ne C dX8_taken_108 (tgt := 115) rfl (fun _ => ?_) (fun q9 => by first | exact absurd q9 (by decide) | exact absurd (by decide) q9)
            refine x_bipush C dX8_taken_115 (v := (-13)) rfl ?_
            refine E dX8_taken_117 (rfl) ?_
            exact ⟨(-13), rfl, rfl, by (unfold o_taken); (try simp only [hnj]); (repeat (first | rw [if_pos (by first | exact hk9 | (rw [hk9]; decide) | (rw [if_pos (by decide)]; assumption) | (rw [if_neg (by decide), if_pos (by decide)]; assumption) | (rw [if_neg (by decide), if_neg (by decide)]; assumption) | assumption | decide | omega | exact o_one_t (by assumption) | (rw [o_one_f (by assumption)]; decide) | exact ⟨by assumption, by assumption⟩ | exact fun h9 => absurd h9.1 (by assumption) | exact fun h9 => absurd h9.2 (by assumption))] | rw [if_neg (by first | exact hk9 | (rw [hk9]; decide) | (rw [if_pos (by decide)]; assumption) | (rw [if_neg (by decide), if_pos (by decide)]; assumption) | (rw [if_neg (by decide), if_neg (by decide)]; assumption) | assumption | decide | omega | exact o_one_t (by assumption) | (rw [o_one_f (by assumption)]; decide) | exact ⟨by assumption, by assumption⟩ | exact fun h9 => absurd h9.1 (by assumption) | exact fun h9 => absurd h9.2 (by assumption))])); all_goals (first | rfl)⟩
          ·
            refine x_topi C 4 hq63 ?_
            have hk9 : o_one (kf j) 4 = true := by rw [hq63]; decide
            refine x_istore_n C dX8_taken_73 (by decide) (lv' := [(3, .int 4), (0, .ref m), (1, .int (nI j)), (2, .int 4)]) rfl ?_
            refine x_iload_n C dX8_taken_74 0 rfl ?_
            refine x_iload_n C dX8_taken_75 3 rfl ?_
            refine x_icmp_eq C dX8_taken_76 (tgt := 106) rfl (fun _ => ?_) (fun q9 => by first | exact absurd q9 (by decide) | exact absurd (by decide) q9)
            refine x_iload_n C dX8_taken_106 0 rfl ?_
            refine x_iload_n C dX8_taken_107 3 rfl ?_
            refine x_icmp_ne C dX8_taken_108 (tgt := 115) rfl (fun q9 => absurd q9 (by decide)) (fun _ => ?_)
            refine x_iload_n C dX8_taken_111 2 rfl ?_
            refine x_goto C dX8_taken_112 (tgt := 117) rfl ?_
            refine E dX8_taken_117 (rfl) ?_
            exact ⟨(nI j), rfl, rfl, by (unfold o_taken); (try simp only [hnj]); (repeat (first | rw [if_pos (by first | exact hk9 | (rw [hk9]; decide) | (rw [if_pos (by decide)]; assumption) | (rw [if_neg (by decide), if_pos (by decide)]; assumption) | (rw [if_neg (by decide), if_neg (by decide)]; assumption) | assumption | decide | omega | exact o_one_t (by assumption) | (rw [o_one_f (by assumption)]; decide) | exact ⟨by assumption, by assumption⟩ | exact fun h9 => absurd h9.1 (by assumption) | exact fun h9 => absurd h9.2 (by assumption))] | rw [if_neg (by first | exact hk9 | (rw [hk9]; decide) | (rw [if_pos (by decide)]; assumption) | (rw [if_neg (by decide), if_pos (by decide)]; assumption) | (rw [if_neg (by decide), if_neg (by decide)]; assumption) | assumption | decide | omega | exact o_one_t (by assumption) | (rw [o_one_f (by assumption)]; decide) | exact ⟨by assumption, by assumption⟩ | exact fun h9 => absurd h9.1 (by assumption) | exact fun h9 => absurd h9.2 (by assumption))])); all_goals (first | rfl)⟩
          ·
            refine x_topi C 5 hq63 ?_
            have hk9 : o_one (kf j) 4 = false := by rw [hq63]; decide
            refine x_istore_n C dX8_taken_73 (by decide) (lv' := [(3, .int 5), (0, .ref m), (1, .int (nI j)), (2, .int 4)]) rfl ?_
            refine x_iload_n C dX8_taken_74 0 rfl ?_
            refine x_iload_n C dX8_taken_75 3 rfl ?_
            refine x_icmp_eq C dX8_taken_76 (tgt := 106) rfl (fun q9 => absurd q9 (by decide)) (fun _ => ?_)
            refine x_iload_n C dX8_taken_79 0 rfl ?_
            refine x_if_le C dX8_taken_80 (tgt := 106) rfl (fun q9 => absurd q9 (by decide)) (fun _ => ?_)
            refine x_iload_n C dX8_taken_83 0 rfl ?_
            refine x_iconst C dX8_taken_84 (v := 3) rfl ?_
            refine x_icmp_ne C dX8_taken_85 (tgt := 92) rfl (fun _ => ?_) (fun q9 => by first | exact absurd q9 (by decide) | exact absurd (by decide) q9)
            refine x_iload_n C dX8_taken_92 0 rfl ?_
            show X _ _ _ _ 93 _
            refine x_iconst C dX8_taken_93 (v := 5) rfl ?_
            refine x_icmp_ne C dX8_taken_94 (tgt := 101) rfl (fun q9 => absurd q9 (by decide)) (fun _ => ?_)
            refine x_iconst C dX8_taken_97 (v := 2) rfl ?_
            refine x_goto C dX8_taken_98 (tgt := 102) rfl ?_
            refine x_istore_n C dX8_taken_102 (by decide) (lv' := [(3, .int 2), (0, .ref m), (1, .int (nI j)), (2, .int 4)]) rfl ?_
            refine x_goto C dX8_taken_103 (tgt := 74) rfl ?_
            refine x_iload_n C dX8_taken_74 0 rfl ?_
            refine x_iload_n C dX8_taken_75 3 rfl ?_
            refine x_icmp_eq C dX8_taken_76 (tgt := 106) rfl (fun q9 => absurd q9 (by decide)) (fun _ => ?_)
            refine x_iload_n C dX8_taken_79 0 rfl ?_
            show X _ _ _ _ 80 _
            refine x_if_le C dX8_taken_80 (tgt := 106) rfl (fun q9 => absurd q9 (by decide)) (fun _ => ?_)
            refine x_iload_n C dX8_taken_83 0 rfl ?_
            refine x_iconst C dX8_taken_84 (v := 3) rfl ?_
            refine x_icmp_ne C dX8_taken_85 (tgt := 92) rfl (fun _ => ?_) (fun q9 => by first | exact absurd q9 (by decide) | exact absurd (by decide) q9)
            refine x_iload_n C dX8_taken_92 0 rfl ?_
            refine x_iconst C dX8_taken_93 (v := 5) rfl ?_
            refine x_icmp_ne C dX8_taken_94 (tgt := 101) rfl (fun _ => ?_) (fun q9 => by first | exact absurd q9 (by decide) | exact absurd (by decide) q9)
            refine x_iconst C dX8_taken_101 (v := 0) rfl ?_
            refine x_istore_n C dX8_taken_102 (by decide) (lv' := [(3, .int 0), (0, .ref m), (1, .int (nI j)), (2, .int 4)]) rfl ?_
            refine x_goto C dX8_taken_103 (tgt := 74) rfl ?_
            show X _ _ _ _ 74 _
            refine x_iload_n C dX8_taken_74 0 rfl ?_
            refine x_iload_n C dX8_taken_75 3 rfl ?_
            refine x_icmp_eq C dX8_taken_76 (tgt := 106) rfl (fun q9 => absurd q9 (by decide)) (fun _ => ?_)
            refine x_iload_n C dX8_taken_79 0 rfl ?_
            refine x_if_le C dX8_taken_80 (tgt := 106) rfl (fun _ => ?_) (fun q9 => by first | exact absurd q9 (by decide) | exact absurd (by decide) q9)
            refine x_iload_n C dX8_taken_106 0 rfl ?_
            refine x_iload_n C dX8_taken_107 3 rfl ?_
            refine x_icmp_ne C dX8_taken_108 (tgt := 115) rfl (fun _ => ?_) (fun q9 => by first | exact absurd q9 (by decide) | exact absurd (by decide) q9)
            refine x_bipush C dX8_taken_115 (v := (-13)) rfl ?_
            refine E dX8_taken_117 (rfl) ?_
            exact ⟨(-13), rfl, rfl, by (unfold o_taken); (try simp only [hnj]); (repeat (first | rw [if_pos (by first | exact hk9 | (rw [hk9]; decide) | (rw [if_pos (by decide)]; assumption) | (rw [if_neg (by decide), if_pos (by decide)]; assumption) | (rw [if_neg (by decide), if_neg (by decide)]; assumption) | assumption | decide | omega | exact o_one_t (by assumption) | (rw [o_one_f (by assumption)]; decide) | exact ⟨by assumption, by assumption⟩ | exact fun h9 => absurd h9.1 (by assumption) | exact fun h9 => absurd h9.2 (by assumption))] | rw [if_neg (by first | exact hk9 | (rw [hk9]; decide) | (rw [if_pos (by decide)]; assumption) | (rw [if_neg (by decide), if_pos (by decide)]; assumption) | (rw [if_neg (by decide), if_neg (by decide)]; assumption) | assumption | decide | omega | exact o_one_t (by assumption) | (rw [o_one_f (by assumption)]; decide) | exact ⟨by assumption, by assumption⟩ | exact fun h9 => absurd h9.1 (by assumption) | exact fun h9 => absurd h9.2 (by assumption))])); all_goals (first | rfl)⟩
        ·
          have c62 : j > 35 := q_le_f rfl (rfl : (35 : Int32) = nI 35) (by omega) (by omega) c62
          refine x_aload_n C dX8_taken_32 0 rfl ?_
          refine x_iload_n C dX8_taken_33 1 rfl ?_
          refine x_bipush C dX8_taken_34 (v := 36) rfl ?_
          refine x_isub C dX8_taken_36 ?_
          refine x_callV C (As := [.int ((nI j) - 36)]) (st := []) (wc := [(m, .inr (7, [.ref a_sky, .ref a_kind, .ref a_more, .ref a_strewn, .int (nI tn), .ref a_treeCell, .ref a_treeSort, .ref a_treeLeaves, .int i_raking, .long l_heaps, .int (nI tz), .ref a_tape, .int (nI wr), .int (nI lw), .ref a_code, .ref a_begins, .int i_made, .int i_at, .int i_from, .int i_sort, .int i_value, .int i_open, .ref a_stack, .ref a_dry, .ref a_wet, .ref a_covered, .ref a_hangs, .ref a_off, .int i_fell, .int i_fellToday, .int i_rotten, .int i_raked, .int i_cost, .ref a_dryGo, .ref a_wetGo, .ref a_keptSky, .int i_imaged, .int (nI itn), .int i_oldRaking, .long l_oldHeaps, .int (nI ilw), .ref a_oldSky, .ref a_oldCells, .ref a_sheetSort, .ref a_sheetSize, .ref a_items, .ref a_spare]))]) (wr := [(a_kind, .inl (cI, 36, .inl kf)), (a_treeLeaves, .inl (cI, 4, .inl ttf))]) (c_X8_isTree l dG cI cM cW cS m a_sky a_kind a_more a_strewn a_treeCell a_treeSort a_treeLeaves a_tape a_code a_begins a_stack a_dry a_wet a_covered a_hangs a_off a_dryGo a_wetGo a_keptSky a_oldSky a_oldCells a_sheetSort a_sheetSize a_items a_spare tn tz wr lw itn ilw i_raking i_made i_at i_from i_sort i_value i_open i_fell i_fellToday i_rotten i_raked i_cost i_imaged i_oldRaking l_heaps l_oldHeaps ((nI j) - 36) ) rZ0_ok (fun _ _ _ _ => trivial) kV_X8_230 ⟨rfl, hy_X8_isTree⟩ ⟨Nat.le_of_ble_eq_true rfl, Nat.le_of_ble_eq_true rfl⟩ ⟨Nat.le_of_ble_eq_true rfl, Nat.le_of_ble_eq_true rfl⟩ dX8_taken_37 0 rfl rfl [0] [1, 2] rfl rfl rfl rfl (by decide) rfl (Nat.le_of_ble_eq_true rfl) ?_
          intro v64 w65 h66
          rcases h66 with h66 | h66
          ·
            obtain ⟨rfl, rfl, hf67⟩ := h66
            show X 0 0 [(a_kind, .inl (cI, 36, .inl kf)), (a_treeLeaves, .inl (cI, 4, .inl ttf)), (m, .inr (7, [.ref a_sky, .ref a_kind, .ref a_more, .ref a_strewn, .int (nI tn), .ref a_treeCell, .ref a_treeSort, .ref a_treeLeaves, .int i_raking, .long l_heaps, .int (nI tz), .ref a_tape, .int (nI wr), .int (nI lw), .ref a_code, .ref a_begins, .int i_made, .int i_at, .int i_from, .int i_sort, .int i_value, .int i_open, .ref a_stack, .ref a_dry, .ref a_wet, .ref a_covered, .ref a_hangs, .ref a_off, .int i_fell, .int i_fellToday, .int i_rotten, .int i_raked, .int i_cost, .ref a_dryGo, .ref a_wetGo, .ref a_keptSky, .int i_imaged, .int (nI itn), .int i_oldRaking, .long l_oldHeaps, .int (nI ilw), .ref a_oldSky, .ref a_oldCells, .ref a_sheetSort, .ref a_sheetSize, .ref a_items, .ref a_spare]))] [(0, .ref m), (1, .int (nI j)), (2, .int 4)] 40 [.int 1]
            refine x_if_ne C dX8_taken_40 (tgt := 46) rfl (fun _ => ?_) (fun q9 => by first | exact absurd q9 (by decide) | exact absurd (by decide) q9)
            refine x_iload_n C dX8_taken_46 2 rfl ?_
            refine x_bipush C dX8_taken_47 (v := 6) rfl ?_
            refine x_icmp_ne C dX8_taken_49 (tgt := 64) rfl (fun _ => ?_) (fun q9 => by first | exact absurd q9 (by decide) | exact absurd (by decide) q9)
            refine x_bipush C dX8_taken_64 (v := (-13)) rfl ?_
            refine x_sub C [2, 0, 1] (ws' := [(m, .inr (7, [.ref a_sky, .ref a_kind, .ref a_more, .ref a_strewn, .int (nI tn), .ref a_treeCell, .ref a_treeSort, .ref a_treeLeaves, .int i_raking, .long l_heaps, .int (nI tz), .ref a_tape, .int (nI wr), .int (nI lw), .ref a_code, .ref a_begins, .int i_made, .int i_at, .int i_from, .int i_sort, .int i_value, .int i_open, .ref a_stack, .ref a_dry, .ref a_wet, .ref a_covered, .ref a_hangs, .ref a_off, .int i_fell, .int i_fellToday, .int i_rotten, .int i_raked, .int i_cost, .ref a_dryGo, .ref a_wetGo, .ref a_keptSky, .int i_imaged, .int (nI itn), .int i_oldRaking, .long l_oldHeaps, .int (nI ilw), .ref a_oldSky, .ref a_oldCells, .ref a_sheetSort, .ref a_sheetSize, .ref a_items, .ref a_spare])), (a_kind, .inl (cI, 36, .inl kf)), (a_treeLeaves, .inl (cI, 4, .inl ttf))]) rfl rfl ?_
            refine E dX8_taken_66 (rfl) ?_
            exact ⟨(-13), rfl, rfl, by (unfold o_taken); (try simp only [hnj]); (repeat (first | rw [if_pos (by first | exact hk9 | (rw [hk9]; decide) | (rw [if_pos (by decide)]; assumption) | (rw [if_neg (by decide), if_pos (by decide)]; assumption) | (rw [if_neg (by decide), if_neg (by decide)]; assumption) | assumption | decide | omega | exact o_one_t (by assumption) | (rw [o_one_f (by assumption)]; decide) | exact ⟨by assumption, by assumption⟩ | exact fun h9 => absurd h9.1 (by assumption) | exact fun h9 => absurd h9.2 (by assumption))] | rw [if_neg (by first | exact hk9 | (rw [hk9]; decide) | (rw [if_pos (by decide)]; assumption) | (rw [if_neg (by decide), if_pos (by decide)]; assumption) | (rw [if_neg (by decide), if_neg (by decide)]; assumption) | assumption | decide | omega | exact o_one_t (by assumption) | (rw [o_one_f (by assumption)]; decide) | exact ⟨by assumption, by assumption⟩ | exact fun h9 => absurd h9.1 (by assumption) | exact fun h9 => absurd h9.2 (by assumption))])); all_goals (first | rfl)⟩
          ·
            obtain ⟨rfl, rfl, hf68⟩ := h66
            show X 0 0 [(a_kind, .inl (cI, 36, .inl kf)), (a_treeLeaves, .inl (cI, 4, .inl ttf)), (m, .inr (7, [.ref a_sky, .ref a_kind, .ref a_more, .ref a_strewn, .int (nI tn), .ref a_treeCell, .ref a_treeSort, .ref a_treeLeaves, .int i_raking, .long l_heaps, .int (nI tz), .ref a_tape, .int (nI wr), .int (nI lw), .ref a_code, .ref a_begins, .int i_made, .int i_at, .int i_from, .int i_sort, .int i_value, .int i_open, .ref a_stack, .ref a_dry, .ref a_wet, .ref a_covered, .ref a_hangs, .ref a_off, .int i_fell, .int i_fellToday, .int i_rotten, .int i_raked, .int i_cost, .ref a_dryGo, .ref a_wetGo, .ref a_keptSky, .int i_imaged, .int (nI itn), .int i_oldRaking, .long l_oldHeaps, .int (nI ilw), .ref a_oldSky, .ref a_oldCells, .ref a_sheetSort, .ref a_sheetSize, .ref a_items, .ref a_spare]))] [(0, .ref m), (1, .int (nI j)), (2, .int 4)] 40 [.int 0]
            refine x_if_ne C dX8_taken_40 (tgt := 46) rfl (fun q9 => absurd q9 (by decide)) (fun _ => ?_)
            refine x_bipush C dX8_taken_43 (v := (-11)) rfl ?_
            refine x_sub C [2, 0, 1] (ws' := [(m, .inr (7, [.ref a_sky, .ref a_kind, .ref a_more, .ref a_strewn, .int (nI tn), .ref a_treeCell, .ref a_treeSort, .ref a_treeLeaves, .int i_raking, .long l_heaps, .int (nI tz), .ref a_tape, .int (nI wr), .int (nI lw), .ref a_code, .ref a_begins, .int i_made, .int i_at, .int i_from, .int i_sort, .int i_value, .int i_open, .ref a_stack, .ref a_dry, .ref a_wet, .ref a_covered, .ref a_hangs, .ref a_off, .int i_fell, .int i_fellToday, .int i_rotten, .int i_raked, .int i_cost, .ref a_dryGo, .ref a_wetGo, .ref a_keptSky, .int i_imaged, .int (nI itn), .int i_oldRaking, .long l_oldHeaps, .int (nI ilw), .ref a_oldSky, .ref a_oldCells, .ref a_sheetSort, .ref a_sheetSize, .ref a_items, .ref a_spare])), (a_kind, .inl (cI, 36, .inl kf)), (a_treeLeaves, .inl (cI, 4, .inl ttf))]) rfl rfl ?_
            refine E dX8_taken_45 (rfl) ?_
            exact ⟨(-11), rfl, rfl, by (unfold o_taken); (try simp only [hnj]); (repeat (first | rw [if_pos (by first | exact hk9 | (rw [hk9]; decide) | (rw [if_pos (by decide)]; assumption) | (rw [if_neg (by decide), if_pos (by decide)]; assumption) | (rw [if_neg (by decide), if_neg (by decide)]; assumption) | assumption | decide | omega | exact o_one_t (by assumption) | (rw [o_one_f (by assumption)]; decide) | exact ⟨by assumption, by assumption⟩ | exact fun h9 => absurd h9.1 (by assumption) | exact fun h9 => absurd h9.2 (by assumption))] | rw [if_neg (by first | exact hk9 | (rw [hk9]; decide) | (rw [if_pos (by decide)]; assumption) | (rw [if_neg (by decide), if_pos (by decide)]; assumption) | (rw [if_neg (by decide), if_neg (by decide)]; assumption) | assumption | decide | omega | exact o_one_t (by assumption) | (rw [o_one_f (by assumption)]; decide) | exact ⟨by assumption, by assumption⟩ | exact fun h9 => absurd h9.1 (by assumption) | exact fun h9 => absurd h9.2 (by assumption))])); all_goals (first | rfl)⟩
      ·
        obtain ⟨rfl, rfl, hf69⟩ := h59
        show X 0 0 [(m, .inr (7, [.ref a_sky, .ref a_kind, .ref a_more, .ref a_strewn, .int (nI tn), .ref a_treeCell, .ref a_treeSort, .ref a_treeLeaves, .int i_raking, .long l_heaps, .int (nI tz), .ref a_tape, .int (nI wr), .int (nI lw), .ref a_code, .ref a_begins, .int i_made, .int i_at, .int i_from, .int i_sort, .int i_value, .int i_open, .ref a_stack, .ref a_dry, .ref a_wet, .ref a_covered, .ref a_hangs, .ref a_off, .int i_fell, .int i_fellToday, .int i_rotten, .int i_raked, .int i_cost, .ref a_dryGo, .ref a_wetGo, .ref a_keptSky, .int i_imaged, .int (nI itn), .int i_oldRaking, .long l_oldHeaps, .int (nI ilw), .ref a_oldSky, .ref a_oldCells, .ref a_sheetSort, .ref a_sheetSize, .ref a_items, .ref a_spare])), (a_kind, .inl (cI, 36, .inl kf)), (a_treeLeaves, .inl (cI, 4, .inl ttf))] [(0, .ref m), (1, .int i), (2, .int 4)] 20 [.int 0]
        refine x_if_ne C dX8_taken_20 (tgt := 26) rfl (fun q9 => absurd q9 (by decide)) (fun _ => ?_)
        refine x_bipush C dX8_taken_23 (v := (-12)) rfl ?_
        refine E dX8_taken_25 (rfl) ?_
        exact ⟨(-12), rfl, rfl, by (unfold o_taken); (repeat (first | rw [if_pos (by first | exact hk9 | (rw [hk9]; decide) | (rw [if_pos (by decide)]; assumption) | (rw [if_neg (by decide), if_pos (by decide)]; assumption) | (rw [if_neg (by decide), if_neg (by decide)]; assumption) | assumption | decide | omega | exact o_one_t (by assumption) | (rw [o_one_f (by assumption)]; decide) | exact ⟨by assumption, by assumption⟩ | exact fun h9 => absurd h9.1 (by assumption) | exact fun h9 => absurd h9.2 (by assumption))] | rw [if_neg (by first | exact hk9 | (rw [hk9]; decide) | (rw [if_pos (by decide)]; assumption) | (rw [if_neg (by decide), if_pos (by decide)]; assumption) | (rw [if_neg (by decide), if_neg (by decide)]; assumption) | assumption | decide | omega | exact o_one_t (by assumption) | (rw [o_one_f (by assumption)]; decide) | exact ⟨by assumption, by assumption⟩ | exact fun h9 => absurd h9.1 (by assumption) | exact fun h9 => absurd h9.2 (by assumption))])); all_goals (first | rfl)⟩
    ·
      refine x_if_ne C dX8_taken_7 (tgt := 13) rfl (fun _ => ?_) (fun q9 => by first | exact absurd q9 (by decide) | exact absurd (by decide) q9)
      refine x_iload_n C dX8_taken_13 1 rfl ?_
      refine x_iconst C dX8_taken_14 (v := 0) rfl ?_
      refine x_bipush C dX8_taken_15 (v := 39) rfl ?_
      refine x_callS C (As := [.int i, .int 0, .int 39]) (st := []) (wc := []) (wr := [(m, .inr (7, [.ref a_sky, .ref a_kind, .ref a_more, .ref a_strewn, .int (nI tn), .ref a_treeCell, .ref a_treeSort, .ref a_treeLeaves, .int i_raking, .long l_heaps, .int (nI tz), .ref a_tape, .int (nI wr), .int (nI lw), .ref a_code, .ref a_begins, .int i_made, .int i_at, .int i_from, .int i_sort, .int i_value, .int i_open, .ref a_stack, .ref a_dry, .ref a_wet, .ref a_covered, .ref a_hangs, .ref a_off, .int i_fell, .int i_fellToday, .int i_rotten, .int i_raked, .int i_cost, .ref a_dryGo, .ref a_wetGo, .ref a_keptSky, .int i_imaged, .int (nI itn), .int i_oldRaking, .long l_oldHeaps, .int (nI ilw), .ref a_oldSky, .ref a_oldCells, .ref a_sheetSort, .ref a_sheetSize, .ref a_items, .ref a_spare])), (a_kind, .inl (cI, 36, .inl kf)), (a_treeLeaves, .inl (cI, 4, .inl ttf))]) (c_X8_within l dG cI cM cW cS i 0 39 ) rZ0_ok (fun _ _ _ _ => trivial) kS_X8_108 hy_X8_within ⟨Nat.le_of_ble_eq_true rfl, Nat.le_of_ble_eq_true rfl⟩ ⟨Nat.le_of_ble_eq_true rfl, Nat.le_of_ble_eq_true rfl⟩ dX8_taken_17 [] [0, 1, 2] rfl rfl rfl rfl (by decide) rfl (Nat.le_of_ble_eq_true rfl) ?_
      intro v70 w71 h72
      rcases h72 with h72 | h72
      ·
        obtain ⟨rfl, rfl, hf73⟩ := h72
        show X 0 0 [(m, .inr (7, [.ref a_sky, .ref a_kind, .ref a_more, .ref a_strewn, .int (nI tn), .ref a_treeCell, .ref a_treeSort, .ref a_treeLeaves, .int i_raking, .long l_heaps, .int (nI tz), .ref a_tape, .int (nI wr), .int (nI lw), .ref a_code, .ref a_begins, .int i_made, .int i_at, .int i_from, .int i_sort, .int i_value, .int i_open, .ref a_stack, .ref a_dry, .ref a_wet, .ref a_covered, .ref a_hangs, .ref a_off, .int i_fell, .int i_fellToday, .int i_rotten, .int i_raked, .int i_cost, .ref a_dryGo, .ref a_wetGo, .ref a_keptSky, .int i_imaged, .int (nI itn), .int i_oldRaking, .long l_oldHeaps, .int (nI ilw), .ref a_oldSky, .ref a_oldCells, .ref a_sheetSort, .ref a_sheetSize, .ref a_items, .ref a_spare])), (a_kind, .inl (cI, 36, .inl kf)), (a_treeLeaves, .inl (cI, 4, .inl ttf))] [(0, .ref m), (1, .int i), (2, .int 5)] 20 [.int 1]
        have hr74 := hf73
        obtain ⟨j, hj, rfl⟩ := q_w (n := 39) rfl (by decide) hf73
        have hnj : o_n (nI j) = j := o_n_nI (by omega)
        refine x_if_ne C dX8_taken_20 (tgt := 26) rfl (fun _ => ?_) (fun q9 => by first | exact absurd q9 (by decide) | exact absurd (by decide) q9)
        refine x_iload_n C dX8_taken_26 1 rfl ?_
        refine x_bipush C dX8_taken_27 (v := 35) rfl ?_
        refine x_icmp_le C dX8_taken_29 (tgt := 67) rfl (fun c75 => ?_) (fun c75 => ?_)
        ·
          have c75 : j ≤ 35 := q_le_t rfl (rfl : (35 : Int32) = nI 35) (by omega) (by omega) c75
          refine x_aload_n C dX8_taken_67 0 rfl ?_
          refine x_get C inlX8 rfl 1 (by decide) gw_10_19 dX8_taken_68 0 rfl rfl ?_
          refine x_iload_n C dX8_taken_71 1 rfl ?_
          refine x_iaload C 0 rfl dX8_taken_72 j (q_cl rfl (by omega)) (q_ix rfl (by omega) (by omega)) 1 rfl ?_
          have hq76 := q_in6 (hkf j (by omega))
          rcases hq76 with hq76 | hq76 | hq76 | hq76 | hq76 | hq76
          ·
            refine x_topi C 0 hq76 ?_
            have hk9 : o_one (kf j) 5 = false := by rw [hq76]; decide
            refine x_istore_n C dX8_taken_73 (by decide) (lv' := [(3, .int 0), (0, .ref m), (1, .int (nI j)), (2, .int 5)]) rfl ?_
            refine x_iload_n C dX8_taken_74 0 rfl ?_
            refine x_iload_n C dX8_taken_75 3 rfl ?_
            refine x_icmp_eq C dX8_taken_76 (tgt := 106) rfl (fun q9 => absurd q9 (by decide)) (fun _ => ?_)
            refine x_iload_n C dX8_taken_79 0 rfl ?_
            refine x_if_le C dX8_taken_80 (tgt := 106) rfl (fun _ => ?_) (fun q9 => by first | exact absurd q9 (by decide) | exact absurd (by decide) q9)
            refine x_iload_n C dX8_taken_106 0 rfl ?_
            refine x_iload_n C dX8_taken_107 3 rfl ?_
            refine x_icmp_ne C dX8_taken_108 (tgt := 115) rfl (fun _ => ?_) (fun q9 => by first | exact absurd q9 (by decide) | exact absurd (by decide) q9)
            refine x_bipush C dX8_taken_115 (v := (-13)) rfl ?_
            show X _ _ _ _ 117 _
            refine E dX8_taken_117 (rfl) ?_
            exact ⟨(-13), rfl, rfl, by (unfold o_taken); (try simp only [hnj]); (repeat (first | rw [if_pos (by first | exact hk9 | (rw [hk9]; decide) | (rw [if_pos (by decide)]; assumption) | (rw [if_neg (by decide), if_pos (by decide)]; assumption) | (rw [if_neg (by decide), if_neg (by decide)]; assumption) | assumption | decide | omega | exact o_one_t (by assumption) | (rw [o_one_f (by assumption)]; decide) | exact ⟨by assumption, by assumption⟩ | exact fun h9 => absurd h9.1 (by assumption) | exact fun h9 => absurd h9.2 (by assumption))] | rw [if_neg (by first | exact hk9 | (rw [hk9]; decide) | (rw [if_pos (by decide)]; assumption) | (rw [if_neg (by decide), if_pos (by decide)]; assumption) | (rw [if_neg (by decide), if_neg (by decide)]; assumption) | assumption | decide | omega | exact o_one_t (by assumption) | (rw [o_one_f (by assumption)]; decide) | exact ⟨by assumption, by assumption⟩ | exact fun h9 => absurd h9.1 (by assumption) | exact fun h9 => absurd h9.2 (by assumption))])); all_goals (first | rfl)⟩
          ·
            refine x_topi C 1 hq76 ?_
            have hk9 : o_one (kf j) 5 = false := by rw [hq76]; decide
            refine x_istore_n C dX8_taken_73 (by decide) (lv' := [(3, .int 1), (0, .ref m), (1, .int (nI j)), (2, .int 5)]) rfl ?_
            refine x_iload_n C dX8_taken_74 0 rfl ?_
            refine x_iload_n C dX8_taken_75 3 rfl ?_
            refine x_icmp_eq C dX8_taken_76 (tgt := 106) rfl (fun q9 => absurd q9 (by decide)) (fun _ => ?_)
            refine x_iload_n C dX8_taken_79 0 rfl ?_
            refine x_if_le C dX8_taken_80 (tgt := 106) rfl (fun q9 => absurd q9 (by decide)) (fun _ => ?_)
            refine x_iload_n C dX8_taken_83 0 rfl ?_
            refine x_iconst C dX8_taken_84 (v := 3) rfl ?_
            refine x_icmp_ne C dX8_taken_85 (tgt := 92) rfl (fun _ => ?_) (fun q9 => by first | exact absurd q9 (by decide) | exact absurd (by decide) q9)
            refine x_iload_n C dX8_taken_92 0 rfl ?_
            show X _ _ _ _ 93 _
            refine x_iconst C dX8_taken_93 (v := 5) rfl ?_
            refine x_icmp_ne C dX8_taken_94 (tgt := 101) rfl (fun _ => ?_) (fun q9 => by first | exact absurd q9 (by decide) | exact absurd (by decide) q9)
            refine x_iconst C dX8_taken_101 (v := 0) rfl ?_
            refine x_istore_n C dX8_taken_102 (by decide) (lv' := [(3, .int 0), (0, .ref m), (1, .int (nI j)), (2, .int 5)]) rfl ?_
            refine x_goto C dX8_taken_103 (tgt := 74) rfl ?_
            refine x_iload_n C dX8_taken_74 0 rfl ?_
            refine x_iload_n C dX8_taken_75 3 rfl ?_
            refine x_icmp_eq C dX8_taken_76 (tgt := 106) rfl (fun q9 => absurd q9 (by decide)) (fun _ => ?_)
            refine x_iload_n C dX8_taken_79 0 rfl ?_
            refine x_if_le C dX8_taken_80 (tgt := 106) rfl (fun _ => ?_) (fun q9 => by first | exact absurd q9 (by decide) | exact absurd (by decide) q9)
            show X _ _ _ _ 106 _
            refine x_iload_n C dX8_taken_106 0 rfl ?_
            refine x_iload_n C dX8_taken_107 3 rfl ?_
            refine x_icmp_ne C dX8_taken_108 (tgt := 115) rfl (fun _ => ?_) (fun q9 => by first | exact absurd q9 (by decide) | exact absurd (by decide) q9)
            refine x_bipush C dX8_taken_115 (v := (-13)) rfl ?_
            refine E dX8_taken_117 (rfl) ?_
            exact ⟨(-13), rfl, rfl, by (unfold o_taken); (try simp only [hnj]); (repeat (first | rw [if_pos (by first | exact hk9 | (rw [hk9]; decide) | (rw [if_pos (by decide)]; assumption) | (rw [if_neg (by decide), if_pos (by decide)]; assumption) | (rw [if_neg (by decide), if_neg (by decide)]; assumption) | assumption | decide | omega | exact o_one_t (by assumption) | (rw [o_one_f (by assumption)]; decide) | exact ⟨by assumption, by assumption⟩ | exact fun h9 => absurd h9.1 (by assumption) | exact fun h9 => absurd h9.2 (by assumption))] | rw [if_neg (by first | exact hk9 | (rw [hk9]; decide) | (rw [if_pos (by decide)]; assumption) | (rw [if_neg (by decide), if_pos (by decide)]; assumption) | (rw [if_neg (by decide), if_neg (by decide)]; assumption) | assumption | decide | omega | exact o_one_t (by assumption) | (rw [o_one_f (by assumption)]; decide) | exact ⟨by assumption, by assumption⟩ | exact fun h9 => absurd h9.1 (by assumption) | exact fun h9 => absurd h9.2 (by assumption))])); all_goals (first | rfl)⟩
          ·
            refine x_topi C 2 hq76 ?_
            have hk9 : o_one (kf j) 5 = false := by rw [hq76]; decide
            refine x_istore_n C dX8_taken_73 (by decide) (lv' := [(3, .int 2), (0, .ref m), (1, .int (nI j)), (2, .int 5)]) rfl ?_
            refine x_iload_n C dX8_taken_74 0 rfl ?_
            refine x_iload_n C dX8_taken_75 3 rfl ?_
            refine x_icmp_eq C dX8_taken_76 (tgt := 106) rfl (fun q9 => absurd q9 (by decide)) (fun _ => ?_)
            refine x_iload_n C dX8_taken_79 0 rfl ?_
            refine x_if_le C dX8_taken_80 (tgt := 106) rfl (fun q9 => absurd q9 (by decide)) (fun _ => ?_)
            refine x_iload_n C dX8_taken_83 0 rfl ?_
            refine x_iconst C dX8_taken_84 (v := 3) rfl ?_
            refine x_icmp_ne C dX8_taken_85 (tgt := 92) rfl (fun _ => ?_) (fun q9 => by first | exact absurd q9 (by decide) | exact absurd (by decide) q9)
            refine x_iload_n C dX8_taken_92 0 rfl ?_
            show X _ _ _ _ 93 _
            refine x_iconst C dX8_taken_93 (v := 5) rfl ?_
            refine x_icmp_ne C dX8_taken_94 (tgt := 101) rfl (fun _ => ?_) (fun q9 => by first | exact absurd q9 (by decide) | exact absurd (by decide) q9)
            refine x_iconst C dX8_taken_101 (v := 0) rfl ?_
            refine x_istore_n C dX8_taken_102 (by decide) (lv' := [(3, .int 0), (0, .ref m), (1, .int (nI j)), (2, .int 5)]) rfl ?_
            refine x_goto C dX8_taken_103 (tgt := 74) rfl ?_
            refine x_iload_n C dX8_taken_74 0 rfl ?_
            refine x_iload_n C dX8_taken_75 3 rfl ?_
            refine x_icmp_eq C dX8_taken_76 (tgt := 106) rfl (fun q9 => absurd q9 (by decide)) (fun _ => ?_)
            refine x_iload_n C dX8_taken_79 0 rfl ?_
            refine x_if_le C dX8_taken_80 (tgt := 106) rfl (fun _ => ?_) (fun q9 => by first | exact absurd q9 (by decide) | exact absurd (by decide) q9)
            show X _ _ _ _ 106 _
            refine x_iload_n C dX8_taken_106 0 rfl ?_
            refine x_iload_n C dX8_taken_107 3 rfl ?_
            refine x_icmp_ne C dX8_taken_108 (tgt := 115) rfl (fun _ => ?_) (fun q9 => by first | exact absurd q9 (by decide) | exact absurd (by decide) q9)
            refine x_bipush C dX8_taken_115 (v := (-13)) rfl ?_
            refine E dX8_taken_117 (rfl) ?_
            exact ⟨(-13), rfl, rfl, by (unfold o_taken); (try simp only [hnj]); (repeat (first | rw [if_pos (by first | exact hk9 | (rw [hk9]; decide) | (rw [if_pos (by decide)]; assumption) | (rw [if_neg (by decide), if_pos (by decide)]; assumption) | (rw [if_neg (by decide), if_neg (by decide)]; assumption) | assumption | decide | omega | exact o_one_t (by assumption) | (rw [o_one_f (by assumption)]; decide) | exact ⟨by assumption, by assumption⟩ | exact fun h9 => absurd h9.1 (by assumption) | exact fun h9 => absurd h9.2 (by assumption))] | rw [if_neg (by first | exact hk9 | (rw [hk9]; decide) | (rw [if_pos (by decide)]; assumption) | (rw [if_neg (by decide), if_pos (by decide)]; assumption) | (rw [if_neg (by decide), if_neg (by decide)]; assumption) | assumption | decide | omega | exact o_one_t (by assumption) | (rw [o_one_f (by assumption)]; decide) | exact ⟨by assumption, by assumption⟩ | exact fun h9 => absurd h9.1 (by assumption) | exact fun h9 => absurd h9.2 (by assumption))])); all_goals (first | rfl)⟩
          ·
            refine x_topi C 3 hq76 ?_
            have hk9 : o_one (kf j) 5 = false := by rw [hq76]; decide
            refine x_istore_n C dX8_taken_73 (by decide) (lv' := [(3, .int 3), (0, .ref m), (1, .int (nI j)), (2, .int 5)]) rfl ?_
            refine x_iload_n C dX8_taken_74 0 rfl ?_
            refine x_iload_n C dX8_taken_75 3 rfl ?_
            refine x_icmp_eq C dX8_taken_76 (tgt := 106) rfl (fun q9 => absurd q9 (by decide)) (fun _ => ?_)
            refine x_iload_n C dX8_taken_79 0 rfl ?_
            refine x_if_le C dX8_taken_80 (tgt := 106) rfl (fun q9 => absurd q9 (by decide)) (fun _ => ?_)
            refine x_iload_n C dX8_taken_83 0 rfl ?_
            refine x_iconst C dX8_taken_84 (v := 3) rfl ?_
            refine x_icmp_ne C dX8_taken_85 (tgt := 92) rfl (fun q9 => absurd q9 (by decide)) (fun _ => ?_)
            refine x_iconst C dX8_taken_88 (v := 1) rfl ?_
            show X _ _ _ _ 89 _
            refine x_goto C dX8_taken_89 (tgt := 102) rfl ?_
            refine x_istore_n C dX8_taken_102 (by decide) (lv' := [(3, .int 1), (0, .ref m), (1, .int (nI j)), (2, .int 5)]) rfl ?_
            refine x_goto C dX8_taken_103 (tgt := 74) rfl ?_
            refine x_iload_n C dX8_taken_74 0 rfl ?_
            refine x_iload_n C dX8_taken_75 3 rfl ?_
            refine x_icmp_eq C dX8_taken_76 (tgt := 106) rfl (fun q9 => absurd q9 (by decide)) (fun _ => ?_)
            refine x_iload_n C dX8_taken_79 0 rfl ?_
            refine x_if_le C dX8_taken_80 (tgt := 106) rfl (fun q9 => absurd q9 (by decide)) (fun _ => ?_)
            refine x_iload_n C dX8_taken_83 0 rfl ?_
            refine x_iconst C dX8_taken_84 (v := 3) rfl ?_
            show X _ _ _ _ 85 _
            refine x_icmp_ne C dX8_taken_85 (tgt := 92) rfl (fun _ => ?_) (fun q9 => by first | exact absurd q9 (by decide) | exact absurd (by decide) q9)
            refine x_iload_n C dX8_taken_92 0 rfl ?_
            refine x_iconst C dX8_taken_93 (v := 5) rfl ?_
            refine x_icmp_ne C dX8_taken_94 (tgt := 101) rfl (fun _ => ?_) (fun q9 => by first | exact absurd q9 (by decide) | exact absurd (by decide) q9)
            refine x_iconst C dX8_taken_101 (v := 0) rfl ?_
            refine x_istore_n C dX8_taken_102 (by decide) (lv' := [(3, .int 0), (0, .ref m), (1, .int (nI j)), (2, .int 5)]) rfl ?_
            refine x_goto C dX8_taken_103 (tgt := 74) rfl ?_
            refine x_iload_n C dX8_taken_74 0 rfl ?_
            refine x_iload_n C dX8_taken_75 3 rfl ?_
            refine x_icmp_eq C dX8_taken_76 (tgt := 106) rfl (fun q9 => absurd q9 (by decide)) (fun _ => ?_)
            show X _ _ _ _ 79 _
            refine x_iload_n C dX8_taken_79 0 rfl ?_
            refine x_if_le C dX8_taken_80 (tgt := 106) rfl (fun _ => ?_) (fun q9 => by first | exact absurd q9 (by decide) | exact absurd (by decide) q9)
            refine x_iload_n C dX8_taken_106 0 rfl ?_
            refine x_iload_n C dX8_taken_107 3 rfl ?_
            refine x_icmp_ne C dX8_taken_108 (tgt := 115) rfl (fun _ => ?_) (fun q9 => by first | exact absurd q9 (by decide) | exact absurd (by decide) q9)
            refine x_bipush C dX8_taken_115 (v := (-13)) rfl ?_
            refine E dX8_taken_117 (rfl) ?_
            exact ⟨(-13), rfl, rfl, by (unfold o_taken); (try simp only [hnj]); (repeat (first | rw [if_pos (by first | exact hk9 | (rw [hk9]; decide) | (rw [if_pos (by decide)]; assumption) | (rw [if_neg (by decide), if_pos (by decide)]; assumption) | (rw [if_neg (by decide), if_neg (by decide)]; assumption) | assumption | decide | omega | exact o_one_t (by assumption) | (rw [o_one_f (by assumption)]; decide) | exact ⟨by assumption, by assumption⟩ | exact fun h9 => absurd h9.1 (by assumption) | exact fun h9 => absurd h9.2 (by assumption))] | rw [if_neg (by first | exact hk9 | (rw [hk9]; decide) | (rw [if_pos (by decide)]; assumption) | (rw [if_neg (by decide), if_pos (by decide)]; assumption) | (rw [if_neg (by decide), if_neg (by decide)]; assumption) | assumption | decide | omega | exact o_one_t (by assumption) | (rw [o_one_f (by assumption)]; decide) | exact ⟨by assumption, by assumption⟩ | exact fun h9 => absurd h9.1 (by assumption) | exact fun h9 => absurd h9.2 (by assumption))])); all_goals (first | rfl)⟩
          ·
            refine x_topi C 4 hq76 ?_
            have hk9 : o_one (kf j) 5 = false := by rw [hq76]; decide
            refine x_istore_n C dX8_taken_73 (by decide) (lv' := [(3, .int 4), (0, .ref m), (1, .int (nI j)), (2, .int 5)]) rfl ?_
            refine x_iload_n C dX8_taken_74 0 rfl ?_
            refine x_iload_n C dX8_taken_75 3 rfl ?_
            refine x_icmp_eq C dX8_taken_76 (tgt := 106) rfl (fun q9 => absurd q9 (by decide)) (fun _ => ?_)
            refine x_iload_n C dX8_taken_79 0 rfl ?_
            refine x_if_le C dX8_taken_80 (tgt := 106) rfl (fun q9 => absurd q9 (by decide)) (fun _ => ?_)
            refine x_iload_n C dX8_taken_83 0 rfl ?_
            refine x_iconst C dX8_taken_84 (v := 3) rfl ?_
            refine x_icmp_ne C dX8_taken_85 (tgt := 92) rfl (fun _ => ?_) (fun q9 => by first | exact absurd q9 (by decide) | exact absurd (by decide) q9)
            refine x_iload_n C dX8_taken_92 0 rfl ?_
            show X _ _ _ _ 93 _
            refine x_iconst C dX8_taken_93 (v := 5) rfl ?_
            refine x_icmp_ne C dX8_taken_94 (tgt := 101) rfl (fun _ => ?_) (fun q9 => by first | exact absurd q9 (by decide) | exact absurd (by decide) q9)
            refine x_iconst C dX8_taken_101 (v := 0) rfl ?_
            refine x_istore_n C dX8_taken_102 (by decide) (lv' := [(3, .int 0), (0, .ref m), (1, .int (nI j)), (2, .int 5)]) rfl ?_
            refine x_goto C dX8_taken_103 (tgt := 74) rfl ?_
            refine x_iload_n C dX8_taken_74 0 rfl ?_
            refine x_iload_n C dX8_taken_75 3 rfl ?_
            refine x_icmp_eq C dX8_taken_76 (tgt := 106) rfl (fun q9 => absurd q9 (by decide)) (fun _ => ?_)
            refine x_iload_n C dX8_taken_79 0 rfl ?_
            refine x_if_le C dX8_taken_80 (tgt := 106) rfl (fun _ => ?_) (fun q9 => by first | exact absurd q9 (by decide) | exact absurd (by decide) q9)
            show X _ _ _ _ 106 _
            refine x_iload_n C dX8_taken_106 0 rfl ?_
            refine x_iload_n C dX8_taken_107 3 rfl ?_
            refine x_icmp_ne C dX8_taken_108 (tgt := 115) rfl (fun _ => ?_) (fun q9 => by first | exact absurd q9 (by decide) | exact absurd (by decide) q9)
            refine x_bipush C dX8_taken_115 (v := (-13)) rfl ?_
            refine E dX8_taken_117 (rfl) ?_
            exact ⟨(-13), rfl, rfl, by (unfold o_taken); (try simp only [hnj]); (repeat (first | rw [if_pos (by first | exact hk9 | (rw [hk9]; decide) | (rw [if_pos (by decide)]; assumption) | (rw [if_neg (by decide), if_pos (by decide)]; assumption) | (rw [if_neg (by decide), if_neg (by decide)]; assumption) | assumption | decide | omega | exact o_one_t (by assumption) | (rw [o_one_f (by assumption)]; decide) | exact ⟨by assumption, by assumption⟩ | exact fun h9 => absurd h9.1 (by assumption) | exact fun h9 => absurd h9.2 (by assumption))] | rw [if_neg (by first | exact hk9 | (rw [hk9]; decide) | (rw [if_pos (by decide)]; assumption) | (rw [if_neg (by decide), if_pos (by decide)]; assumption) | (rw [if_neg (by decide), if_neg (by decide)]; assumption) | assumption | decide | omega | exact o_one_t (by assumption) | (rw [o_one_f (by assumption)]; decide) | exact ⟨by assumption, by assumption⟩ | exact fun h9 => absurd h9.1 (by assumption) | exact fun h9 => absurd h9.2 (by assumption))])); all_goals (first | rfl)⟩
          ·
            refine x_topi C 5 hq76 ?_
            have hk9 : o_one (kf j) 5 = true := by rw [hq76]; decide
            refine x_istore_n C dX8_taken_73 (by decide) (lv' := [(3, .int 5), (0, .ref m), (1, .int (nI j)), (2, .int 5)]) rfl ?_
            refine x_iload_n C dX8_taken_74 0 rfl ?_
            refine x_iload_n C dX8_taken_75 3 rfl ?_
            refine x_icmp_eq C dX8_taken_76 (tgt := 106) rfl (fun _ => ?_) (fun q9 => by first | exact absurd q9 (by decide) | exact absurd (by decide) q9)
            refine x_iload_n C dX8_taken_106 0 rfl ?_
            refine x_iload_n C dX8_taken_107 3 rfl ?_
            refine x_icmp_ne C dX8_taken_108 (tgt := 115) rfl (fun q9 => absurd q9 (by decide)) (fun _ => ?_)
            refine x_iload_n C dX8_taken_111 2 rfl ?_
            refine x_goto C dX8_taken_112 (tgt := 117) rfl ?_
            refine E dX8_taken_117 (rfl) ?_
            exact ⟨(nI j), rfl, rfl, by (unfold o_taken); (try simp only [hnj]); (repeat (first | rw [if_pos (by first | exact hk9 | (rw [hk9]; decide) | (rw [if_pos (by decide)]; assumption) | (rw [if_neg (by decide), if_pos (by decide)]; assumption) | (rw [if_neg (by decide), if_neg (by decide)]; assumption) | assumption | decide | omega | exact o_one_t (by assumption) | (rw [o_one_f (by assumption)]; decide) | exact ⟨by assumption, by assumption⟩ | exact fun h9 => absurd h9.1 (by assumption) | exact fun h9 => absurd h9.2 (by assumption))] | rw [if_neg (by first | exact hk9 | (rw [hk9]; decide) | (rw [if_pos (by decide)]; assumption) | (rw [if_neg (by decide), if_pos (by decide)]; assumption) | (rw [if_neg (by decide), if_neg (by decide)]; assumption) | assumption | decide | omega | exact o_one_t (by assumption) | (rw [o_one_f (by assumption)]; decide) | exact ⟨by assumption, by assumption⟩ | exact fun h9 => absurd h9.1 (by assumption) | exact fun h9 => absurd h9.2 (by assumption))])); all_goals (first | rfl)⟩
        ·
          have c75 : j > 35 := q_le_f rfl (rfl : (35 : Int32) = nI 35) (by omega) (by omega) c75
          refine x_aload_n C dX8_taken_32 0 rfl ?_
          refine x_iload_n C dX8_taken_33 1 rfl ?_
          refine x_bipush C dX8_taken_34 (v := 36) rfl ?_
          refine x_isub C dX8_taken_36 ?_
          refine x_callV C (As := [.int ((nI j) - 36)]) (st := []) (wc := [(m, .inr (7, [.ref a_sky, .ref a_kind, .ref a_more, .ref a_strewn, .int (nI tn), .ref a_treeCell, .ref a_treeSort, .ref a_treeLeaves, .int i_raking, .long l_heaps, .int (nI tz), .ref a_tape, .int (nI wr), .int (nI lw), .ref a_code, .ref a_begins, .int i_made, .int i_at, .int i_from, .int i_sort, .int i_value, .int i_open, .ref a_stack, .ref a_dry, .ref a_wet, .ref a_covered, .ref a_hangs, .ref a_off, .int i_fell, .int i_fellToday, .int i_rotten, .int i_raked, .int i_cost, .ref a_dryGo, .ref a_wetGo, .ref a_keptSky, .int i_imaged, .int (nI itn), .int i_oldRaking, .long l_oldHeaps, .int (nI ilw), .ref a_oldSky, .ref a_oldCells, .ref a_sheetSort, .ref a_sheetSize, .ref a_items, .ref a_spare]))]) (wr := [(a_kind, .inl (cI, 36, .inl kf)), (a_treeLeaves, .inl (cI, 4, .inl ttf))]) (c_X8_isTree l dG cI cM cW cS m a_sky a_kind a_more a_strewn a_treeCell a_treeSort a_treeLeaves a_tape a_code a_begins a_stack a_dry a_wet a_covered a_hangs a_off a_dryGo a_wetGo a_keptSky a_oldSky a_oldCells a_sheetSort a_sheetSize a_items a_spare tn tz wr lw itn ilw i_raking i_made i_at i_from i_sort i_value i_open i_fell i_fellToday i_rotten i_raked i_cost i_imaged i_oldRaking l_heaps l_oldHeaps ((nI j) - 36) ) rZ0_ok (fun _ _ _ _ => trivial) kV_X8_230 ⟨rfl, hy_X8_isTree⟩ ⟨Nat.le_of_ble_eq_true rfl, Nat.le_of_ble_eq_true rfl⟩ ⟨Nat.le_of_ble_eq_true rfl, Nat.le_of_ble_eq_true rfl⟩ dX8_taken_37 0 rfl rfl [0] [1, 2] rfl rfl rfl rfl (by decide) rfl (Nat.le_of_ble_eq_true rfl) ?_
          intro v77 w78 h79
          rcases h79 with h79 | h79
          ·
            obtain ⟨rfl, rfl, hf80⟩ := h79
            show X 0 0 [(a_kind, .inl (cI, 36, .inl kf)), (a_treeLeaves, .inl (cI, 4, .inl ttf)), (m, .inr (7, [.ref a_sky, .ref a_kind, .ref a_more, .ref a_strewn, .int (nI tn), .ref a_treeCell, .ref a_treeSort, .ref a_treeLeaves, .int i_raking, .long l_heaps, .int (nI tz), .ref a_tape, .int (nI wr), .int (nI lw), .ref a_code, .ref a_begins, .int i_made, .int i_at, .int i_from, .int i_sort, .int i_value, .int i_open, .ref a_stack, .ref a_dry, .ref a_wet, .ref a_covered, .ref a_hangs, .ref a_off, .int i_fell, .int i_fellToday, .int i_rotten, .int i_raked, .int i_cost, .ref a_dryGo, .ref a_wetGo, .ref a_keptSky, .int i_imaged, .int (nI itn), .int i_oldRaking, .long l_oldHeaps, .int (nI ilw), .ref a_oldSky, .ref a_oldCells, .ref a_sheetSort, .ref a_sheetSize, .ref a_items, .ref a_spare]))] [(0, .ref m), (1, .int (nI j)), (2, .int 5)] 40 [.int 1]
            refine x_if_ne C dX8_taken_40 (tgt := 46) rfl (fun _ => ?_) (fun q9 => by first | exact absurd q9 (by decide) | exact absurd (by decide) q9)
            refine x_iload_n C dX8_taken_46 2 rfl ?_
            refine x_bipush C dX8_taken_47 (v := 6) rfl ?_
            refine x_icmp_ne C dX8_taken_49 (tgt := 64) rfl (fun _ => ?_) (fun q9 => by first | exact absurd q9 (by decide) | exact absurd (by decide) q9)
            refine x_bipush C dX8_taken_64 (v := (-13)) rfl ?_
            refine x_sub C [2, 0, 1] (ws' := [(m, .inr (7, [.ref a_sky, .ref a_kind, .ref a_more, .ref a_strewn, .int (nI tn), .ref a_treeCell, .ref a_treeSort, .ref a_treeLeaves, .int i_raking, .long l_heaps, .int (nI tz), .ref a_tape, .int (nI wr), .int (nI lw), .ref a_code, .ref a_begins, .int i_made, .int i_at, .int i_from, .int i_sort, .int i_value, .int i_open, .ref a_stack, .ref a_dry, .ref a_wet, .ref a_covered, .ref a_hangs, .ref a_off, .int i_fell, .int i_fellToday, .int i_rotten, .int i_raked, .int i_cost, .ref a_dryGo, .ref a_wetGo, .ref a_keptSky, .int i_imaged, .int (nI itn), .int i_oldRaking, .long l_oldHeaps, .int (nI ilw), .ref a_oldSky, .ref a_oldCells, .ref a_sheetSort, .ref a_sheetSize, .ref a_items, .ref a_spare])), (a_kind, .inl (cI, 36, .inl kf)), (a_treeLeaves, .inl (cI, 4, .inl ttf))]) rfl rfl ?_
            refine E dX8_taken_66 (rfl) ?_
            exact ⟨(-13), rfl, rfl, by (unfold o_taken); (try simp only [hnj]); (repeat (first | rw [if_pos (by first | exact hk9 | (rw [hk9]; decide) | (rw [if_pos (by decide)]; assumption) | (rw [if_neg (by decide), if_pos (by decide)]; assumption) | (rw [if_neg (by decide), if_neg (by decide)]; assumption) | assumption | decide | omega | exact o_one_t (by assumption) | (rw [o_one_f (by assumption)]; decide) | exact ⟨by assumption, by assumption⟩ | exact fun h9 => absurd h9.1 (by assumption) | exact fun h9 => absurd h9.2 (by assumption))] | rw [if_neg (by first | exact hk9 | (rw [hk9]; decide) | (rw [if_pos (by decide)]; assumption) | (rw [if_neg (by decide), if_pos (by decide)]; assumption) | (rw [if_neg (by decide), if_neg (by decide)]; assumption) | assumption | decide | omega | exact o_one_t (by assumption) | (rw [o_one_f (by assumption)]; decide) | exact ⟨by assumption, by assumption⟩ | exact fun h9 => absurd h9.1 (by assumption) | exact fun h9 => absurd h9.2 (by assumption))])); all_goals (first | rfl)⟩
          ·
            obtain ⟨rfl, rfl, hf81⟩ := h79
            show X 0 0 [(a_kind, .inl (cI, 36, .inl kf)), (a_treeLeaves, .inl (cI, 4, .inl ttf)), (m, .inr (7, [.ref a_sky, .ref a_kind, .ref a_more, .ref a_strewn, .int (nI tn), .ref a_treeCell, .ref a_treeSort, .ref a_treeLeaves, .int i_raking, .long l_heaps, .int (nI tz), .ref a_tape, .int (nI wr), .int (nI lw), .ref a_code, .ref a_begins, .int i_made, .int i_at, .int i_from, .int i_sort, .int i_value, .int i_open, .ref a_stack, .ref a_dry, .ref a_wet, .ref a_covered, .ref a_hangs, .ref a_off, .int i_fell, .int i_fellToday, .int i_rotten, .int i_raked, .int i_cost, .ref a_dryGo, .ref a_wetGo, .ref a_keptSky, .int i_imaged, .int (nI itn), .int i_oldRaking, .long l_oldHeaps, .int (nI ilw), .ref a_oldSky, .ref a_oldCells, .ref a_sheetSort, .ref a_sheetSize, .ref a_items, .ref a_spare]))] [(0, .ref m), (1, .int (nI j)), (2, .int 5)] 40 [.int 0]
            refine x_if_ne C dX8_taken_40 (tgt := 46) rfl (fun q9 => absurd q9 (by decide)) (fun _ => ?_)
            refine x_bipush C dX8_taken_43 (v := (-11)) rfl ?_
            refine x_sub C [2, 0, 1] (ws' := [(m, .inr (7, [.ref a_sky, .ref a_kind, .ref a_more, .ref a_strewn, .int (nI tn), .ref a_treeCell, .ref a_treeSort, .ref a_treeLeaves, .int i_raking, .long l_heaps, .int (nI tz), .ref a_tape, .int (nI wr), .int (nI lw), .ref a_code, .ref a_begins, .int i_made, .int i_at, .int i_from, .int i_sort, .int i_value, .int i_open, .ref a_stack, .ref a_dry, .ref a_wet, .ref a_covered, .ref a_hangs, .ref a_off, .int i_fell, .int i_fellToday, .int i_rotten, .int i_raked, .int i_cost, .ref a_dryGo, .ref a_wetGo, .ref a_keptSky, .int i_imaged, .int (nI itn), .int i_oldRaking, .long l_oldHeaps, .int (nI ilw), .ref a_oldSky, .ref a_oldCells, .ref a_sheetSort, .ref a_sheetSize, .ref a_items, .ref a_spare])), (a_kind, .inl (cI, 36, .inl kf)), (a_treeLeaves, .inl (cI, 4, .inl ttf))]) rfl rfl ?_
            refine E dX8_taken_45 (rfl) ?_
            exact ⟨(-11), rfl, rfl, by (unfold o_taken); (try simp only [hnj]); (repeat (first | rw [if_pos (by first | exact hk9 | (rw [hk9]; decide) | (rw [if_pos (by decide)]; assumption) | (rw [if_neg (by decide), if_pos (by decide)]; assumption) | (rw [if_neg (by decide), if_neg (by decide)]; assumption) | assumption | decide | omega | exact o_one_t (by assumption) | (rw [o_one_f (by assumption)]; decide) | exact ⟨by assumption, by assumption⟩ | exact fun h9 => absurd h9.1 (by assumption) | exact fun h9 => absurd h9.2 (by assumption))] | rw [if_neg (by first | exact hk9 | (rw [hk9]; decide) | (rw [if_pos (by decide)]; assumption) | (rw [if_neg (by decide), if_pos (by decide)]; assumption) | (rw [if_neg (by decide), if_neg (by decide)]; assumption) | assumption | decide | omega | exact o_one_t (by assumption) | (rw [o_one_f (by assumption)]; decide) | exact ⟨by assumption, by assumption⟩ | exact fun h9 => absurd h9.1 (by assumption) | exact fun h9 => absurd h9.2 (by assumption))])); all_goals (first | rfl)⟩
      ·
        obtain ⟨rfl, rfl, hf82⟩ := h72
        show X 0 0 [(m, .inr (7, [.ref a_sky, .ref a_kind, .ref a_more, .ref a_strewn, .int (nI tn), .ref a_treeCell, .ref a_treeSort, .ref a_treeLeaves, .int i_raking, .long l_heaps, .int (nI tz), .ref a_tape, .int (nI wr), .int (nI lw), .ref a_code, .ref a_begins, .int i_made, .int i_at, .int i_from, .int i_sort, .int i_value, .int i_open, .ref a_stack, .ref a_dry, .ref a_wet, .ref a_covered, .ref a_hangs, .ref a_off, .int i_fell, .int i_fellToday, .int i_rotten, .int i_raked, .int i_cost, .ref a_dryGo, .ref a_wetGo, .ref a_keptSky, .int i_imaged, .int (nI itn), .int i_oldRaking, .long l_oldHeaps, .int (nI ilw), .ref a_oldSky, .ref a_oldCells, .ref a_sheetSort, .ref a_sheetSize, .ref a_items, .ref a_spare])), (a_kind, .inl (cI, 36, .inl kf)), (a_treeLeaves, .inl (cI, 4, .inl ttf))] [(0, .ref m), (1, .int i), (2, .int 5)] 20 [.int 0]
        refine x_if_ne C dX8_taken_20 (tgt := 26) rfl (fun q9 => absurd q9 (by decide)) (fun _ => ?_)
        refine x_bipush C dX8_taken_23 (v := (-12)) rfl ?_
        refine E dX8_taken_25 (rfl) ?_
        exact ⟨(-12), rfl, rfl, by (unfold o_taken); (repeat (first | rw [if_pos (by first | exact hk9 | (rw [hk9]; decide) | (rw [if_pos (by decide)]; assumption) | (rw [if_neg (by decide), if_pos (by decide)]; assumption) | (rw [if_neg (by decide), if_neg (by decide)]; assumption) | assumption | decide | omega | exact o_one_t (by assumption) | (rw [o_one_f (by assumption)]; decide) | exact ⟨by assumption, by assumption⟩ | exact fun h9 => absurd h9.1 (by assumption) | exact fun h9 => absurd h9.2 (by assumption))] | rw [if_neg (by first | exact hk9 | (rw [hk9]; decide) | (rw [if_pos (by decide)]; assumption) | (rw [if_neg (by decide), if_pos (by decide)]; assumption) | (rw [if_neg (by decide), if_neg (by decide)]; assumption) | assumption | decide | omega | exact o_one_t (by assumption) | (rw [o_one_f (by assumption)]; decide) | exact ⟨by assumption, by assumption⟩ | exact fun h9 => absurd h9.1 (by assumption) | exact fun h9 => absurd h9.2 (by assumption))])); all_goals (first | rfl)⟩
    ·
      refine x_if_ne C dX8_taken_7 (tgt := 13) rfl (fun _ => ?_) (fun q9 => by first | exact absurd q9 (by decide) | exact absurd (by decide) q9)
      refine x_iload_n C dX8_taken_13 1 rfl ?_
      refine x_iconst C dX8_taken_14 (v := 0) rfl ?_
      refine x_bipush C dX8_taken_15 (v := 39) rfl ?_
      refine x_callS C (As := [.int i, .int 0, .int 39]) (st := []) (wc := []) (wr := [(m, .inr (7, [.ref a_sky, .ref a_kind, .ref a_more, .ref a_strewn, .int (nI tn), .ref a_treeCell, .ref a_treeSort, .ref a_treeLeaves, .int i_raking, .long l_heaps, .int (nI tz), .ref a_tape, .int (nI wr), .int (nI lw), .ref a_code, .ref a_begins, .int i_made, .int i_at, .int i_from, .int i_sort, .int i_value, .int i_open, .ref a_stack, .ref a_dry, .ref a_wet, .ref a_covered, .ref a_hangs, .ref a_off, .int i_fell, .int i_fellToday, .int i_rotten, .int i_raked, .int i_cost, .ref a_dryGo, .ref a_wetGo, .ref a_keptSky, .int i_imaged, .int (nI itn), .int i_oldRaking, .long l_oldHeaps, .int (nI ilw), .ref a_oldSky, .ref a_oldCells, .ref a_sheetSort, .ref a_sheetSize, .ref a_items, .ref a_spare])), (a_kind, .inl (cI, 36, .inl kf)), (a_treeLeaves, .inl (cI, 4, .inl ttf))]) (c_X8_within l dG cI cM cW cS i 0 39 ) rZ0_ok (fun _ _ _ _ => trivial) kS_X8_108 hy_X8_within ⟨Nat.le_of_ble_eq_true rfl, Nat.le_of_ble_eq_true rfl⟩ ⟨Nat.le_of_ble_eq_true rfl, Nat.le_of_ble_eq_true rfl⟩ dX8_taken_17 [] [0, 1, 2] rfl rfl rfl rfl (by decide) rfl (Nat.le_of_ble_eq_true rfl) ?_
      intro v83 w84 h85
      rcases h85 with h85 | h85
      ·
        obtain ⟨rfl, rfl, hf86⟩ := h85
        show X 0 0 [(m, .inr (7, [.ref a_sky, .ref a_kind, .ref a_more, .ref a_strewn, .int (nI tn), .ref a_treeCell, .ref a_treeSort, .ref a_treeLeaves, .int i_raking, .long l_heaps, .int (nI tz), .ref a_tape, .int (nI wr), .int (nI lw), .ref a_code, .ref a_begins, .int i_made, .int i_at, .int i_from, .int i_sort, .int i_value, .int i_open, .ref a_stack, .ref a_dry, .ref a_wet, .ref a_covered, .ref a_hangs, .ref a_off, .int i_fell, .int i_fellToday, .int i_rotten, .int i_raked, .int i_cost, .ref a_dryGo, .ref a_wetGo, .ref a_keptSky, .int i_imaged, .int (nI itn), .int i_oldRaking, .long l_oldHeaps, .int (nI ilw), .ref a_oldSky, .ref a_oldCells, .ref a_sheetSort, .ref a_sheetSize, .ref a_items, .ref a_spare])), (a_kind, .inl (cI, 36, .inl kf)), (a_treeLeaves, .inl (cI, 4, .inl ttf))] [(0, .ref m), (1, .int i), (2, .int 6)] 20 [.int 1]
        have hr87 := hf86
        obtain ⟨j, hj, rfl⟩ := q_w (n := 39) rfl (by decide) hf86
        have hnj : o_n (nI j) = j := o_n_nI (by omega)
        refine x_if_ne C dX8_taken_20 (tgt := 26) rfl (fun _ => ?_) (fun q9 => by first | exact absurd q9 (by decide) | exact absurd (by decide) q9)
        refine x_iload_n C dX8_taken_26 1 rfl ?_
        refine x_bipush C dX8_taken_27 (v := 35) rfl ?_
        refine x_icmp_le C dX8_taken_29 (tgt := 67) rfl (fun c88 => ?_) (fun c88 => ?_)
        ·
          have c88 : j ≤ 35 := q_le_t rfl (rfl : (35 : Int32) = nI 35) (by omega) (by omega) c88
          refine x_aload_n C dX8_taken_67 0 rfl ?_
          refine x_get C inlX8 rfl 1 (by decide) gw_10_19 dX8_taken_68 0 rfl rfl ?_
          refine x_iload_n C dX8_taken_71 1 rfl ?_
          refine x_iaload C 0 rfl dX8_taken_72 j (q_cl rfl (by omega)) (q_ix rfl (by omega) (by omega)) 1 rfl ?_
          have hq89 := q_in6 (hkf j (by omega))
          rcases hq89 with hq89 | hq89 | hq89 | hq89 | hq89 | hq89
          ·
            refine x_topi C 0 hq89 ?_
            have hk9 : o_one (kf j) 6 = false := by rw [hq89]; decide
            refine x_istore_n C dX8_taken_73 (by decide) (lv' := [(3, .int 0), (0, .ref m), (1, .int (nI j)), (2, .int 6)]) rfl ?_
            refine x_iload_n C dX8_taken_74 0 rfl ?_
            refine x_iload_n C dX8_taken_75 3 rfl ?_
            refine x_icmp_eq C dX8_taken_76 (tgt := 106) rfl (fun q9 => absurd q9 (by decide)) (fun _ => ?_)
            refine x_iload_n C dX8_taken_79 0 rfl ?_
            refine x_if_le C dX8_taken_80 (tgt := 106) rfl (fun _ => ?_) (fun q9 => by first | exact absurd q9 (by decide) | exact absurd (by decide) q9)
            refine x_iload_n C dX8_taken_106 0 rfl ?_
            refine x_iload_n C dX8_taken_107 3 rfl ?_
            refine x_icmp_ne C dX8_taken_108 (tgt := 115) rfl (fun _ => ?_) (fun q9 => by first | exact absurd q9 (by decide) | exact absurd (by decide) q9)
            refine x_bipush C dX8_taken_115 (v := (-13)) rfl ?_
            show X _ _ _ _ 117 _
            refine E dX8_taken_117 (rfl) ?_
            exact ⟨(-13), rfl, rfl, by (unfold o_taken); (try simp only [hnj]); (repeat (first | rw [if_pos (by first | exact hk9 | (rw [hk9]; decide) | (rw [if_pos (by decide)]; assumption) | (rw [if_neg (by decide), if_pos (by decide)]; assumption) | (rw [if_neg (by decide), if_neg (by decide)]; assumption) | assumption | decide | omega | exact o_one_t (by assumption) | (rw [o_one_f (by assumption)]; decide) | exact ⟨by assumption, by assumption⟩ | exact fun h9 => absurd h9.1 (by assumption) | exact fun h9 => absurd h9.2 (by assumption))] | rw [if_neg (by first | exact hk9 | (rw [hk9]; decide) | (rw [if_pos (by decide)]; assumption) | (rw [if_neg (by decide), if_pos (by decide)]; assumption) | (rw [if_neg (by decide), if_neg (by decide)]; assumption) | assumption | decide | omega | exact o_one_t (by assumption) | (rw [o_one_f (by assumption)]; decide) | exact ⟨by assumption, by assumption⟩ | exact fun h9 => absurd h9.1 (by assumption) | exact fun h9 => absurd h9.2 (by assumption))])); all_goals (first | rfl)⟩
          ·
            refine x_topi C 1 hq89 ?_
            have hk9 : o_one (kf j) 6 = false := by rw [hq89]; decide
            refine x_istore_n C dX8_taken_73 (by decide) (lv' := [(3, .int 1), (0, .ref m), (1, .int (nI j)), (2, .int 6)]) rfl ?_
            refine x_iload_n C dX8_taken_74 0 rfl ?_
            refine x_iload_n C dX8_taken_75 3 rfl ?_
            refine x_icmp_eq C dX8_taken_76 (tgt := 106) rfl (fun q9 => absurd q9 (by decide)) (fun _ => ?_)
            refine x_iload_n C dX8_taken_79 0 rfl ?_
            refine x_if_le C dX8_taken_80 (tgt := 106) rfl (fun q9 => absurd q9 (by decide)) (fun _ => ?_)
            refine x_iload_n C dX8_taken_83 0 rfl ?_
            refine x_iconst C dX8_taken_84 (v := 3) rfl ?_
            refine x_icmp_ne C dX8_taken_85 (tgt := 92) rfl (fun _ => ?_) (fun q9 => by first | exact absurd q9 (by decide) | exact absurd (by decide) q9)
            refine x_iload_n C dX8_taken_92 0 rfl ?_
            show X _ _ _ _ 93 _
            refine x_iconst C dX8_taken_93 (v := 5) rfl ?_
            refine x_icmp_ne C dX8_taken_94 (tgt := 101) rfl (fun _ => ?_) (fun q9 => by first | exact absurd q9 (by decide) | exact absurd (by decide) q9)
            refine x_iconst C dX8_taken_101 (v := 0) rfl ?_
            refine x_istore_n C dX8_taken_102 (by decide) (lv' := [(3, .int 0), (0, .ref m), (1, .int (nI j)), (2, .int 6)]) rfl ?_
            refine x_goto C dX8_taken_103 (tgt := 74) rfl ?_
            refine x_iload_n C dX8_taken_74 0 rfl ?_
            refine x_iload_n C dX8_taken_75 3 rfl ?_
            refine x_icmp_eq C dX8_taken_76 (tgt := 106) rfl (fun q9 => absurd q9 (by decide)) (fun _ => ?_)
            refine x_iload_n C dX8_taken_79 0 rfl ?_
            refine x_if_le C dX8_taken_80 (tgt := 106) rfl (fun _ => ?_) (fun q9 => by first | exact absurd q9 (by decide) | exact absurd (by decide) q9)
            show X _ _ _ _ 106 _
            refine x_iload_n C dX8_taken_106 0 rfl ?_
            refine x_iload_n C dX8_taken_107 3 rfl ?_
            refine x_icmp_ne C dX8_taken_108 (tgt := 115) rfl (fun _ => ?_) (fun q9 => by first | exact absurd q9 (by decide) | exact absurd (by decide) q9)
            refine x_bipush C dX8_taken_115 (v := (-13)) rfl ?_
            refine E dX8_taken_117 (rfl) ?_
            exact ⟨(-13), rfl, rfl, by (unfold o_taken); (try simp only [hnj]); (repeat (first | rw [if_pos (by first | exact hk9 | (rw [hk9]; decide) | (rw [if_pos (by decide)]; assumption) | (rw [if_neg (by decide), if_pos (by decide)]; assumption) | (rw [if_neg (by decide), if_neg (by decide)]; assumption) | assumption | decide | omega | exact o_one_t (by assumption) | (rw [o_one_f (by assumption)]; decide) | exact ⟨by assumption, by assumption⟩ | exact fun h9 => absurd h9.1 (by assumption) | exact fun h9 => absurd h9.2 (by assumption))] | rw [if_neg (by first | exact hk9 | (rw [hk9]; decide) | (rw [if_pos (by decide)]; assumption) | (rw [if_neg (by decide), if_pos (by decide)]; assumption) | (rw [if_neg (by decide), if_neg (by decide)]; assumption) | assumption | decide | omega | exact o_one_t (by assumption) | (rw [o_one_f (by assumption)]; decide) | exact ⟨by assumption, by assumption⟩ | exact fun h9 => absurd h9.1 (by assumption) | exact fun h9 => absurd h9.2 (by assumption))])); all_goals (first | rfl)⟩
          ·
            refine x_topi C 2 hq89 ?_
            have hk9 : o_one (kf j) 6 = false := by rw [hq89]; decide
            refine x_istore_n C dX8_taken_73 (by decide) (lv' := [(3, .int 2), (0, .ref m), (1, .int (nI j)), (2, .int 6)]) rfl ?_
            refine x_iload_n C dX8_taken_74 0 rfl ?_
            refine x_iload_n C dX8_taken_75 3 rfl ?_
            refine x_icmp_eq C dX8_taken_76 (tgt := 106) rfl (fun q9 => absurd q9 (by decide)) (fun _ => ?_)
            refine x_iload_n C dX8_taken_79 0 rfl ?_
            refine x_if_le C dX8_taken_80 (tgt := 106) rfl (fun q9 => absurd q9 (by decide)) (fun _ => ?_)
            refine x_iload_n C dX8_taken_83 0 rfl ?_
            refine x_iconst C dX8_taken_84 (v := 3) rfl ?_
            refine x_icmp_ne C dX8_taken_85 (tgt := 92) rfl (fun _ => ?_) (fun q9 => by first | exact absurd q9 (by decide) | exact absurd (by decide) q9)
            refine x_iload_n C dX8_taken_92 0 rfl ?_
            show X _ _ _ _ 93 _
            refine x_iconst C dX8_taken_93 (v := 5) rfl ?_
            refine x_icmp_ne C dX8_taken_94 (tgt := 101) rfl (fun _ => ?_) (fun q9 => by first | exact absurd q9 (by decide) | exact absurd (by decide) q9)
            refine x_iconst C dX8_taken_101 (v := 0) rfl ?_
            refine x_istore_n C dX8_taken_102 (by decide) (lv' := [(3, .int 0), (0, .ref m), (1, .int (nI j)), (2, .int 6)]) rfl ?_
            refine x_goto C dX8_taken_103 (tgt := 74) rfl ?_
            refine x_iload_n C dX8_taken_74 0 rfl ?_
            refine x_iload_n C dX8_taken_75 3 rfl ?_
            refine x_icmp_eq C dX8_taken_76 (tgt := 106) rfl (fun q9 => absurd q9 (by decide)) (fun _ => ?_)
            refine x_iload_n C dX8_taken_79 0 rfl ?_
            refine x_if_le C dX8_taken_80 (tgt := 106) rfl (fun _ => ?_) (fun q9 => by first | exact absurd q9 (by decide) | exact absurd (by decide) q9)
            show X _ _ _ _ 106 _
            refine x_iload_n C dX8_taken_106 0 rfl ?_
            refine x_iload_n C dX8_taken_107 3 rfl ?_
            refine x_icmp_ne C dX8_taken_108 (tgt := 115) rfl (fun _ => ?_) (fun q9 => by first | exact absurd q9 (by decide) | exact absurd (by decide) q9)
            refine x_bipush C dX8_taken_115 (v := (-13)) rfl ?_
            refine E dX8_taken_117 (rfl) ?_
            exact ⟨(-13), rfl, rfl, by (unfold o_taken); (try simp only [hnj]); (repeat (first | rw [if_pos (by first | exact hk9 | (rw [hk9]; decide) | (rw [if_pos (by decide)]; assumption) | (rw [if_neg (by decide), if_pos (by decide)]; assumption) | (rw [if_neg (by decide), if_neg (by decide)]; assumption) | assumption | decide | omega | exact o_one_t (by assumption) | (rw [o_one_f (by assumption)]; decide) | exact ⟨by assumption, by assumption⟩ | exact fun h9 => absurd h9.1 (by assumption) | exact fun h9 => absurd h9.2 (by assumption))] | rw [if_neg (by first | exact hk9 | (rw [hk9]; decide) | (rw [if_pos (by decide)]; assumption) | (rw [if_neg (by decide), if_pos (by decide)]; assumption) | (rw [if_neg (by decide), if_neg (by decide)]; assumption) | assumption | decide | omega | exact o_one_t (by assumption) | (rw [o_one_f (by assumption)]; decide) | exact ⟨by assumption, by assumption⟩ | exact fun h9 => absurd h9.1 (by assumption) | exact fun h9 => absurd h9.2 (by assumption))])); all_goals (first | rfl)⟩
          ·
            refine x_topi C 3 hq89 ?_
            have hk9 : o_one (kf j) 6 = false := by rw [hq89]; decide
            refine x_istore_n C dX8_taken_73 (by decide) (lv' := [(3, .int 3), (0, .ref m), (1, .int (nI j)), (2, .int 6)]) rfl ?_
            refine x_iload_n C dX8_taken_74 0 rfl ?_
            refine x_iload_n C dX8_taken_75 3 rfl ?_
            refine x_icmp_eq C dX8_taken_76 (tgt := 106) rfl (fun q9 => absurd q9 (by decide)) (fun _ => ?_)
            refine x_iload_n C dX8_taken_79 0 rfl ?_
            refine x_if_le C dX8_taken_80 (tgt := 106) rfl (fun q9 => absurd q9 (by decide)) (fun _ => ?_)
            refine x_iload_n C dX8_taken_83 0 rfl ?_
            refine x_iconst C dX8_taken_84 (v := 3) rfl ?_
            refine x_icmp_ne C dX8_taken_85 (tgt := 92) rfl (fun q9 => absurd q9 (by decide)) (fun _ => ?_)
            refine x_iconst C dX8_taken_88 (v := 1) rfl ?_
            show X _ _ _ _ 89 _
            refine x_goto C dX8_taken_89 (tgt := 102) rfl ?_
            refine x_istore_n C dX8_taken_102 (by decide) (lv' := [(3, .int 1), (0, .ref m), (1, .int (nI j)), (2, .int 6)]) rfl ?_
            refine x_goto C dX8_taken_103 (tgt := 74) rfl ?_
            refine x_iload_n C dX8_taken_74 0 rfl ?_
            refine x_iload_n C dX8_taken_75 3 rfl ?_
            refine x_icmp_eq C dX8_taken_76 (tgt := 106) rfl (fun q9 => absurd q9 (by decide)) (fun _ => ?_)
            refine x_iload_n C dX8_taken_79 0 rfl ?_
            refine x_if_le C dX8_taken_80 (tgt := 106) rfl (fun q9 => absurd q9 (by decide)) (fun _ => ?_)
            refine x_iload_n C dX8_taken_83 0 rfl ?_
            refine x_iconst C dX8_taken_84 (v := 3) rfl ?_
            show X _ _ _ _ 85 _
            refine x_icmp_ne C dX8_taken_85 (tgt := 92) rfl (fun _ => ?_) (fun q9 => by first | exact absurd q9 (by decide) | exact absurd (by decide) q9)
            refine x_iload_n C dX8_taken_92 0 rfl ?_
            refine x_iconst C dX8_taken_93 (v := 5) rfl ?_
            refine x_icmp_ne C dX8_taken_94 (tgt := 101) rfl (fun _ => ?_) (fun q9 => by first | exact absurd q9 (by decide) | exact absurd (by decide) q9)
            refine x_iconst C dX8_taken_101 (v := 0) rfl ?_
            refine x_istore_n C dX8_taken_102 (by decide) (lv' := [(3, .int 0), (0, .ref m), (1, .int (nI j)), (2, .int 6)]) rfl ?_
            refine x_goto C dX8_taken_103 (tgt := 74) rfl ?_
            refine x_iload_n C dX8_taken_74 0 rfl ?_
            refine x_iload_n C dX8_taken_75 3 rfl ?_
            refine x_icmp_eq C dX8_taken_76 (tgt := 106) rfl (fun q9 => absurd q9 (by decide)) (fun _ => ?_)
            show X _ _ _ _ 79 _
            refine x_iload_n C dX8_taken_79 0 rfl ?_
            refine x_if_le C dX8_taken_80 (tgt := 106) rfl (fun _ => ?_) (fun q9 => by first | exact absurd q9 (by decide) | exact absurd (by decide) q9)
            refine x_iload_n C dX8_taken_106 0 rfl ?_
            refine x_iload_n C dX8_taken_107 3 rfl ?_
            refine x_icmp_ne C dX8_taken_108 (tgt := 115) rfl (fun _ => ?_) (fun q9 => by first | exact absurd q9 (by decide) | exact absurd (by decide) q9)
            refine x_bipush C dX8_taken_115 (v := (-13)) rfl ?_
            refine E dX8_taken_117 (rfl) ?_
            exact ⟨(-13), rfl, rfl, by (unfold o_taken); (try simp only [hnj]); (repeat (first | rw [if_pos (by first | exact hk9 | (rw [hk9]; decide) | (rw [if_pos (by decide)]; assumption) | (rw [if_neg (by decide), if_pos (by decide)]; assumption) | (rw [if_neg (by decide), if_neg (by decide)]; assumption) | assumption | decide | omega | exact o_one_t (by assumption) | (rw [o_one_f (by assumption)]; decide) | exact ⟨by assumption, by assumption⟩ | exact fun h9 => absurd h9.1 (by assumption) | exact fun h9 => absurd h9.2 (by assumption))] | rw [if_neg (by first | exact hk9 | (rw [hk9]; decide) | (rw [if_pos (by decide)]; assumption) | (rw [if_neg (by decide), if_pos (by decide)]; assumption) | (rw [if_neg (by decide), if_neg (by decide)]; assumption) | assumption | decide | omega | exact o_one_t (by assumption) | (rw [o_one_f (by assumption)]; decide) | exact ⟨by assumption, by assumption⟩ | exact fun h9 => absurd h9.1 (by assumption) | exact fun h9 => absurd h9.2 (by assumption))])); all_goals (first | rfl)⟩
          ·
            refine x_topi C 4 hq89 ?_
            have hk9 : o_one (kf j) 6 = false := by rw [hq89]; decide
            refine x_istore_n C dX8_taken_73 (by decide) (lv' := [(3, .int 4), (0, .ref m), (1, .int (nI j)), (2, .int 6)]) rfl ?_
            refine x_iload_n C dX8_taken_74 0 rfl ?_
            refine x_iload_n C dX8_taken_75 3 rfl ?_
            refine x_icmp_eq C dX8_taken_76 (tgt := 106) rfl (fun q9 => absurd q9 (by decide)) (fun _ => ?_)
            refine x_iload_n C dX8_taken_79 0 rfl ?_
            refine x_if_le C dX8_taken_80 (tgt := 106) rfl (fun q9 => absurd q9 (by decide)) (fun _ => ?_)
            refine x_iload_n C dX8_taken_83 0 rfl ?_
            refine x_iconst C dX8_taken_84 (v := 3) rfl ?_
            refine x_icmp_ne C dX8_taken_85 (tgt := 92) rfl (fun _ => ?_) (fun q9 => by first | exact absurd q9 (by decide) | exact absurd (by decide) q9)
            refine x_iload_n C dX8_taken_92 0 rfl ?_
            show X _ _ _ _ 93 _
            refine x_iconst C dX8_taken_93 (v := 5) rfl ?_
            refine x_icmp_ne C dX8_taken_94 (tgt := 101) rfl (fun _ => ?_) (fun q9 => by first | exact absurd q9 (by decide) | exact absurd (by decide) q9)
            refine x_iconst C dX8_taken_101 (v := 0) rfl ?_
            refine x_istore_n C dX8_taken_102 (by decide) (lv' := [(3, .int 0), (0, .ref m), (1, .int (nI j)), (2, .int 6)]) rfl ?_
            refine x_goto C dX8_taken_103 (tgt := 74) rfl ?_
            refine x_iload_n C dX8_taken_74 0 rfl ?_
            refine x_iload_n C dX8_taken_75 3 rfl ?_
            refine x_icmp_eq C dX8_taken_76 (tgt := 106) rfl (fun q9 => absurd q9 (by decide)) (fun _ => ?_)
            refine x_iload_n C dX8_taken_79 0 rfl ?_
            refine x_if_le C dX8_taken_80 (tgt := 106) rfl (fun _ => ?_) (fun q9 => by first | exact absurd q9 (by decide) | exact absurd (by decide) q9)
            show X _ _ _ _ 106 _
            refine x_iload_n C dX8_taken_106 0 rfl ?_
            refine x_iload_n C dX8_taken_107 3 rfl ?_
            refine x_icmp_ne C dX8_taken_108 (tgt := 115) rfl (fun _ => ?_) (fun q9 => by first | exact absurd q9 (by decide) | exact absurd (by decide) q9)
            refine x_bipush C dX8_taken_115 (v := (-13)) rfl ?_
            refine E dX8_taken_117 (rfl) ?_
            exact ⟨(-13), rfl, rfl, by (unfold o_taken); (try simp only [hnj]); (repeat (first | rw [if_pos (by first | exact hk9 | (rw [hk9]; decide) | (rw [if_pos (by decide)]; assumption) | (rw [if_neg (by decide), if_pos (by decide)]; assumption) | (rw [if_neg (by decide), if_neg (by decide)]; assumption) | assumption | decide | omega | exact o_one_t (by assumption) | (rw [o_one_f (by assumption)]; decide) | exact ⟨by assumption, by assumption⟩ | exact fun h9 => absurd h9.1 (by assumption) | exact fun h9 => absurd h9.2 (by assumption))] | rw [if_neg (by first | exact hk9 | (rw [hk9]; decide) | (rw [if_pos (by decide)]; assumption) | (rw [if_neg (by decide), if_pos (by decide)]; assumption) | (rw [if_neg (by decide), if_neg (by decide)]; assumption) | assumption | decide | omega | exact o_one_t (by assumption) | (rw [o_one_f (by assumption)]; decide) | exact ⟨by assumption, by assumption⟩ | exact fun h9 => absurd h9.1 (by assumption) | exact fun h9 => absurd h9.2 (by assumption))])); all_goals (first | rfl)⟩
          ·
            refine x_topi C 5 hq89 ?_
            have hk9 : o_one (kf j) 6 = false := by rw [hq89]; decide
            refine x_istore_n C dX8_taken_73 (by decide) (lv' := [(3, .int 5), (0, .ref m), (1, .int (nI j)), (2, .int 6)]) rfl ?_
            refine x_iload_n C dX8_taken_74 0 rfl ?_
            refine x_iload_n C dX8_taken_75 3 rfl ?_
            refine x_icmp_eq C dX8_taken_76 (tgt := 106) rfl (fun q9 => absurd q9 (by decide)) (fun _ => ?_)
            refine x_iload_n C dX8_taken_79 0 rfl ?_
            refine x_if_le C dX8_taken_80 (tgt := 106) rfl (fun q9 => absurd q9 (by decide)) (fun _ => ?_)
            refine x_iload_n C dX8_taken_83 0 rfl ?_
            refine x_iconst C dX8_taken_84 (v := 3) rfl ?_
            refine x_icmp_ne C dX8_taken_85 (tgt := 92) rfl (fun _ => ?_) (fun q9 => by first | exact absurd q9 (by decide) | exact absurd (by decide) q9)
            refine x_iload_n C dX8_taken_92 0 rfl ?_
            show X _ _ _ _ 93 _
            refine x_iconst C dX8_taken_93 (v := 5) rfl ?_
            refine x_icmp_ne C dX8_taken_94 (tgt := 101) rfl (fun q9 => absurd q9 (by decide)) (fun _ => ?_)
            refine x_iconst C dX8_taken_97 (v := 2) rfl ?_
            refine x_goto C dX8_taken_98 (tgt := 102) rfl ?_
            refine x_istore_n C dX8_taken_102 (by decide) (lv' := [(3, .int 2), (0, .ref m), (1, .int (nI j)), (2, .int 6)]) rfl ?_
            refine x_goto C dX8_taken_103 (tgt := 74) rfl ?_
            refine x_iload_n C dX8_taken_74 0 rfl ?_
            refine x_iload_n C dX8_taken_75 3 rfl ?_
            refine x_icmp_eq C dX8_taken_76 (tgt := 106) rfl (fun q9 => absurd q9 (by decide)) (fun _ => ?_)
            refine x_iload_n C dX8_taken_79 0 rfl ?_
            show X _ _ _ _ 80 _
            refine x_if_le C dX8_taken_80 (tgt := 106) rfl (fun q9 => absurd q9 (by decide)) (fun _ => ?_)
            refine x_iload_n C dX8_taken_83 0 rfl ?_
            refine x_iconst C dX8_taken_84 (v := 3) rfl ?_
            refine x_icmp_ne C dX8_taken_85 (tgt := 92) rfl (fun _ => ?_) (fun q9 => by first | exact absurd q9 (by decide) | exact absurd (by decide) q9)
            refine x_iload_n C dX8_taken_92 0 rfl ?_
            refine x_iconst C dX8_taken_93 (v := 5) rfl ?_
            refine x_icmp_ne C dX8_taken_94 (tgt := 101) rfl (fun _ => ?_) (fun q9 => by first | exact absurd q9 (by decide) | exact absurd (by decide) q9)
            refine x_iconst C dX8_taken_101 (v := 0) rfl ?_
            refine x_istore_n C dX8_taken_102 (by decide) (lv' := [(3, .int 0), (0, .ref m), (1, .int (nI j)), (2, .int 6)]) rfl ?_
            refine x_goto C dX8_taken_103 (tgt := 74) rfl ?_
            show X _ _ _ _ 74 _
            refine x_iload_n C dX8_taken_74 0 rfl ?_
            refine x_iload_n C dX8_taken_75 3 rfl ?_
            refine x_icmp_eq C dX8_taken_76 (tgt := 106) rfl (fun q9 => absurd q9 (by decide)) (fun _ => ?_)
            refine x_iload_n C dX8_taken_79 0 rfl ?_
            refine x_if_le C dX8_taken_80 (tgt := 106) rfl (fun _ => ?_) (fun q9 => by first | exact absurd q9 (by decide) | exact absurd (by decide) q9)
            refine x_iload_n C dX8_taken_106 0 rfl ?_
            refine x_iload_n C dX8_taken_107 3 rfl ?_
            refine x_icmp_ne C dX8_taken_108 (tgt := 115) rfl (fun _ => ?_) (fun q9 => by first | exact absurd q9 (by decide) | exact absurd (by decide) q9)
            refine x_bipush C dX8_taken_115 (v := (-13)) rfl ?_
            refine E dX8_taken_117 (rfl) ?_
            exact ⟨(-13), rfl, rfl, by (unfold o_taken); (try simp only [hnj]); (repeat (first | rw [if_pos (by first | exact hk9 | (rw [hk9]; decide) | (rw [if_pos (by decide)]; assumption) | (rw [if_neg (by decide), if_pos (by decide)]; assumption) | (rw [if_neg (by decide), if_neg (by decide)]; assumption) | assumption | decide | omega | exact o_one_t (by assumption) | (rw [o_one_f (by assumption)]; decide) | exact ⟨by assumption, by assumption⟩ | exact fun h9 => absurd h9.1 (by assumption) | exact fun h9 => absurd h9.2 (by assumption))] | rw [if_neg (by first | exact hk9 | (rw [hk9]; decide) | (rw [if_pos (by decide)]; assumption) | (rw [if_neg (by decide), if_pos (by decide)]; assumption) | (rw [if_neg (by decide), if_neg (by decide)]; assumption) | assumption | decide | omega | exact o_one_t (by assumption) | (rw [o_one_f (by assumption)]; decide) | exact ⟨by assumption, by assumption⟩ | exact fun h9 => absurd h9.1 (by assumption) | exact fun h9 => absurd h9.2 (by assumption))])); all_goals (first | rfl)⟩
        ·
          have c88 : j > 35 := q_le_f rfl (rfl : (35 : Int32) = nI 35) (by omega) (by omega) c88
          refine x_aload_n C dX8_taken_32 0 rfl ?_
          refine x_iload_n C dX8_taken_33 1 rfl ?_
          refine x_bipush C dX8_taken_34 (v := 36) rfl ?_
          refine x_isub C dX8_taken_36 ?_
          refine x_callV C (As := [.int ((nI j) - 36)]) (st := []) (wc := [(m, .inr (7, [.ref a_sky, .ref a_kind, .ref a_more, .ref a_strewn, .int (nI tn), .ref a_treeCell, .ref a_treeSort, .ref a_treeLeaves, .int i_raking, .long l_heaps, .int (nI tz), .ref a_tape, .int (nI wr), .int (nI lw), .ref a_code, .ref a_begins, .int i_made, .int i_at, .int i_from, .int i_sort, .int i_value, .int i_open, .ref a_stack, .ref a_dry, .ref a_wet, .ref a_covered, .ref a_hangs, .ref a_off, .int i_fell, .int i_fellToday, .int i_rotten, .int i_raked, .int i_cost, .ref a_dryGo, .ref a_wetGo, .ref a_keptSky, .int i_imaged, .int (nI itn), .int i_oldRaking, .long l_oldHeaps, .int (nI ilw), .ref a_oldSky, .ref a_oldCells, .ref a_sheetSort, .ref a_sheetSize, .ref a_items, .ref a_spare]))]) (wr := [(a_kind, .inl (cI, 36, .inl kf)), (a_treeLeaves, .inl (cI, 4, .inl ttf))]) (c_X8_isTree l dG cI cM cW cS m a_sky a_kind a_more a_strewn a_treeCell a_treeSort a_treeLeaves a_tape a_code a_begins a_stack a_dry a_wet a_covered a_hangs a_off a_dryGo a_wetGo a_keptSky a_oldSky a_oldCells a_sheetSort a_sheetSize a_items a_spare tn tz wr lw itn ilw i_raking i_made i_at i_from i_sort i_value i_open i_fell i_fellToday i_rotten i_raked i_cost i_imaged i_oldRaking l_heaps l_oldHeaps ((nI j) - 36) ) rZ0_ok (fun _ _ _ _ => trivial) kV_X8_230 ⟨rfl, hy_X8_isTree⟩ ⟨Nat.le_of_ble_eq_true rfl, Nat.le_of_ble_eq_true rfl⟩ ⟨Nat.le_of_ble_eq_true rfl, Nat.le_of_ble_eq_true rfl⟩ dX8_taken_37 0 rfl rfl [0] [1, 2] rfl rfl rfl rfl (by decide) rfl (Nat.le_of_ble_eq_true rfl) ?_
          intro v90 w91 h92
          rcases h92 with h92 | h92
          ·
            obtain ⟨rfl, rfl, hf93⟩ := h92
            show X 0 0 [(a_kind, .inl (cI, 36, .inl kf)), (a_treeLeaves, .inl (cI, 4, .inl ttf)), (m, .inr (7, [.ref a_sky, .ref a_kind, .ref a_more, .ref a_strewn, .int (nI tn), .ref a_treeCell, .ref a_treeSort, .ref a_treeLeaves, .int i_raking, .long l_heaps, .int (nI tz), .ref a_tape, .int (nI wr), .int (nI lw), .ref a_code, .ref a_begins, .int i_made, .int i_at, .int i_from, .int i_sort, .int i_value, .int i_open, .ref a_stack, .ref a_dry, .ref a_wet, .ref a_covered, .ref a_hangs, .ref a_off, .int i_fell, .int i_fellToday, .int i_rotten, .int i_raked, .int i_cost, .ref a_dryGo, .ref a_wetGo, .ref a_keptSky, .int i_imaged, .int (nI itn), .int i_oldRaking, .long l_oldHeaps, .int (nI ilw), .ref a_oldSky, .ref a_oldCells, .ref a_sheetSort, .ref a_sheetSize, .ref a_items, .ref a_spare]))] [(0, .ref m), (1, .int (nI j)), (2, .int 6)] 40 [.int 1]
            refine x_if_ne C dX8_taken_40 (tgt := 46) rfl (fun _ => ?_) (fun q9 => by first | exact absurd q9 (by decide) | exact absurd (by decide) q9)
            refine x_iload_n C dX8_taken_46 2 rfl ?_
            refine x_bipush C dX8_taken_47 (v := 6) rfl ?_
            refine x_icmp_ne C dX8_taken_49 (tgt := 64) rfl (fun q9 => absurd q9 (by decide)) (fun _ => ?_)
            refine x_aload_n C dX8_taken_52 0 rfl ?_
            refine x_get C inlX8 rfl 7 (by decide) gw_11_0 dX8_taken_53 2 rfl rfl ?_
            refine x_iload_n C dX8_taken_56 1 rfl ?_
            refine x_bipush C dX8_taken_57 (v := 36) rfl ?_
            refine x_isub C dX8_taken_59 ?_
            refine x_iaload C 0 rfl dX8_taken_60 (j - 36) (q_cl (q_isub (a := j) (b := 36) rfl (rfl : (36 : Int32) = nI 36) (by omega)) (by omega)) (q_ix (q_isub (a := j) (b := 36) rfl (rfl : (36 : Int32) = nI 36) (by omega)) (by omega) (by omega)) 1 rfl ?_
            show X _ _ _ _ 61 _
            refine x_goto C dX8_taken_61 (tgt := 66) rfl ?_
            refine x_sub C [2, 0, 1] (ws' := [(m, .inr (7, [.ref a_sky, .ref a_kind, .ref a_more, .ref a_strewn, .int (nI tn), .ref a_treeCell, .ref a_treeSort, .ref a_treeLeaves, .int i_raking, .long l_heaps, .int (nI tz), .ref a_tape, .int (nI wr), .int (nI lw), .ref a_code, .ref a_begins, .int i_made, .int i_at, .int i_from, .int i_sort, .int i_value, .int i_open, .ref a_stack, .ref a_dry, .ref a_wet, .ref a_covered, .ref a_hangs, .ref a_off, .int i_fell, .int i_fellToday, .int i_rotten, .int i_raked, .int i_cost, .ref a_dryGo, .ref a_wetGo, .ref a_keptSky, .int i_imaged, .int (nI itn), .int i_oldRaking, .long l_oldHeaps, .int (nI ilw), .ref a_oldSky, .ref a_oldCells, .ref a_sheetSort, .ref a_sheetSize, .ref a_items, .ref a_spare])), (a_kind, .inl (cI, 36, .inl kf)), (a_treeLeaves, .inl (cI, 4, .inl ttf))]) rfl rfl ?_
            refine E dX8_taken_66 (rfl) ?_
            exact ⟨(ttf (j - 36)), rfl, rfl, by (unfold o_taken); (try simp only [hnj]); (repeat (first | rw [if_pos (by first | exact hk9 | (rw [hk9]; decide) | (rw [if_pos (by decide)]; assumption) | (rw [if_neg (by decide), if_pos (by decide)]; assumption) | (rw [if_neg (by decide), if_neg (by decide)]; assumption) | assumption | decide | omega | exact o_one_t (by assumption) | (rw [o_one_f (by assumption)]; decide) | exact ⟨by assumption, by assumption⟩ | exact fun h9 => absurd h9.1 (by assumption) | exact fun h9 => absurd h9.2 (by assumption))] | rw [if_neg (by first | exact hk9 | (rw [hk9]; decide) | (rw [if_pos (by decide)]; assumption) | (rw [if_neg (by decide), if_pos (by decide)]; assumption) | (rw [if_neg (by decide), if_neg (by decide)]; assumption) | assumption | decide | omega | exact o_one_t (by assumption) | (rw [o_one_f (by assumption)]; decide) | exact ⟨by assumption, by assumption⟩ | exact fun h9 => absurd h9.1 (by assumption) | exact fun h9 => absurd h9.2 (by assumption))])); all_goals (first | rfl)⟩
          ·
            obtain ⟨rfl, rfl, hf94⟩ := h92
            show X 0 0 [(a_kind, .inl (cI, 36, .inl kf)), (a_treeLeaves, .inl (cI, 4, .inl ttf)), (m, .inr (7, [.ref a_sky, .ref a_kind, .ref a_more, .ref a_strewn, .int (nI tn), .ref a_treeCell, .ref a_treeSort, .ref a_treeLeaves, .int i_raking, .long l_heaps, .int (nI tz), .ref a_tape, .int (nI wr), .int (nI lw), .ref a_code, .ref a_begins, .int i_made, .int i_at, .int i_from, .int i_sort, .int i_value, .int i_open, .ref a_stack, .ref a_dry, .ref a_wet, .ref a_covered, .ref a_hangs, .ref a_off, .int i_fell, .int i_fellToday, .int i_rotten, .int i_raked, .int i_cost, .ref a_dryGo, .ref a_wetGo, .ref a_keptSky, .int i_imaged, .int (nI itn), .int i_oldRaking, .long l_oldHeaps, .int (nI ilw), .ref a_oldSky, .ref a_oldCells, .ref a_sheetSort, .ref a_sheetSize, .ref a_items, .ref a_spare]))] [(0, .ref m), (1, .int (nI j)), (2, .int 6)] 40 [.int 0]
            refine x_if_ne C dX8_taken_40 (tgt := 46) rfl (fun q9 => absurd q9 (by decide)) (fun _ => ?_)
            refine x_bipush C dX8_taken_43 (v := (-11)) rfl ?_
            refine x_sub C [2, 0, 1] (ws' := [(m, .inr (7, [.ref a_sky, .ref a_kind, .ref a_more, .ref a_strewn, .int (nI tn), .ref a_treeCell, .ref a_treeSort, .ref a_treeLeaves, .int i_raking, .long l_heaps, .int (nI tz), .ref a_tape, .int (nI wr), .int (nI lw), .ref a_code, .ref a_begins, .int i_made, .int i_at, .int i_from, .int i_sort, .int i_value, .int i_open, .ref a_stack, .ref a_dry, .ref a_wet, .ref a_covered, .ref a_hangs, .ref a_off, .int i_fell, .int i_fellToday, .int i_rotten, .int i_raked, .int i_cost, .ref a_dryGo, .ref a_wetGo, .ref a_keptSky, .int i_imaged, .int (nI itn), .int i_oldRaking, .long l_oldHeaps, .int (nI ilw), .ref a_oldSky, .ref a_oldCells, .ref a_sheetSort, .ref a_sheetSize, .ref a_items, .ref a_spare])), (a_kind, .inl (cI, 36, .inl kf)), (a_treeLeaves, .inl (cI, 4, .inl ttf))]) rfl rfl ?_
            refine E dX8_taken_45 (rfl) ?_
            exact ⟨(-11), rfl, rfl, by (unfold o_taken); (try simp only [hnj]); (repeat (first | rw [if_pos (by first | exact hk9 | (rw [hk9]; decide) | (rw [if_pos (by decide)]; assumption) | (rw [if_neg (by decide), if_pos (by decide)]; assumption) | (rw [if_neg (by decide), if_neg (by decide)]; assumption) | assumption | decide | omega | exact o_one_t (by assumption) | (rw [o_one_f (by assumption)]; decide) | exact ⟨by assumption, by assumption⟩ | exact fun h9 => absurd h9.1 (by assumption) | exact fun h9 => absurd h9.2 (by assumption))] | rw [if_neg (by first | exact hk9 | (rw [hk9]; decide) | (rw [if_pos (by decide)]; assumption) | (rw [if_neg (by decide), if_pos (by decide)]; assumption) | (rw [if_neg (by decide), if_neg (by decide)]; assumption) | assumption | decide | omega | exact o_one_t (by assumption) | (rw [o_one_f (by assumption)]; decide) | exact ⟨by assumption, by assumption⟩ | exact fun h9 => absurd h9.1 (by assumption) | exact fun h9 => absurd h9.2 (by assumption))])); all_goals (first | rfl)⟩
      ·
        obtain ⟨rfl, rfl, hf95⟩ := h85
        show X 0 0 [(m, .inr (7, [.ref a_sky, .ref a_kind, .ref a_more, .ref a_strewn, .int (nI tn), .ref a_treeCell, .ref a_treeSort, .ref a_treeLeaves, .int i_raking, .long l_heaps, .int (nI tz), .ref a_tape, .int (nI wr), .int (nI lw), .ref a_code, .ref a_begins, .int i_made, .int i_at, .int i_from, .int i_sort, .int i_value, .int i_open, .ref a_stack, .ref a_dry, .ref a_wet, .ref a_covered, .ref a_hangs, .ref a_off, .int i_fell, .int i_fellToday, .int i_rotten, .int i_raked, .int i_cost, .ref a_dryGo, .ref a_wetGo, .ref a_keptSky, .int i_imaged, .int (nI itn), .int i_oldRaking, .long l_oldHeaps, .int (nI ilw), .ref a_oldSky, .ref a_oldCells, .ref a_sheetSort, .ref a_sheetSize, .ref a_items, .ref a_spare])), (a_kind, .inl (cI, 36, .inl kf)), (a_treeLeaves, .inl (cI, 4, .inl ttf))] [(0, .ref m), (1, .int i), (2, .int 6)] 20 [.int 0]
        refine x_if_ne C dX8_taken_20 (tgt := 26) rfl (fun q9 => absurd q9 (by decide)) (fun _ => ?_)
        refine x_bipush C dX8_taken_23 (v := (-12)) rfl ?_
        refine E dX8_taken_25 (rfl) ?_
        exact ⟨(-12), rfl, rfl, by (unfold o_taken); (repeat (first | rw [if_pos (by first | exact hk9 | (rw [hk9]; decide) | (rw [if_pos (by decide)]; assumption) | (rw [if_neg (by decide), if_pos (by decide)]; assumption) | (rw [if_neg (by decide), if_neg (by decide)]; assumption) | assumption | decide | omega | exact o_one_t (by assumption) | (rw [o_one_f (by assumption)]; decide) | exact ⟨by assumption, by assumption⟩ | exact fun h9 => absurd h9.1 (by assumption) | exact fun h9 => absurd h9.2 (by assumption))] | rw [if_neg (by first | exact hk9 | (rw [hk9]; decide) | (rw [if_pos (by decide)]; assumption) | (rw [if_neg (by decide), if_pos (by decide)]; assumption) | (rw [if_neg (by decide), if_neg (by decide)]; assumption) | assumption | decide | omega | exact o_one_t (by assumption) | (rw [o_one_f (by assumption)]; decide) | exact ⟨by assumption, by assumption⟩ | exact fun h9 => absurd h9.1 (by assumption) | exact fun h9 => absurd h9.2 (by assumption))])); all_goals (first | rfl)⟩
  ·
    obtain ⟨rfl, rfl, hf96⟩ := h3
    show X 0 0 [(m, .inr (7, [.ref a_sky, .ref a_kind, .ref a_more, .ref a_strewn, .int (nI tn), .ref a_treeCell, .ref a_treeSort, .ref a_treeLeaves, .int i_raking, .long l_heaps, .int (nI tz), .ref a_tape, .int (nI wr), .int (nI lw), .ref a_code, .ref a_begins, .int i_made, .int i_at, .int i_from, .int i_sort, .int i_value, .int i_open, .ref a_stack, .ref a_dry, .ref a_wet, .ref a_covered, .ref a_hangs, .ref a_off, .int i_fell, .int i_fellToday, .int i_rotten, .int i_raked, .int i_cost, .ref a_dryGo, .ref a_wetGo, .ref a_keptSky, .int i_imaged, .int (nI itn), .int i_oldRaking, .long l_oldHeaps, .int (nI ilw), .ref a_oldSky, .ref a_oldCells, .ref a_sheetSort, .ref a_sheetSize, .ref a_items, .ref a_spare])), (a_kind, .inl (cI, 36, .inl kf)), (a_treeLeaves, .inl (cI, 4, .inl ttf))] [(0, .ref m), (1, .int i), (2, .int k)] 7 [.int 0]
    refine x_if_ne C dX8_taken_7 (tgt := 13) rfl (fun q9 => absurd q9 (by decide)) (fun _ => ?_)
    refine x_bipush C dX8_taken_10 (v := (-2)) rfl ?_
    refine E dX8_taken_12 (rfl) ?_
    exact ⟨(-2), rfl, rfl, by (unfold o_taken); (repeat (first | rw [if_pos (by first | exact hk9 | (rw [hk9]; decide) | (rw [if_pos (by decide)]; assumption) | (rw [if_neg (by decide), if_pos (by decide)]; assumption) | (rw [if_neg (by decide), if_neg (by decide)]; assumption) | assumption | decide | omega | exact o_one_t (by assumption) | (rw [o_one_f (by assumption)]; decide) | exact ⟨by assumption, by assumption⟩ | exact fun h9 => absurd h9.1 (by assumption) | exact fun h9 => absurd h9.2 (by assumption))] | rw [if_neg (by first | exact hk9 | (rw [hk9]; decide) | (rw [if_pos (by decide)]; assumption) | (rw [if_neg (by decide), if_pos (by decide)]; assumption) | (rw [if_neg (by decide), if_neg (by decide)]; assumption) | assumption | decide | omega | exact o_one_t (by assumption) | (rw [o_one_f (by assumption)]; decide) | exact ⟨by assumption, by assumption⟩ | exact fun h9 => absurd h9.1 (by assumption) | exact fun h9 => absurd h9.2 (by assumption))])); all_goals (first | rfl)⟩
