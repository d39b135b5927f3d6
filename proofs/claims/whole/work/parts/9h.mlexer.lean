set_option maxHeartbeats 4000000 in
set_option maxRecDepth 100000 in
theorem c_X8_isDigit (l : Launch) (dG : va_G) (cI cM cW cS : ClassId) (b : Int32) : rM l yX8_isDigit cX8_isDigit 1 (some .boolean) ({ frames := 0, cells := 0, slots := 0, locals := 0 } : Room) dG (tY cI cM cW cS) rZ0 [.int b] [] (fun ov oz => (ov = some (.int 1) ∧ oz = [] ∧ p_dg b = true) ∨ (ov = some (.int 0) ∧ oz = [] ∧ ¬ p_dg b = true)) := by
  refine rM_ofI rfl (Nat.le_of_ble_eq_true rfl) rfl (fun X C E => ?_)
  show X 0 0 [] [(0, .int b)] 0 []
  refine x_iload_n C dX8_isDigit_0 0 rfl ?_
  refine x_bipush C dX8_isDigit_1 (v := 48) rfl ?_
  refine x_icmp_lt C dX8_isDigit_3 (tgt := 16) rfl (fun c1 => ?_) (fun c1 => ?_)
  ·
    have hA := c1
    refine x_iconst C dX8_isDigit_16 (v := 0) rfl ?_
    refine E dX8_isDigit_17 (rfl) ?_
    exact Or.inr (⟨rfl, rfl, by unfold p_dg; intro h9; first | exact absurd (of_decide_eq_true h9).1 (Int32.not_le.mpr hA) | exact absurd (of_decide_eq_true h9).2 (Int32.not_le.mpr hB)⟩)
  ·
    have hA := c1
    refine x_iload_n C dX8_isDigit_6 0 rfl ?_
    refine x_bipush C dX8_isDigit_7 (v := 57) rfl ?_
    refine x_icmp_gt C dX8_isDigit_9 (tgt := 16) rfl (fun c2 => ?_) (fun c2 => ?_)
    ·
      have hB := c2
      refine x_iconst C dX8_isDigit_16 (v := 0) rfl ?_
      refine E dX8_isDigit_17 (rfl) ?_
      exact Or.inr (⟨rfl, rfl, by unfold p_dg; intro h9; first | exact absurd (of_decide_eq_true h9).1 (Int32.not_le.mpr hA) | exact absurd (of_decide_eq_true h9).2 (Int32.not_le.mpr hB)⟩)
    ·
      have hB := c2
      refine x_iconst C dX8_isDigit_12 (v := 1) rfl ?_
      refine x_goto C dX8_isDigit_13 (tgt := 17) rfl ?_
      refine E dX8_isDigit_17 (rfl) ?_
      exact Or.inl ⟨rfl, rfl, by unfold p_dg; exact decide_eq_true ⟨Int32.not_lt.mp hA, Int32.not_lt.mp hB⟩⟩
set_option maxHeartbeats 4000000 in
set_option maxRecDepth 100000 in
theorem c_X8_isLetter (l : Launch) (dG : va_G) (cI cM cW cS : ClassId) (b : Int32) : rM l yX8_isLetter cX8_isLetter 1 (some .boolean) ({ frames := 0, cells := 0, slots := 0, locals := 0 } : Room) dG (tY cI cM cW cS) rZ0 [.int b] [] (fun ov oz => (ov = some (.int 1) ∧ oz = [] ∧ p_le b = true) ∨ (ov = some (.int 0) ∧ oz = [] ∧ ¬ p_le b = true)) := by
  refine rM_ofI rfl (Nat.le_of_ble_eq_true rfl) rfl (fun X C E => ?_)
  show X 0 0 [] [(0, .int b)] 0 []
  refine x_iload_n C dX8_isLetter_0 0 rfl ?_
  refine x_bipush C dX8_isLetter_1 (v := 97) rfl ?_
  refine x_icmp_lt C dX8_isLetter_3 (tgt := 16) rfl (fun c1 => ?_) (fun c1 => ?_)
  ·
    have hA := c1
    refine x_iconst C dX8_isLetter_16 (v := 0) rfl ?_
    refine E dX8_isLetter_17 (rfl) ?_
    exact Or.inr (⟨rfl, rfl, by unfold p_le; intro h9; first | exact absurd (of_decide_eq_true h9).1 (Int32.not_le.mpr hA) | exact absurd (of_decide_eq_true h9).2 (Int32.not_le.mpr hB)⟩)
  ·
    have hA := c1
    refine x_iload_n C dX8_isLetter_6 0 rfl ?_
    refine x_bipush C dX8_isLetter_7 (v := 122) rfl ?_
    refine x_icmp_gt C dX8_isLetter_9 (tgt := 16) rfl (fun c2 => ?_) (fun c2 => ?_)
    ·
      have hB := c2
      refine x_iconst C dX8_isLetter_16 (v := 0) rfl ?_
      refine E dX8_isLetter_17 (rfl) ?_
      exact Or.inr (⟨rfl, rfl, by unfold p_le; intro h9; first | exact absurd (of_decide_eq_true h9).1 (Int32.not_le.mpr hA) | exact absurd (of_decide_eq_true h9).2 (Int32.not_le.mpr hB)⟩)
    ·
      have hB := c2
      refine x_iconst C dX8_isLetter_12 (v := 1) rfl ?_
      refine x_goto C dX8_isLetter_13 (tgt := 17) rfl ?_
      refine E dX8_isLetter_17 (rfl) ?_
      exact Or.inl ⟨rfl, rfl, by unfold p_le; exact decide_eq_true ⟨Int32.not_lt.mp hA, Int32.not_lt.mp hB⟩⟩
theorem kS_X8_133 : GoodIn GW (va_wsS RX8 133 yX8_isDigit (Cond.code yX8_isDigit cX8_isDigit 1 (some .boolean) :: GW)) := r_gS gw_12_14 gw_12_15 gw_1_5 gw_12_16
theorem hy_X8_isDigit : yX8_isDigit.cls ≠ "java/lang/invoke/MethodHandle" ∧ yX8_isDigit.cls ≠ "java/lang/invoke/VarHandle" ∧ (parseMethodDescriptor yX8_isDigit.desc).map (fun d => d.parameters.length) = some 1 := ⟨by decide +kernel, by decide +kernel, by decide +kernel⟩
theorem kS_X8_140 : GoodIn GW (va_wsS RX8 140 yX8_isLetter (Cond.code yX8_isLetter cX8_isLetter 1 (some .boolean) :: GW)) := r_gS gw_12_17 gw_12_18 gw_1_5 gw_12_19
theorem hy_X8_isLetter : yX8_isLetter.cls ≠ "java/lang/invoke/MethodHandle" ∧ yX8_isLetter.cls ≠ "java/lang/invoke/VarHandle" ∧ (parseMethodDescriptor yX8_isLetter.desc).map (fun d => d.parameters.length) = some 1 := ⟨by decide +kernel, by decide +kernel, by decide +kernel⟩
set_option maxHeartbeats 4000000 in
set_option maxRecDepth 100000 in
theorem c_X8_next (l : Launch) (dG : va_G) (cI cM cW cS : ClassId) (m a_sky a_kind a_more a_strewn a_treeCell a_treeSort a_treeLeaves a_tape a_code a_begins a_stack a_dry a_wet a_covered a_hangs a_off a_dryGo a_wetGo a_keptSky a_oldSky a_oldCells a_sheetSort a_sheetSize a_items a_spare : Nat) (tn tz wr lw itn ilw : Nat) (i_raking i_made i_at i_from i_sort i_value i_open i_fell i_fellToday i_rotten i_raked i_cost i_imaged i_oldRaking : Int32) (l_heaps l_oldHeaps : Int64) (tp : Nat → Int32) (a : Nat) (ha : a ≤ tz) (hn : tz ≤ 160) : rM l yX8_next cX8_next 2 none ({ frames := 1, cells := 0, slots := 0, locals := 20 } : Room) dG (tY cI cM cW cS) rZ0 [.ref m] [(m, .inr (7, [.ref a_sky, .ref a_kind, .ref a_more, .ref a_strewn, .int (nI tn), .ref a_treeCell, .ref a_treeSort, .ref a_treeLeaves, .int i_raking, .long l_heaps, .int (nI tz), .ref a_tape, .int (nI wr), .int (nI lw), .ref a_code, .ref a_begins, .int i_made, .int (nI a), .int i_from, .int i_sort, .int i_value, .int i_open, .ref a_stack, .ref a_dry, .ref a_wet, .ref a_covered, .ref a_hangs, .ref a_off, .int i_fell, .int i_fellToday, .int i_rotten, .int i_raked, .int i_cost, .ref a_dryGo, .ref a_wetGo, .ref a_keptSky, .int i_imaged, .int (nI itn), .int i_oldRaking, .long l_oldHeaps, .int (nI ilw), .ref a_oldSky, .ref a_oldCells, .ref a_sheetSort, .ref a_sheetSize, .ref a_items, .ref a_spare])), (a_tape, .inl (cI, 160, .inl tp))] (fun ov oz => ∃ (at' : Nat) (pl' : Nat) (so' : Int32) (v' : Int32), ov = none ∧ oz = [(m, .inr (7, [.ref a_sky, .ref a_kind, .ref a_more, .ref a_strewn, .int (nI tn), .ref a_treeCell, .ref a_treeSort, .ref a_treeLeaves, .int i_raking, .long l_heaps, .int (nI tz), .ref a_tape, .int (nI wr), .int (nI lw), .ref a_code, .ref a_begins, .int i_made, .int (nI at'), .int (nI pl'), .int so', .int v', .int i_open, .ref a_stack, .ref a_dry, .ref a_wet, .ref a_covered, .ref a_hangs, .ref a_off, .int i_fell, .int i_fellToday, .int i_rotten, .int i_raked, .int i_cost, .ref a_dryGo, .ref a_wetGo, .ref a_keptSky, .int i_imaged, .int (nI itn), .int i_oldRaking, .long l_oldHeaps, .int (nI ilw), .ref a_oldSky, .ref a_oldCells, .ref a_sheetSort, .ref a_sheetSize, .ref a_items, .ref a_spare])), (a_tape, .inl (cI, 160, .inl tp))] ∧ at' = p_nx tp tz a ∧ pl' = p_pl tp tz a ∧ so' = p_so tp tz a ∧ (p_so tp tz a = 1 → v' = p_vl tp tz a) ∧ (p_so tp tz a = 3 → v' = tp (p_pl tp tz a))) := by
  refine rM_ofV false (by intro h; cases h) rfl (Nat.le_of_ble_eq_true rfl) rfl (fun X C E => ?_)
  show X 0 0 [(m, .inr (7, [.ref a_sky, .ref a_kind, .ref a_more, .ref a_strewn, .int (nI tn), .ref a_treeCell, .ref a_treeSort, .ref a_treeLeaves, .int i_raking, .long l_heaps, .int (nI tz), .ref a_tape, .int (nI wr), .int (nI lw), .ref a_code, .ref a_begins, .int i_made, .int (nI a), .int i_from, .int i_sort, .int i_value, .int i_open, .ref a_stack, .ref a_dry, .ref a_wet, .ref a_covered, .ref a_hangs, .ref a_off, .int i_fell, .int i_fellToday, .int i_rotten, .int i_raked, .int i_cost, .ref a_dryGo, .ref a_wetGo, .ref a_keptSky, .int i_imaged, .int (nI itn), .int i_oldRaking, .long l_oldHeaps, .int (nI ilw), .ref a_oldSky, .ref a_oldCells, .ref a_sheetSort, .ref a_sheetSize, .ref a_items, .ref a_spare])), (a_tape, .inl (cI, 160, .inl tp))] [(0, .ref m)] 0 []
  have L0_0 : ∀ (fuel : Nat) (q : Nat), (haq : a ≤ q) → (hqn : q ≤ tz) → (hs9 : p_sk p_bl tp tz q = p_pl tp tz a) → tz - q < fuel → X 0 0 [(m, .inr (7, [.ref a_sky, .ref a_kind, .ref a_more, .ref a_strewn, .int (nI tn), .ref a_treeCell, .ref a_treeSort, .ref a_treeLeaves, .int i_raking, .long l_heaps, .int (nI tz), .ref a_tape, .int (nI wr), .int (nI lw), .ref a_code, .ref a_begins, .int i_made, .int (nI q), .int i_from, .int i_sort, .int i_value, .int i_open, .ref a_stack, .ref a_dry, .ref a_wet, .ref a_covered, .ref a_hangs, .ref a_off, .int i_fell, .int i_fellToday, .int i_rotten, .int i_raked, .int i_cost, .ref a_dryGo, .ref a_wetGo, .ref a_keptSky, .int i_imaged, .int (nI itn), .int i_oldRaking, .long l_oldHeaps, .int (nI ilw), .ref a_oldSky, .ref a_oldCells, .ref a_sheetSort, .ref a_sheetSize, .ref a_items, .ref a_spare])), (a_tape, .inl (cI, 160, .inl tp))] [(0, .ref m)] 0 [] := by
    intro fuel
    induction fuel with
    | zero => intros; omega
    | succ fuel ihL0_0 =>
      intro q haq hqn hs9 hfu
      refine x_aload_n C dX8_next_0 0 rfl ?_
      refine x_get C inlX8 rfl 17 (by decide) gw_12_4 dX8_next_1 0 rfl rfl ?_
      refine x_aload_n C dX8_next_4 0 rfl ?_
      refine x_get C inlX8 rfl 10 (by decide) gw_11_20 dX8_next_5 0 rfl rfl ?_
      refine x_icmp_ge C dX8_next_8 (tgt := 52) rfl (fun c2 => ?_) (fun c2 => ?_)
      ·
        have c2 : q ≥ tz := q_ge_t rfl rfl (by omega) (by omega) c2
        have he9 : p_pl tp tz a = q := by rw [← hs9]; first | exact p_sk_e (by omega) | exact p_sk_x (p_bl_f hb32 hb10)
        subst he9
        have hple := p_pl_le (tp := tp) ha
        refine x_aload_n C dX8_next_52 0 rfl ?_
        refine x_aload_n C dX8_next_53 0 rfl ?_
        refine x_get C inlX8 rfl 17 (by decide) gw_12_4 dX8_next_54 0 rfl rfl ?_
        refine x_put C inlX8 rfl tyX8 tyX8_ok nmX8 18 (by decide) gw_12_8 rfl dX8_next_57 0 rfl (rfl) rfl (Nat.le_of_ble_eq_true rfl) ?_
        show X _ _ [(m, .inr (7, [.ref a_sky, .ref a_kind, .ref a_more, .ref a_strewn, .int (nI tn), .ref a_treeCell, .ref a_treeSort, .ref a_treeLeaves, .int i_raking, .long l_heaps, .int (nI tz), .ref a_tape, .int (nI wr), .int (nI lw), .ref a_code, .ref a_begins, .int i_made, .int (nI (p_pl tp tz a)), .int (nI (p_pl tp tz a)), .int i_sort, .int i_value, .int i_open, .ref a_stack, .ref a_dry, .ref a_wet, .ref a_covered, .ref a_hangs, .ref a_off, .int i_fell, .int i_fellToday, .int i_rotten, .int i_raked, .int i_cost, .ref a_dryGo, .ref a_wetGo, .ref a_keptSky, .int i_imaged, .int (nI itn), .int i_oldRaking, .long l_oldHeaps, .int (nI ilw), .ref a_oldSky, .ref a_oldCells, .ref a_sheetSort, .ref a_sheetSize, .ref a_items, .ref a_spare])), (a_tape, .inl (cI, 160, .inl tp))] _ _ _
        refine x_aload_n C dX8_next_60 0 rfl ?_
        refine x_get C inlX8 rfl 17 (by decide) gw_12_4 dX8_next_61 0 rfl rfl ?_
        refine x_aload_n C dX8_next_64 0 rfl ?_
        refine x_get C inlX8 rfl 10 (by decide) gw_11_20 dX8_next_65 0 rfl rfl ?_
        refine x_icmp_ne C dX8_next_68 (tgt := 77) rfl (fun c3 => ?_) (fun c3 => ?_)
        ·
          have c3 : p_pl tp tz a ≠ tz := q_ne_t rfl rfl (by omega) (by omega) c3
          refine x_aload_n C dX8_next_77 0 rfl ?_
          refine x_get C inlX8 rfl 11 (by decide) gw_11_1 dX8_next_78 0 rfl rfl ?_
          refine x_aload_n C dX8_next_81 0 rfl ?_
          refine x_get C inlX8 rfl 17 (by decide) gw_12_4 dX8_next_82 0 rfl rfl ?_
          refine x_iaload C 0 rfl dX8_next_85 (p_pl tp tz a) (q_cl rfl (by omega)) (q_ix rfl (by omega) (by omega)) 1 rfl ?_
          refine x_istore_n C dX8_next_86 (by decide) (lv' := [(1, .int (tp (p_pl tp tz a))), (0, .ref m)]) rfl ?_
          refine x_iload_n C dX8_next_87 0 rfl ?_
          refine x_callS C (As := [.int (tp (p_pl tp tz a))]) (st := []) (wc := []) (wr := [(m, .inr (7, [.ref a_sky, .ref a_kind, .ref a_more, .ref a_strewn, .int (nI tn), .ref a_treeCell, .ref a_treeSort, .ref a_treeLeaves, .int i_raking, .long l_heaps, .int (nI tz), .ref a_tape, .int (nI wr), .int (nI lw), .ref a_code, .ref a_begins, .int i_made, .int (nI (p_pl tp tz a)), .int (nI (p_pl tp tz a)), .int i_sort, .int i_value, .int i_open, .ref a_stack, .ref a_dry, .ref a_wet, .ref a_covered, .ref a_hangs, .ref a_off, .int i_fell, .int i_fellToday, .int i_rotten, .int i_raked, .int i_cost, .ref a_dryGo, .ref a_wetGo, .ref a_keptSky, .int i_imaged, .int (nI itn), .int i_oldRaking, .long l_oldHeaps, .int (nI ilw), .ref a_oldSky, .ref a_oldCells, .ref a_sheetSort, .ref a_sheetSize, .ref a_items, .ref a_spare])), (a_tape, .inl (cI, 160, .inl tp))]) (c_X8_isDigit l dG cI cM cW cS (tp (p_pl tp tz a)) ) rZ0_ok (fun _ _ _ _ => trivial) kS_X8_133 hy_X8_isDigit ⟨Nat.le_of_ble_eq_true rfl, Nat.le_of_ble_eq_true rfl⟩ ⟨Nat.le_of_ble_eq_true rfl, Nat.le_of_ble_eq_true rfl⟩ dX8_next_88 [] [0, 1] rfl rfl rfl rfl (by decide) rfl (Nat.le_of_ble_eq_true rfl) ?_
          intro v4 w5 h6
          rcases h6 with h6 | h6
          ·
            obtain ⟨rfl, rfl, hf7⟩ := h6
            show X 0 0 [(m, .inr (7, [.ref a_sky, .ref a_kind, .ref a_more, .ref a_strewn, .int (nI tn), .ref a_treeCell, .ref a_treeSort, .ref a_treeLeaves, .int i_raking, .long l_heaps, .int (nI tz), .ref a_tape, .int (nI wr), .int (nI lw), .ref a_code, .ref a_begins, .int i_made, .int (nI (p_pl tp tz a)), .int (nI (p_pl tp tz a)), .int i_sort, .int i_value, .int i_open, .ref a_stack, .ref a_dry, .ref a_wet, .ref a_covered, .ref a_hangs, .ref a_off, .int i_fell, .int i_fellToday, .int i_rotten, .int i_raked, .int i_cost, .ref a_dryGo, .ref a_wetGo, .ref a_keptSky, .int i_imaged, .int (nI itn), .int i_oldRaking, .long l_oldHeaps, .int (nI ilw), .ref a_oldSky, .ref a_oldCells, .ref a_sheetSort, .ref a_sheetSize, .ref a_items, .ref a_spare])), (a_tape, .inl (cI, 160, .inl tp))] [(1, .int (tp (p_pl tp tz a))), (0, .ref m)] 91 [.int 1]
            have hlt : p_pl tp tz a < tz := by omega
            have hdg := hf7
            refine x_if_eq C dX8_next_91 (tgt := 198) rfl (fun q9 => absurd q9 (by decide)) (fun _ => ?_)
            refine x_aload_n C dX8_next_94 1 rfl ?_
            refine x_iconst C dX8_next_95 (v := 0) rfl ?_
            refine x_put C inlX8 rfl tyX8 tyX8_ok nmX8 20 (by decide) gw_12_13 rfl dX8_next_96 0 rfl (rfl) rfl (Nat.le_of_ble_eq_true rfl) ?_
            show X _ _ [(m, .inr (7, [.ref a_sky, .ref a_kind, .ref a_more, .ref a_strewn, .int (nI tn), .ref a_treeCell, .ref a_treeSort, .ref a_treeLeaves, .int i_raking, .long l_heaps, .int (nI tz), .ref a_tape, .int (nI wr), .int (nI lw), .ref a_code, .ref a_begins, .int i_made, .int (nI (p_pl tp tz a)), .int (nI (p_pl tp tz a)), .int i_sort, .int 0, .int i_open, .ref a_stack, .ref a_dry, .ref a_wet, .ref a_covered, .ref a_hangs, .ref a_off, .int i_fell, .int i_fellToday, .int i_rotten, .int i_raked, .int i_cost, .ref a_dryGo, .ref a_wetGo, .ref a_keptSky, .int i_imaged, .int (nI itn), .int i_oldRaking, .long l_oldHeaps, .int (nI ilw), .ref a_oldSky, .ref a_oldCells, .ref a_sheetSort, .ref a_sheetSize, .ref a_items, .ref a_spare])), (a_tape, .inl (cI, 160, .inl tp))] _ _ _
            have L99_7 : ∀ (fuel : Nat) (k : Nat) (v9 : Int32), (hk : p_pl tp tz a + k ≤ tz) → (hv9 : v9 = p_num tp (p_pl tp tz a) (min k 4)) → (hs9 : p_sk p_dg tp tz (p_pl tp tz a + k) = p_sk p_dg tp tz (p_pl tp tz a)) → tz - (p_pl tp tz a + k) < fuel → X 0 0 [(m, .inr (7, [.ref a_sky, .ref a_kind, .ref a_more, .ref a_strewn, .int (nI tn), .ref a_treeCell, .ref a_treeSort, .ref a_treeLeaves, .int i_raking, .long l_heaps, .int (nI tz), .ref a_tape, .int (nI wr), .int (nI lw), .ref a_code, .ref a_begins, .int i_made, .int (nI (p_pl tp tz a + k)), .int (nI (p_pl tp tz a)), .int i_sort, .int v9, .int i_open, .ref a_stack, .ref a_dry, .ref a_wet, .ref a_covered, .ref a_hangs, .ref a_off, .int i_fell, .int i_fellToday, .int i_rotten, .int i_raked, .int i_cost, .ref a_dryGo, .ref a_wetGo, .ref a_keptSky, .int i_imaged, .int (nI itn), .int i_oldRaking, .long l_oldHeaps, .int (nI ilw), .ref a_oldSky, .ref a_oldCells, .ref a_sheetSort, .ref a_sheetSize, .ref a_items, .ref a_spare])), (a_tape, .inl (cI, 160, .inl tp))] [(0, .ref m)] 99 [] := by
              intro fuel
              induction fuel with
              | zero => intros; omega
              | succ fuel ihL99_7 =>
                intro k v9 hk hv9 hs9 hfu
                refine x_aload_n C dX8_next_99 0 rfl ?_
                refine x_get C inlX8 rfl 17 (by decide) gw_12_4 dX8_next_100 0 rfl rfl ?_
                refine x_aload_n C dX8_next_103 0 rfl ?_
                refine x_get C inlX8 rfl 10 (by decide) gw_11_20 dX8_next_104 0 rfl rfl ?_
                refine x_icmp_ge C dX8_next_107 (tgt := 175) rfl (fun c9 => ?_) (fun c9 => ?_)
                ·
                  have c9 : p_pl tp tz a + k ≥ tz := q_ge_t rfl rfl (by omega) (by omega) c9
                  have he9 : p_sk p_dg tp tz (p_pl tp tz a) = p_pl tp tz a + k := by rw [← hs9]; first | exact p_sk_e (by omega) | exact p_sk_x (by assumption)
                  refine x_aload_n C dX8_next_175 0 rfl ?_
                  refine x_aload_n C dX8_next_176 0 rfl ?_
                  refine x_get C inlX8 rfl 17 (by decide) gw_12_4 dX8_next_177 0 rfl rfl ?_
                  refine x_aload_n C dX8_next_180 0 rfl ?_
                  refine x_get C inlX8 rfl 18 (by decide) gw_12_8 dX8_next_181 0 rfl rfl ?_
                  refine x_isub C dX8_next_184 ?_
                  refine x_iconst C dX8_next_185 (v := 4) rfl ?_
                  refine x_icmp_le C dX8_next_186 (tgt := 193) rfl (fun c10 => ?_) (fun c10 => ?_)
                  ·
                    have c10 : (p_pl tp tz a + k) - (p_pl tp tz a) ≤ 4 := q_le_t (q_isub (a := p_pl tp tz a + k) (b := p_pl tp tz a) rfl rfl (by omega)) (rfl : (4 : Int32) = nI 4) (by omega) (by omega) c10
                    refine x_iconst C dX8_next_193 (v := 1) rfl ?_
                    refine x_put C inlX8 rfl tyX8 tyX8_ok nmX8 19 (by decide) gw_12_7 rfl dX8_next_194 0 rfl (rfl) rfl (Nat.le_of_ble_eq_true rfl) ?_
                    show X _ _ [(m, .inr (7, [.ref a_sky, .ref a_kind, .ref a_more, .ref a_strewn, .int (nI tn), .ref a_treeCell, .ref a_treeSort, .ref a_treeLeaves, .int i_raking, .long l_heaps, .int (nI tz), .ref a_tape, .int (nI wr), .int (nI lw), .ref a_code, .ref a_begins, .int i_made, .int (nI (p_pl tp tz a + k)), .int (nI (p_pl tp tz a)), .int 1, .int v9, .int i_open, .ref a_stack, .ref a_dry, .ref a_wet, .ref a_covered, .ref a_hangs, .ref a_off, .int i_fell, .int i_fellToday, .int i_rotten, .int i_raked, .int i_cost, .ref a_dryGo, .ref a_wetGo, .ref a_keptSky, .int i_imaged, .int (nI itn), .int i_oldRaking, .long l_oldHeaps, .int (nI ilw), .ref a_oldSky, .ref a_oldCells, .ref a_sheetSort, .ref a_sheetSize, .ref a_items, .ref a_spare])), (a_tape, .inl (cI, 160, .inl tp))] _ _ _
                    refine E dX8_next_197 ?_
                    exact ⟨(p_pl tp tz a + k), (p_pl tp tz a), 1, v9, rfl, rfl, ⟨by rw [(p_tk_dg hlt hdg).1, he9], rfl, by rw [p_so_dg hlt hdg, he9]; first | exact (if_pos (by omega)).symm | exact (if_neg (by omega)).symm, fun h9 => by rw [p_so_dg hlt hdg, he9] at h9; rw [(p_tk_dg hlt hdg).2.2, he9, hv9, show min k 4 = p_pl tp tz a + k - p_pl tp tz a by have : ¬ 4 < p_pl tp tz a + k - p_pl tp tz a := fun h8 => absurd (if_pos h8 ▸ h9) (by decide); omega], fun h9 => by rw [p_so_dg hlt hdg] at h9; exact absurd h9 (by split <;> decide)⟩⟩
                  ·
                    have c10 : (p_pl tp tz a + k) - (p_pl tp tz a) > 4 := q_le_f (q_isub (a := p_pl tp tz a + k) (b := p_pl tp tz a) rfl rfl (by omega)) (rfl : (4 : Int32) = nI 4) (by omega) (by omega) c10
                    refine x_iconst C dX8_next_189 (v := 4) rfl ?_
                    refine x_goto C dX8_next_190 (tgt := 194) rfl ?_
                    refine x_put C inlX8 rfl tyX8 tyX8_ok nmX8 19 (by decide) gw_12_7 rfl dX8_next_194 0 rfl (rfl) rfl (Nat.le_of_ble_eq_true rfl) ?_
                    show X _ _ [(m, .inr (7, [.ref a_sky, .ref a_kind, .ref a_more, .ref a_strewn, .int (nI tn), .ref a_treeCell, .ref a_treeSort, .ref a_treeLeaves, .int i_raking, .long l_heaps, .int (nI tz), .ref a_tape, .int (nI wr), .int (nI lw), .ref a_code, .ref a_begins, .int i_made, .int (nI (p_pl tp tz a + k)), .int (nI (p_pl tp tz a)), .int 4, .int v9, .int i_open, .ref a_stack, .ref a_dry, .ref a_wet, .ref a_covered, .ref a_hangs, .ref a_off, .int i_fell, .int i_fellToday, .int i_rotten, .int i_raked, .int i_cost, .ref a_dryGo, .ref a_wetGo, .ref a_keptSky, .int i_imaged, .int (nI itn), .int i_oldRaking, .long l_oldHeaps, .int (nI ilw), .ref a_oldSky, .ref a_oldCells, .ref a_sheetSort, .ref a_sheetSize, .ref a_items, .ref a_spare])), (a_tape, .inl (cI, 160, .inl tp))] _ _ _
                    refine E dX8_next_197 ?_
                    exact ⟨(p_pl tp tz a + k), (p_pl tp tz a), 4, v9, rfl, rfl, ⟨by rw [(p_tk_dg hlt hdg).1, he9], rfl, by rw [p_so_dg hlt hdg, he9]; first | exact (if_pos (by omega)).symm | exact (if_neg (by omega)).symm, fun h9 => by rw [p_so_dg hlt hdg, he9] at h9; rw [(p_tk_dg hlt hdg).2.2, he9, hv9, show min k 4 = p_pl tp tz a + k - p_pl tp tz a by have : ¬ 4 < p_pl tp tz a + k - p_pl tp tz a := fun h8 => absurd (if_pos h8 ▸ h9) (by decide); omega], fun h9 => by rw [p_so_dg hlt hdg] at h9; exact absurd h9 (by split <;> decide)⟩⟩
                ·
                  have c9 : p_pl tp tz a + k < tz := q_ge_f rfl rfl (by omega) (by omega) c9
                  refine x_aload_n C dX8_next_110 0 rfl ?_
                  refine x_get C inlX8 rfl 11 (by decide) gw_11_1 dX8_next_111 0 rfl rfl ?_
                  refine x_aload_n C dX8_next_114 0 rfl ?_
                  refine x_get C inlX8 rfl 17 (by decide) gw_12_4 dX8_next_115 0 rfl rfl ?_
                  refine x_iaload C 0 rfl dX8_next_118 (p_pl tp tz a + k) (q_cl rfl (by omega)) (q_ix rfl (by omega) (by omega)) 1 rfl ?_
                  refine x_callS C (As := [.int (tp (p_pl tp tz a + k))]) (st := []) (wc := []) (wr := [(m, .inr (7, [.ref a_sky, .ref a_kind, .ref a_more, .ref a_strewn, .int (nI tn), .ref a_treeCell, .ref a_treeSort, .ref a_treeLeaves, .int i_raking, .long l_heaps, .int (nI tz), .ref a_tape, .int (nI wr), .int (nI lw), .ref a_code, .ref a_begins, .int i_made, .int (nI (p_pl tp tz a + k)), .int (nI (p_pl tp tz a)), .int i_sort, .int v9, .int i_open, .ref a_stack, .ref a_dry, .ref a_wet, .ref a_covered, .ref a_hangs, .ref a_off, .int i_fell, .int i_fellToday, .int i_rotten, .int i_raked, .int i_cost, .ref a_dryGo, .ref a_wetGo, .ref a_keptSky, .int i_imaged, .int (nI itn), .int i_oldRaking, .long l_oldHeaps, .int (nI ilw), .ref a_oldSky, .ref a_oldCells, .ref a_sheetSort, .ref a_sheetSize, .ref a_items, .ref a_spare])), (a_tape, .inl (cI, 160, .inl tp))]) (c_X8_isDigit l dG cI cM cW cS (tp (p_pl tp tz a + k)) ) rZ0_ok (fun _ _ _ _ => trivial) kS_X8_133 hy_X8_isDigit ⟨Nat.le_of_ble_eq_true rfl, Nat.le_of_ble_eq_true rfl⟩ ⟨Nat.le_of_ble_eq_true rfl, Nat.le_of_ble_eq_true rfl⟩ dX8_next_119 [] [0, 1] rfl rfl rfl rfl (by decide) rfl (Nat.le_of_ble_eq_true rfl) ?_
                  intro v11 w12 h13
                  rcases h13 with h13 | h13
                  ·
                    obtain ⟨rfl, rfl, hf14⟩ := h13
                    show X 0 0 [(m, .inr (7, [.ref a_sky, .ref a_kind, .ref a_more, .ref a_strewn, .int (nI tn), .ref a_treeCell, .ref a_treeSort, .ref a_treeLeaves, .int i_raking, .long l_heaps, .int (nI tz), .ref a_tape, .int (nI wr), .int (nI lw), .ref a_code, .ref a_begins, .int i_made, .int (nI (p_pl tp tz a + k)), .int (nI (p_pl tp tz a)), .int i_sort, .int v9, .int i_open, .ref a_stack, .ref a_dry, .ref a_wet, .ref a_covered, .ref a_hangs, .ref a_off, .int i_fell, .int i_fellToday, .int i_rotten, .int i_raked, .int i_cost, .ref a_dryGo, .ref a_wetGo, .ref a_keptSky, .int i_imaged, .int (nI itn), .int i_oldRaking, .long l_oldHeaps, .int (nI ilw), .ref a_oldSky, .ref a_oldCells, .ref a_sheetSort, .ref a_sheetSize, .ref a_items, .ref a_spare])), (a_tape, .inl (cI, 160, .inl tp))] [(0, .ref m)] 122 [.int 1]
                    have hdg2 := hf14
                    refine x_if_eq C dX8_next_122 (tgt := 175) rfl (fun q9 => absurd q9 (by decide)) (fun _ => ?_)
                    refine x_aload_n C dX8_next_125 0 rfl ?_
                    refine x_get C inlX8 rfl 17 (by decide) gw_12_4 dX8_next_126 0 rfl rfl ?_
                    refine x_aload_n C dX8_next_129 0 rfl ?_
                    refine x_get C inlX8 rfl 18 (by decide) gw_12_8 dX8_next_130 0 rfl rfl ?_
                    refine x_isub C dX8_next_133 ?_
                    refine x_iconst C dX8_next_134 (v := 4) rfl ?_
                    refine x_icmp_ge C dX8_next_135 (tgt := 162) rfl (fun c15 => ?_) (fun c15 => ?_)
                    ·
                      have c15 : (p_pl tp tz a + k) - (p_pl tp tz a) ≥ 4 := q_ge_t (q_isub (a := p_pl tp tz a + k) (b := p_pl tp tz a) rfl rfl (by omega)) (rfl : (4 : Int32) = nI 4) (by omega) (by omega) c15
                      refine x_aload_n C dX8_next_162 0 rfl ?_
                      refine x_dup C dX8_next_163 rfl ?_
                      refine x_get C inlX8 rfl 17 (by decide) gw_12_4 dX8_next_164 0 rfl rfl ?_
                      refine x_iconst C dX8_next_167 (v := 1) rfl ?_
                      refine x_iadd C dX8_next_168 ?_
                      refine x_topi C (nI ((p_pl tp tz a + k) + 1)) (q_iadd (a := p_pl tp tz a + k) (b := 1) rfl (rfl : (1 : Int32) = nI 1)) ?_
                      refine x_put C inlX8 rfl tyX8 tyX8_ok nmX8 17 (by decide) gw_12_4 rfl dX8_next_169 0 rfl (rfl) rfl (Nat.le_of_ble_eq_true rfl) ?_
                      show X _ _ [(m, .inr (7, [.ref a_sky, .ref a_kind, .ref a_more, .ref a_strewn, .int (nI tn), .ref a_treeCell, .ref a_treeSort, .ref a_treeLeaves, .int i_raking, .long l_heaps, .int (nI tz), .ref a_tape, .int (nI wr), .int (nI lw), .ref a_code, .ref a_begins, .int i_made, .int (nI ((p_pl tp tz a + k) + 1)), .int (nI (p_pl tp tz a)), .int i_sort, .int v9, .int i_open, .ref a_stack, .ref a_dry, .ref a_wet, .ref a_covered, .ref a_hangs, .ref a_off, .int i_fell, .int i_fellToday, .int i_rotten, .int i_raked, .int i_cost, .ref a_dryGo, .ref a_wetGo, .ref a_keptSky, .int i_imaged, .int (nI itn), .int i_oldRaking, .long l_oldHeaps, .int (nI ilw), .ref a_oldSky, .ref a_oldCells, .ref a_sheetSort, .ref a_sheetSize, .ref a_items, .ref a_spare])), (a_tape, .inl (cI, 160, .inl tp))] _ _ _
                      refine x_goto C dX8_next_172 (tgt := 99) rfl ?_
                      exact ihL99_7 (k + 1) v9 (by omega) (by first | exact p_num_m hv9 (by omega) | exact p_num_n hv9 (by omega)) ((p_sk_s (show p_pl tp tz a + k < tz by omega) hdg2).symm.trans hs9) (by omega)
                    ·
                      have c15 : (p_pl tp tz a + k) - (p_pl tp tz a) < 4 := q_ge_f (q_isub (a := p_pl tp tz a + k) (b := p_pl tp tz a) rfl rfl (by omega)) (rfl : (4 : Int32) = nI 4) (by omega) (by omega) c15
                      refine x_aload_n C dX8_next_138 0 rfl ?_
                      refine x_bipush C dX8_next_139 (v := 10) rfl ?_
                      refine x_aload_n C dX8_next_141 0 rfl ?_
                      refine x_get C inlX8 rfl 20 (by decide) gw_12_13 dX8_next_142 0 rfl rfl ?_
                      refine x_imul C dX8_next_145 ?_
                      refine x_aload_n C dX8_next_146 0 rfl ?_
                      refine x_get C inlX8 rfl 11 (by decide) gw_11_1 dX8_next_147 0 rfl rfl ?_
                      refine x_aload_n C dX8_next_150 0 rfl ?_
                      refine x_get C inlX8 rfl 17 (by decide) gw_12_4 dX8_next_151 0 rfl rfl ?_
                      refine x_iaload C 0 rfl dX8_next_154 (p_pl tp tz a + k) (q_cl rfl (by omega)) (q_ix rfl (by omega) (by omega)) 1 rfl ?_
                      show X _ _ _ _ 155 _
                      refine x_iadd C dX8_next_155 ?_
                      refine x_bipush C dX8_next_156 (v := 48) rfl ?_
                      refine x_isub C dX8_next_158 ?_
                      refine x_put C inlX8 rfl tyX8 tyX8_ok nmX8 20 (by decide) gw_12_13 rfl dX8_next_159 0 rfl (rfl) rfl (Nat.le_of_ble_eq_true rfl) ?_
                      show X _ _ [(m, .inr (7, [.ref a_sky, .ref a_kind, .ref a_more, .ref a_strewn, .int (nI tn), .ref a_treeCell, .ref a_treeSort, .ref a_treeLeaves, .int i_raking, .long l_heaps, .int (nI tz), .ref a_tape, .int (nI wr), .int (nI lw), .ref a_code, .ref a_begins, .int i_made, .int (nI (p_pl tp tz a + k)), .int (nI (p_pl tp tz a)), .int i_sort, .int (((10 * v9) + (tp (p_pl tp tz a + k))) - 48), .int i_open, .ref a_stack, .ref a_dry, .ref a_wet, .ref a_covered, .ref a_hangs, .ref a_off, .int i_fell, .int i_fellToday, .int i_rotten, .int i_raked, .int i_cost, .ref a_dryGo, .ref a_wetGo, .ref a_keptSky, .int i_imaged, .int (nI itn), .int i_oldRaking, .long l_oldHeaps, .int (nI ilw), .ref a_oldSky, .ref a_oldCells, .ref a_sheetSort, .ref a_sheetSize, .ref a_items, .ref a_spare])), (a_tape, .inl (cI, 160, .inl tp))] _ _ _
                      refine x_aload_n C dX8_next_162 0 rfl ?_
                      refine x_dup C dX8_next_163 rfl ?_
                      refine x_get C inlX8 rfl 17 (by decide) gw_12_4 dX8_next_164 0 rfl rfl ?_
                      refine x_iconst C dX8_next_167 (v := 1) rfl ?_
                      refine x_iadd C dX8_next_168 ?_
                      refine x_topi C (nI ((p_pl tp tz a + k) + 1)) (q_iadd (a := p_pl tp tz a + k) (b := 1) rfl (rfl : (1 : Int32) = nI 1)) ?_
                      refine x_put C inlX8 rfl tyX8 tyX8_ok nmX8 17 (by decide) gw_12_4 rfl dX8_next_169 0 rfl (rfl) rfl (Nat.le_of_ble_eq_true rfl) ?_
                      show X _ _ [(m, .inr (7, [.ref a_sky, .ref a_kind, .ref a_more, .ref a_strewn, .int (nI tn), .ref a_treeCell, .ref a_treeSort, .ref a_treeLeaves, .int i_raking, .long l_heaps, .int (nI tz), .ref a_tape, .int (nI wr), .int (nI lw), .ref a_code, .ref a_begins, .int i_made, .int (nI ((p_pl tp tz a + k) + 1)), .int (nI (p_pl tp tz a)), .int i_sort, .int (((10 * v9) + (tp (p_pl tp tz a + k))) - 48), .int i_open, .ref a_stack, .ref a_dry, .ref a_wet, .ref a_covered, .ref a_hangs, .ref a_off, .int i_fell, .int i_fellToday, .int i_rotten, .int i_raked, .int i_cost, .ref a_dryGo, .ref a_wetGo, .ref a_keptSky, .int i_imaged, .int (nI itn), .int i_oldRaking, .long l_oldHeaps, .int (nI ilw), .ref a_oldSky, .ref a_oldCells, .ref a_sheetSort, .ref a_sheetSize, .ref a_items, .ref a_spare])), (a_tape, .inl (cI, 160, .inl tp))] _ _ _
                      show X _ _ _ _ 172 _
                      refine x_goto C dX8_next_172 (tgt := 99) rfl ?_
                      exact ihL99_7 (k + 1) (((10 * v9) + (tp (p_pl tp tz a + k))) - 48) (by omega) (by first | exact p_num_m hv9 (by omega) | exact p_num_n hv9 (by omega)) ((p_sk_s (show p_pl tp tz a + k < tz by omega) hdg2).symm.trans hs9) (by omega)
                  ·
                    obtain ⟨rfl, rfl, hf16⟩ := h13
                    show X 0 0 [(m, .inr (7, [.ref a_sky, .ref a_kind, .ref a_more, .ref a_strewn, .int (nI tn), .ref a_treeCell, .ref a_treeSort, .ref a_treeLeaves, .int i_raking, .long l_heaps, .int (nI tz), .ref a_tape, .int (nI wr), .int (nI lw), .ref a_code, .ref a_begins, .int i_made, .int (nI (p_pl tp tz a + k)), .int (nI (p_pl tp tz a)), .int i_sort, .int v9, .int i_open, .ref a_stack, .ref a_dry, .ref a_wet, .ref a_covered, .ref a_hangs, .ref a_off, .int i_fell, .int i_fellToday, .int i_rotten, .int i_raked, .int i_cost, .ref a_dryGo, .ref a_wetGo, .ref a_keptSky, .int i_imaged, .int (nI itn), .int i_oldRaking, .long l_oldHeaps, .int (nI ilw), .ref a_oldSky, .ref a_oldCells, .ref a_sheetSort, .ref a_sheetSize, .ref a_items, .ref a_spare])), (a_tape, .inl (cI, 160, .inl tp))] [(0, .ref m)] 122 [.int 0]
                    have hdg2 := hf16
                    refine x_if_eq C dX8_next_122 (tgt := 175) rfl (fun _ => ?_) (fun q9 => by first | exact absurd q9 (by decide) | exact absurd (by decide) q9)
                    have he9 : p_sk p_dg tp tz (p_pl tp tz a) = p_pl tp tz a + k := by rw [← hs9]; first | exact p_sk_e (by omega) | exact p_sk_x (by assumption)
                    refine x_aload_n C dX8_next_175 0 rfl ?_
                    refine x_aload_n C dX8_next_176 0 rfl ?_
                    refine x_get C inlX8 rfl 17 (by decide) gw_12_4 dX8_next_177 0 rfl rfl ?_
                    refine x_aload_n C dX8_next_180 0 rfl ?_
                    refine x_get C inlX8 rfl 18 (by decide) gw_12_8 dX8_next_181 0 rfl rfl ?_
                    refine x_isub C dX8_next_184 ?_
                    refine x_iconst C dX8_next_185 (v := 4) rfl ?_
                    refine x_icmp_le C dX8_next_186 (tgt := 193) rfl (fun c17 => ?_) (fun c17 => ?_)
                    ·
                      have c17 : (p_pl tp tz a + k) - (p_pl tp tz a) ≤ 4 := q_le_t (q_isub (a := p_pl tp tz a + k) (b := p_pl tp tz a) rfl rfl (by omega)) (rfl : (4 : Int32) = nI 4) (by omega) (by omega) c17
                      refine x_iconst C dX8_next_193 (v := 1) rfl ?_
                      refine x_put C inlX8 rfl tyX8 tyX8_ok nmX8 19 (by decide) gw_12_7 rfl dX8_next_194 0 rfl (rfl) rfl (Nat.le_of_ble_eq_true rfl) ?_
                      show X _ _ [(m, .inr (7, [.ref a_sky, .ref a_kind, .ref a_more, .ref a_strewn, .int (nI tn), .ref a_treeCell, .ref a_treeSort, .ref a_treeLeaves, .int i_raking, .long l_heaps, .int (nI tz), .ref a_tape, .int (nI wr), .int (nI lw), .ref a_code, .ref a_begins, .int i_made, .int (nI (p_pl tp tz a + k)), .int (nI (p_pl tp tz a)), .int 1, .int v9, .int i_open, .ref a_stack, .ref a_dry, .ref a_wet, .ref a_covered, .ref a_hangs, .ref a_off, .int i_fell, .int i_fellToday, .int i_rotten, .int i_raked, .int i_cost, .ref a_dryGo, .ref a_wetGo, .ref a_keptSky, .int i_imaged, .int (nI itn), .int i_oldRaking, .long l_oldHeaps, .int (nI ilw), .ref a_oldSky, .ref a_oldCells, .ref a_sheetSort, .ref a_sheetSize, .ref a_items, .ref a_spare])), (a_tape, .inl (cI, 160, .inl tp))] _ _ _
                      refine E dX8_next_197 ?_
                      exact ⟨(p_pl tp tz a + k), (p_pl tp tz a), 1, v9, rfl, rfl, ⟨by rw [(p_tk_dg hlt hdg).1, he9], rfl, by rw [p_so_dg hlt hdg, he9]; first | exact (if_pos (by omega)).symm | exact (if_neg (by omega)).symm, fun h9 => by rw [p_so_dg hlt hdg, he9] at h9; rw [(p_tk_dg hlt hdg).2.2, he9, hv9, show min k 4 = p_pl tp tz a + k - p_pl tp tz a by have : ¬ 4 < p_pl tp tz a + k - p_pl tp tz a := fun h8 => absurd (if_pos h8 ▸ h9) (by decide); omega], fun h9 => by rw [p_so_dg hlt hdg] at h9; exact absurd h9 (by split <;> decide)⟩⟩
                    ·
                      have c17 : (p_pl tp tz a + k) - (p_pl tp tz a) > 4 := q_le_f (q_isub (a := p_pl tp tz a + k) (b := p_pl tp tz a) rfl rfl (by omega)) (rfl : (4 : Int32) = nI 4) (by omega) (by omega) c17
                      refine x_iconst C dX8_next_189 (v := 4) rfl ?_
                      refine x_goto C dX8_next_190 (tgt := 194) rfl ?_
                      refine x_put C inlX8 rfl tyX8 tyX8_ok nmX8 19 (by decide) gw_12_7 rfl dX8_next_194 0 rfl (rfl) rfl (Nat.le_of_ble_eq_true rfl) ?_
                      show X _ _ [(m, .inr (7, [.ref a_sky, .ref a_kind, .ref a_more, .ref a_strewn, .int (nI tn), .ref a_treeCell, .ref a_treeSort, .ref a_treeLeaves, .int i_raking, .long l_heaps, .int (nI tz), .ref a_tape, .int (nI wr), .int (nI lw), .ref a_code, .ref a_begins, .int i_made, .int (nI (p_pl tp tz a + k)), .int (nI (p_pl tp tz a)), .int 4, .int v9, .int i_open, .ref a_stack, .ref a_dry, .ref a_wet, .ref a_covered, .ref a_hangs, .ref a_off, .int i_fell, .int i_fellToday, .int i_rotten, .int i_raked, .int i_cost, .ref a_dryGo, .ref a_wetGo, .ref a_keptSky, .int i_imaged, .int (nI itn), .int i_oldRaking, .long l_oldHeaps, .int (nI ilw), .ref a_oldSky, .ref a_oldCells, .ref a_sheetSort, .ref a_sheetSize, .ref a_items, .ref a_spare])), (a_tape, .inl (cI, 160, .inl tp))] _ _ _
                      refine E dX8_next_197 ?_
                      exact ⟨(p_pl tp tz a + k), (p_pl tp tz a), 4, v9, rfl, rfl, ⟨by rw [(p_tk_dg hlt hdg).1, he9], rfl, by rw [p_so_dg hlt hdg, he9]; first | exact (if_pos (by omega)).symm | exact (if_neg (by omega)).symm, fun h9 => by rw [p_so_dg hlt hdg, he9] at h9; rw [(p_tk_dg hlt hdg).2.2, he9, hv9, show min k 4 = p_pl tp tz a + k - p_pl tp tz a by have : ¬ 4 < p_pl tp tz a + k - p_pl tp tz a := fun h8 => absurd (if_pos h8 ▸ h9) (by decide); omega], fun h9 => by rw [p_so_dg hlt hdg] at h9; exact absurd h9 (by split <;> decide)⟩⟩
            refine x_lv C [1] (lv' := [(0, .ref m)]) rfl ?_
            rw [show (nI (p_pl tp tz a) : Int32) = nI (p_pl tp tz a + 0) from rfl.trans (congrArg nI (by omega))]
            show X 0 0 [(m, .inr (7, [.ref a_sky, .ref a_kind, .ref a_more, .ref a_strewn, .int (nI tn), .ref a_treeCell, .ref a_treeSort, .ref a_treeLeaves, .int i_raking, .long l_heaps, .int (nI tz), .ref a_tape, .int (nI wr), .int (nI lw), .ref a_code, .ref a_begins, .int i_made, .int (nI (p_pl tp tz a + 0)), .int (nI (p_pl tp tz a)), .int i_sort, .int 0, .int i_open, .ref a_stack, .ref a_dry, .ref a_wet, .ref a_covered, .ref a_hangs, .ref a_off, .int i_fell, .int i_fellToday, .int i_rotten, .int i_raked, .int i_cost, .ref a_dryGo, .ref a_wetGo, .ref a_keptSky, .int i_imaged, .int (nI itn), .int i_oldRaking, .long l_oldHeaps, .int (nI ilw), .ref a_oldSky, .ref a_oldCells, .ref a_sheetSort, .ref a_sheetSize, .ref a_items, .ref a_spare])), (a_tape, .inl (cI, 160, .inl tp))] [(0, .ref m)] 99 []
            exact L99_7 ((tz - (p_pl tp tz a + 0)) + 1) 0 0 (by omega) (rfl) (rfl) (Nat.lt_succ_self _)
          ·
            obtain ⟨rfl, rfl, hf18⟩ := h6
            show X 0 0 [(m, .inr (7, [.ref a_sky, .ref a_kind, .ref a_more, .ref a_strewn, .int (nI tn), .ref a_treeCell, .ref a_treeSort, .ref a_treeLeaves, .int i_raking, .long l_heaps, .int (nI tz), .ref a_tape, .int (nI wr), .int (nI lw), .ref a_code, .ref a_begins, .int i_made, .int (nI (p_pl tp tz a)), .int (nI (p_pl tp tz a)), .int i_sort, .int i_value, .int i_open, .ref a_stack, .ref a_dry, .ref a_wet, .ref a_covered, .ref a_hangs, .ref a_off, .int i_fell, .int i_fellToday, .int i_rotten, .int i_raked, .int i_cost, .ref a_dryGo, .ref a_wetGo, .ref a_keptSky, .int i_imaged, .int (nI itn), .int i_oldRaking, .long l_oldHeaps, .int (nI ilw), .ref a_oldSky, .ref a_oldCells, .ref a_sheetSort, .ref a_sheetSize, .ref a_items, .ref a_spare])), (a_tape, .inl (cI, 160, .inl tp))] [(1, .int (tp (p_pl tp tz a))), (0, .ref m)] 91 [.int 0]
            have hlt : p_pl tp tz a < tz := by omega
            have hndg := hf18
            refine x_if_eq C dX8_next_91 (tgt := 198) rfl (fun _ => ?_) (fun q9 => by first | exact absurd q9 (by decide) | exact absurd (by decide) q9)
            refine x_iload_n C dX8_next_198 0 rfl ?_
            refine x_callS C (As := [.int (tp (p_pl tp tz a))]) (st := []) (wc := []) (wr := [(m, .inr (7, [.ref a_sky, .ref a_kind, .ref a_more, .ref a_strewn, .int (nI tn), .ref a_treeCell, .ref a_treeSort, .ref a_treeLeaves, .int i_raking, .long l_heaps, .int (nI tz), .ref a_tape, .int (nI wr), .int (nI lw), .ref a_code, .ref a_begins, .int i_made, .int (nI (p_pl tp tz a)), .int (nI (p_pl tp tz a)), .int i_sort, .int i_value, .int i_open, .ref a_stack, .ref a_dry, .ref a_wet, .ref a_covered, .ref a_hangs, .ref a_off, .int i_fell, .int i_fellToday, .int i_rotten, .int i_raked, .int i_cost, .ref a_dryGo, .ref a_wetGo, .ref a_keptSky, .int i_imaged, .int (nI itn), .int i_oldRaking, .long l_oldHeaps, .int (nI ilw), .ref a_oldSky, .ref a_oldCells, .ref a_sheetSort, .ref a_sheetSize, .ref a_items, .ref a_spare])), (a_tape, .inl (cI, 160, .inl tp))]) (c_X8_isLetter l dG cI cM cW cS (tp (p_pl tp tz a)) ) rZ0_ok (fun _ _ _ _ => trivial) kS_X8_140 hy_X8_isLetter ⟨Nat.le_of_ble_eq_true rfl, Nat.le_of_ble_eq_true rfl⟩ ⟨Nat.le_of_ble_eq_true rfl, Nat.le_of_ble_eq_true rfl⟩ dX8_next_199 [] [0, 1] rfl rfl rfl rfl (by decide) rfl (Nat.le_of_ble_eq_true rfl) ?_
            intro v19 w20 h21
            rcases h21 with h21 | h21
            ·
              obtain ⟨rfl, rfl, hf22⟩ := h21
              show X 0 0 [(m, .inr (7, [.ref a_sky, .ref a_kind, .ref a_more, .ref a_strewn, .int (nI tn), .ref a_treeCell, .ref a_treeSort, .ref a_treeLeaves, .int i_raking, .long l_heaps, .int (nI tz), .ref a_tape, .int (nI wr), .int (nI lw), .ref a_code, .ref a_begins, .int i_made, .int (nI (p_pl tp tz a)), .int (nI (p_pl tp tz a)), .int i_sort, .int i_value, .int i_open, .ref a_stack, .ref a_dry, .ref a_wet, .ref a_covered, .ref a_hangs, .ref a_off, .int i_fell, .int i_fellToday, .int i_rotten, .int i_raked, .int i_cost, .ref a_dryGo, .ref a_wetGo, .ref a_keptSky, .int i_imaged, .int (nI itn), .int i_oldRaking, .long l_oldHeaps, .int (nI ilw), .ref a_oldSky, .ref a_oldCells, .ref a_sheetSort, .ref a_sheetSize, .ref a_items, .ref a_spare])), (a_tape, .inl (cI, 160, .inl tp))] [(1, .int (tp (p_pl tp tz a))), (0, .ref m)] 202 [.int 1]
              have hle := hf22
              refine x_if_eq C dX8_next_202 (tgt := 250) rfl (fun q9 => absurd q9 (by decide)) (fun _ => ?_)
              have L205_22 : ∀ (fuel : Nat) (e : Nat), (hqe : p_pl tp tz a ≤ e) → (hen : e ≤ tz) → (hs9 : p_sk p_le tp tz e = p_sk p_le tp tz (p_pl tp tz a)) → tz - e < fuel → X 0 0 [(m, .inr (7, [.ref a_sky, .ref a_kind, .ref a_more, .ref a_strewn, .int (nI tn), .ref a_treeCell, .ref a_treeSort, .ref a_treeLeaves, .int i_raking, .long l_heaps, .int (nI tz), .ref a_tape, .int (nI wr), .int (nI lw), .ref a_code, .ref a_begins, .int i_made, .int (nI e), .int (nI (p_pl tp tz a)), .int i_sort, .int i_value, .int i_open, .ref a_stack, .ref a_dry, .ref a_wet, .ref a_covered, .ref a_hangs, .ref a_off, .int i_fell, .int i_fellToday, .int i_rotten, .int i_raked, .int i_cost, .ref a_dryGo, .ref a_wetGo, .ref a_keptSky, .int i_imaged, .int (nI itn), .int i_oldRaking, .long l_oldHeaps, .int (nI ilw), .ref a_oldSky, .ref a_oldCells, .ref a_sheetSort, .ref a_sheetSize, .ref a_items, .ref a_spare])), (a_tape, .inl (cI, 160, .inl tp))] [(0, .ref m)] 205 [] := by
                intro fuel
                induction fuel with
                | zero => intros; omega
                | succ fuel ihL205_22 =>
                  intro e hqe hen hs9 hfu
                  refine x_aload_n C dX8_next_205 0 rfl ?_
                  refine x_get C inlX8 rfl 17 (by decide) gw_12_4 dX8_next_206 0 rfl rfl ?_
                  refine x_aload_n C dX8_next_209 0 rfl ?_
                  refine x_get C inlX8 rfl 10 (by decide) gw_11_20 dX8_next_210 0 rfl rfl ?_
                  refine x_icmp_ge C dX8_next_213 (tgt := 244) rfl (fun c24 => ?_) (fun c24 => ?_)
                  ·
                    have c24 : e ≥ tz := q_ge_t rfl rfl (by omega) (by omega) c24
                    have he9 : p_sk p_le tp tz (p_pl tp tz a) = e := by rw [← hs9]; first | exact p_sk_e (by omega) | exact p_sk_x (by assumption)
                    refine x_aload_n C dX8_next_244 0 rfl ?_
                    refine x_iconst C dX8_next_245 (v := 2) rfl ?_
                    refine x_put C inlX8 rfl tyX8 tyX8_ok nmX8 19 (by decide) gw_12_7 rfl dX8_next_246 0 rfl (rfl) rfl (Nat.le_of_ble_eq_true rfl) ?_
                    show X _ _ [(m, .inr (7, [.ref a_sky, .ref a_kind, .ref a_more, .ref a_strewn, .int (nI tn), .ref a_treeCell, .ref a_treeSort, .ref a_treeLeaves, .int i_raking, .long l_heaps, .int (nI tz), .ref a_tape, .int (nI wr), .int (nI lw), .ref a_code, .ref a_begins, .int i_made, .int (nI e), .int (nI (p_pl tp tz a)), .int 2, .int i_value, .int i_open, .ref a_stack, .ref a_dry, .ref a_wet, .ref a_covered, .ref a_hangs, .ref a_off, .int i_fell, .int i_fellToday, .int i_rotten, .int i_raked, .int i_cost, .ref a_dryGo, .ref a_wetGo, .ref a_keptSky, .int i_imaged, .int (nI itn), .int i_oldRaking, .long l_oldHeaps, .int (nI ilw), .ref a_oldSky, .ref a_oldCells, .ref a_sheetSort, .ref a_sheetSize, .ref a_items, .ref a_spare])), (a_tape, .inl (cI, 160, .inl tp))] _ _ _
                    refine E dX8_next_249 ?_
                    exact ⟨e, (p_pl tp tz a), 2, i_value, rfl, rfl, ⟨by rw [(p_tk_le hlt hndg hle).1, he9], rfl, (p_so_le hlt hndg hle).symm, fun h9 => by rw [p_so_le hlt hndg hle] at h9; exact absurd h9 (by decide), fun h9 => by rw [p_so_le hlt hndg hle] at h9; exact absurd h9 (by decide)⟩⟩
                  ·
                    have c24 : e < tz := q_ge_f rfl rfl (by omega) (by omega) c24
                    refine x_aload_n C dX8_next_216 0 rfl ?_
                    refine x_get C inlX8 rfl 11 (by decide) gw_11_1 dX8_next_217 0 rfl rfl ?_
                    refine x_aload_n C dX8_next_220 0 rfl ?_
                    refine x_get C inlX8 rfl 17 (by decide) gw_12_4 dX8_next_221 0 rfl rfl ?_
                    refine x_iaload C 0 rfl dX8_next_224 e (q_cl rfl (by omega)) (q_ix rfl (by omega) (by omega)) 1 rfl ?_
                    refine x_callS C (As := [.int (tp e)]) (st := []) (wc := []) (wr := [(m, .inr (7, [.ref a_sky, .ref a_kind, .ref a_more, .ref a_strewn, .int (nI tn), .ref a_treeCell, .ref a_treeSort, .ref a_treeLeaves, .int i_raking, .long l_heaps, .int (nI tz), .ref a_tape, .int (nI wr), .int (nI lw), .ref a_code, .ref a_begins, .int i_made, .int (nI e), .int (nI (p_pl tp tz a)), .int i_sort, .int i_value, .int i_open, .ref a_stack, .ref a_dry, .ref a_wet, .ref a_covered, .ref a_hangs, .ref a_off, .int i_fell, .int i_fellToday, .int i_rotten, .int i_raked, .int i_cost, .ref a_dryGo, .ref a_wetGo, .ref a_keptSky, .int i_imaged, .int (nI itn), .int i_oldRaking, .long l_oldHeaps, .int (nI ilw), .ref a_oldSky, .ref a_oldCells, .ref a_sheetSort, .ref a_sheetSize, .ref a_items, .ref a_spare])), (a_tape, .inl (cI, 160, .inl tp))]) (c_X8_isLetter l dG cI cM cW cS (tp e) ) rZ0_ok (fun _ _ _ _ => trivial) kS_X8_140 hy_X8_isLetter ⟨Nat.le_of_ble_eq_true rfl, Nat.le_of_ble_eq_true rfl⟩ ⟨Nat.le_of_ble_eq_true rfl, Nat.le_of_ble_eq_true rfl⟩ dX8_next_225 [] [0, 1] rfl rfl rfl rfl (by decide) rfl (Nat.le_of_ble_eq_true rfl) ?_
                    intro v25 w26 h27
                    rcases h27 with h27 | h27
                    ·
                      obtain ⟨rfl, rfl, hf28⟩ := h27
                      show X 0 0 [(m, .inr (7, [.ref a_sky, .ref a_kind, .ref a_more, .ref a_strewn, .int (nI tn), .ref a_treeCell, .ref a_treeSort, .ref a_treeLeaves, .int i_raking, .long l_heaps, .int (nI tz), .ref a_tape, .int (nI wr), .int (nI lw), .ref a_code, .ref a_begins, .int i_made, .int (nI e), .int (nI (p_pl tp tz a)), .int i_sort, .int i_value, .int i_open, .ref a_stack, .ref a_dry, .ref a_wet, .ref a_covered, .ref a_hangs, .ref a_off, .int i_fell, .int i_fellToday, .int i_rotten, .int i_raked, .int i_cost, .ref a_dryGo, .ref a_wetGo, .ref a_keptSky, .int i_imaged, .int (nI itn), .int i_oldRaking, .long l_oldHeaps, .int (nI ilw), .ref a_oldSky, .ref a_oldCells, .ref a_sheetSort, .ref a_sheetSize, .ref a_items, .ref a_spare])), (a_tape, .inl (cI, 160, .inl tp))] [(0, .ref m)] 228 [.int 1]
                      have hle2 := hf28
                      refine x_if_eq C dX8_next_228 (tgt := 244) rfl (fun q9 => absurd q9 (by decide)) (fun _ => ?_)
                      refine x_aload_n C dX8_next_231 0 rfl ?_
                      refine x_dup C dX8_next_232 rfl ?_
                      refine x_get C inlX8 rfl 17 (by decide) gw_12_4 dX8_next_233 0 rfl rfl ?_
                      refine x_iconst C dX8_next_236 (v := 1) rfl ?_
                      refine x_iadd C dX8_next_237 ?_
                      refine x_topi C (nI (e + 1)) (q_iadd (a := e) (b := 1) rfl (rfl : (1 : Int32) = nI 1)) ?_
                      refine x_put C inlX8 rfl tyX8 tyX8_ok nmX8 17 (by decide) gw_12_4 rfl dX8_next_238 0 rfl (rfl) rfl (Nat.le_of_ble_eq_true rfl) ?_
                      show X _ _ [(m, .inr (7, [.ref a_sky, .ref a_kind, .ref a_more, .ref a_strewn, .int (nI tn), .ref a_treeCell, .ref a_treeSort, .ref a_treeLeaves, .int i_raking, .long l_heaps, .int (nI tz), .ref a_tape, .int (nI wr), .int (nI lw), .ref a_code, .ref a_begins, .int i_made, .int (nI (e + 1)), .int (nI (p_pl tp tz a)), .int i_sort, .int i_value, .int i_open, .ref a_stack, .ref a_dry, .ref a_wet, .ref a_covered, .ref a_hangs, .ref a_off, .int i_fell, .int i_fellToday, .int i_rotten, .int i_raked, .int i_cost, .ref a_dryGo, .ref a_wetGo, .ref a_keptSky, .int i_imaged, .int (nI itn), .int i_oldRaking, .long l_oldHeaps, .int (nI ilw), .ref a_oldSky, .ref a_oldCells, .ref a_sheetSort, .ref a_sheetSize, .ref a_items, .ref a_spare])), (a_tape, .inl (cI, 160, .inl tp))] _ _ _
                      refine x_goto C dX8_next_241 (tgt := 205) rfl ?_
                      exact ihL205_22 (e + 1) (by omega) (by omega) ((p_sk_s (show e < tz by omega) hle2).symm.trans hs9) (by omega)
                    ·
                      obtain ⟨rfl, rfl, hf29⟩ := h27
                      show X 0 0 [(m, .inr (7, [.ref a_sky, .ref a_kind, .ref a_more, .ref a_strewn, .int (nI tn), .ref a_treeCell, .ref a_treeSort, .ref a_treeLeaves, .int i_raking, .long l_heaps, .int (nI tz), .ref a_tape, .int (nI wr), .int (nI lw), .ref a_code, .ref a_begins, .int i_made, .int (nI e), .int (nI (p_pl tp tz a)), .int i_sort, .int i_value, .int i_open, .ref a_stack, .ref a_dry, .ref a_wet, .ref a_covered, .ref a_hangs, .ref a_off, .int i_fell, .int i_fellToday, .int i_rotten, .int i_raked, .int i_cost, .ref a_dryGo, .ref a_wetGo, .ref a_keptSky, .int i_imaged, .int (nI itn), .int i_oldRaking, .long l_oldHeaps, .int (nI ilw), .ref a_oldSky, .ref a_oldCells, .ref a_sheetSort, .ref a_sheetSize, .ref a_items, .ref a_spare])), (a_tape, .inl (cI, 160, .inl tp))] [(0, .ref m)] 228 [.int 0]
                      have hle2 := hf29
                      refine x_if_eq C dX8_next_228 (tgt := 244) rfl (fun _ => ?_) (fun q9 => by first | exact absurd q9 (by decide) | exact absurd (by decide) q9)
                      have he9 : p_sk p_le tp tz (p_pl tp tz a) = e := by rw [← hs9]; first | exact p_sk_e (by omega) | exact p_sk_x (by assumption)
                      refine x_aload_n C dX8_next_244 0 rfl ?_
                      refine x_iconst C dX8_next_245 (v := 2) rfl ?_
                      refine x_put C inlX8 rfl tyX8 tyX8_ok nmX8 19 (by decide) gw_12_7 rfl dX8_next_246 0 rfl (rfl) rfl (Nat.le_of_ble_eq_true rfl) ?_
                      show X _ _ [(m, .inr (7, [.ref a_sky, .ref a_kind, .ref a_more, .ref a_strewn, .int (nI tn), .ref a_treeCell, .ref a_treeSort, .ref a_treeLeaves, .int i_raking, .long l_heaps, .int (nI tz), .ref a_tape, .int (nI wr), .int (nI lw), .ref a_code, .ref a_begins, .int i_made, .int (nI e), .int (nI (p_pl tp tz a)), .int 2, .int i_value, .int i_open, .ref a_stack, .ref a_dry, .ref a_wet, .ref a_covered, .ref a_hangs, .ref a_off, .int i_fell, .int i_fellToday, .int i_rotten, .int i_raked, .int i_cost, .ref a_dryGo, .ref a_wetGo, .ref a_keptSky, .int i_imaged, .int (nI itn), .int i_oldRaking, .long l_oldHeaps, .int (nI ilw), .ref a_oldSky, .ref a_oldCells, .ref a_sheetSort, .ref a_sheetSize, .ref a_items, .ref a_spare])), (a_tape, .inl (cI, 160, .inl tp))] _ _ _
                      refine E dX8_next_249 ?_
                      exact ⟨e, (p_pl tp tz a), 2, i_value, rfl, rfl, ⟨by rw [(p_tk_le hlt hndg hle).1, he9], rfl, (p_so_le hlt hndg hle).symm, fun h9 => by rw [p_so_le hlt hndg hle] at h9; exact absurd h9 (by decide), fun h9 => by rw [p_so_le hlt hndg hle] at h9; exact absurd h9 (by decide)⟩⟩
              refine x_lv C [1] (lv' := [(0, .ref m)]) rfl ?_
              exact L205_22 ((tz - (p_pl tp tz a)) + 1) (p_pl tp tz a) (by omega) (by omega) (rfl) (Nat.lt_succ_self _)
            ·
              obtain ⟨rfl, rfl, hf30⟩ := h21
              show X 0 0 [(m, .inr (7, [.ref a_sky, .ref a_kind, .ref a_more, .ref a_strewn, .int (nI tn), .ref a_treeCell, .ref a_treeSort, .ref a_treeLeaves, .int i_raking, .long l_heaps, .int (nI tz), .ref a_tape, .int (nI wr), .int (nI lw), .ref a_code, .ref a_begins, .int i_made, .int (nI (p_pl tp tz a)), .int (nI (p_pl tp tz a)), .int i_sort, .int i_value, .int i_open, .ref a_stack, .ref a_dry, .ref a_wet, .ref a_covered, .ref a_hangs, .ref a_off, .int i_fell, .int i_fellToday, .int i_rotten, .int i_raked, .int i_cost, .ref a_dryGo, .ref a_wetGo, .ref a_keptSky, .int i_imaged, .int (nI itn), .int i_oldRaking, .long l_oldHeaps, .int (nI ilw), .ref a_oldSky, .ref a_oldCells, .ref a_sheetSort, .ref a_sheetSize, .ref a_items, .ref a_spare])), (a_tape, .inl (cI, 160, .inl tp))] [(1, .int (tp (p_pl tp tz a))), (0, .ref m)] 202 [.int 0]
              have hnle := hf30
              refine x_if_eq C dX8_next_202 (tgt := 250) rfl (fun _ => ?_) (fun q9 => by first | exact absurd q9 (by decide) | exact absurd (by decide) q9)
              refine x_aload_n C dX8_next_250 1 rfl ?_
              refine x_dup C dX8_next_251 rfl ?_
              refine x_get C inlX8 rfl 17 (by decide) gw_12_4 dX8_next_252 0 rfl rfl ?_
              refine x_iconst C dX8_next_255 (v := 1) rfl ?_
              refine x_iadd C dX8_next_256 ?_
              refine x_topi C (nI ((p_pl tp tz a) + 1)) (q_iadd (a := p_pl tp tz a) (b := 1) rfl (rfl : (1 : Int32) = nI 1)) ?_
              refine x_put C inlX8 rfl tyX8 tyX8_ok nmX8 17 (by decide) gw_12_4 rfl dX8_next_257 0 rfl (rfl) rfl (Nat.le_of_ble_eq_true rfl) ?_
              show X _ _ [(m, .inr (7, [.ref a_sky, .ref a_kind, .ref a_more, .ref a_strewn, .int (nI tn), .ref a_treeCell, .ref a_treeSort, .ref a_treeLeaves, .int i_raking, .long l_heaps, .int (nI tz), .ref a_tape, .int (nI wr), .int (nI lw), .ref a_code, .ref a_begins, .int i_made, .int (nI ((p_pl tp tz a) + 1)), .int (nI (p_pl tp tz a)), .int i_sort, .int i_value, .int i_open, .ref a_stack, .ref a_dry, .ref a_wet, .ref a_covered, .ref a_hangs, .ref a_off, .int i_fell, .int i_fellToday, .int i_rotten, .int i_raked, .int i_cost, .ref a_dryGo, .ref a_wetGo, .ref a_keptSky, .int i_imaged, .int (nI itn), .int i_oldRaking, .long l_oldHeaps, .int (nI ilw), .ref a_oldSky, .ref a_oldCells, .ref a_sheetSort, .ref a_sheetSize, .ref a_items, .ref a_spare])), (a_tape, .inl (cI, 160, .inl tp))] _ _ _
              refine x_aload_n C dX8_next_260 1 rfl ?_
              refine x_iload_n C dX8_next_261 0 rfl ?_
              refine x_put C inlX8 rfl tyX8 tyX8_ok nmX8 20 (by decide) gw_12_13 rfl dX8_next_262 0 rfl (rfl) rfl (Nat.le_of_ble_eq_true rfl) ?_
              show X _ _ [(m, .inr (7, [.ref a_sky, .ref a_kind, .ref a_more, .ref a_strewn, .int (nI tn), .ref a_treeCell, .ref a_treeSort, .ref a_treeLeaves, .int i_raking, .long l_heaps, .int (nI tz), .ref a_tape, .int (nI wr), .int (nI lw), .ref a_code, .ref a_begins, .int i_made, .int (nI ((p_pl tp tz a) + 1)), .int (nI (p_pl tp tz a)), .int i_sort, .int (tp (p_pl tp tz a)), .int i_open, .ref a_stack, .ref a_dry, .ref a_wet, .ref a_covered, .ref a_hangs, .ref a_off, .int i_fell, .int i_fellToday, .int i_rotten, .int i_raked, .int i_cost, .ref a_dryGo, .ref a_wetGo, .ref a_keptSky, .int i_imaged, .int (nI itn), .int i_oldRaking, .long l_oldHeaps, .int (nI ilw), .ref a_oldSky, .ref a_oldCells, .ref a_sheetSort, .ref a_sheetSize, .ref a_items, .ref a_spare])), (a_tape, .inl (cI, 160, .inl tp))] _ _ _
              show X _ _ _ _ 265 _
              refine x_aload_n C dX8_next_265 1 rfl ?_
              refine x_iload_n C dX8_next_266 0 rfl ?_
              refine x_bipush C dX8_next_267 (v := 40) rfl ?_
              refine x_icmp_eq C dX8_next_269 (tgt := 314) rfl (fun c31 => ?_) (fun c31 => ?_)
              ·
                have h40 := c31
                have hsg : p_sg (tp (p_pl tp tz a)) = true := p_sg_t (by first | exact Or.inl h40 | exact Or.inr (Or.inl h41) | exact Or.inr (Or.inr (Or.inl h59)) | exact Or.inr (Or.inr (Or.inr (Or.inl h43))) | exact Or.inr (Or.inr (Or.inr (Or.inr (Or.inl h45)))) | exact Or.inr (Or.inr (Or.inr (Or.inr (Or.inr (Or.inl h42))))) | exact Or.inr (Or.inr (Or.inr (Or.inr (Or.inr (Or.inr (Or.inl h60)))))) | exact Or.inr (Or.inr (Or.inr (Or.inr (Or.inr (Or.inr (Or.inr h61)))))))
                refine x_iconst C dX8_next_314 (v := 3) rfl ?_
                refine x_goto C dX8_next_315 (tgt := 319) rfl ?_
                refine x_put C inlX8 rfl tyX8 tyX8_ok nmX8 19 (by decide) gw_12_7 rfl dX8_next_319 0 rfl (rfl) rfl (Nat.le_of_ble_eq_true rfl) ?_
                show X _ _ [(m, .inr (7, [.ref a_sky, .ref a_kind, .ref a_more, .ref a_strewn, .int (nI tn), .ref a_treeCell, .ref a_treeSort, .ref a_treeLeaves, .int i_raking, .long l_heaps, .int (nI tz), .ref a_tape, .int (nI wr), .int (nI lw), .ref a_code, .ref a_begins, .int i_made, .int (nI ((p_pl tp tz a) + 1)), .int (nI (p_pl tp tz a)), .int 3, .int (tp (p_pl tp tz a)), .int i_open, .ref a_stack, .ref a_dry, .ref a_wet, .ref a_covered, .ref a_hangs, .ref a_off, .int i_fell, .int i_fellToday, .int i_rotten, .int i_raked, .int i_cost, .ref a_dryGo, .ref a_wetGo, .ref a_keptSky, .int i_imaged, .int (nI itn), .int i_oldRaking, .long l_oldHeaps, .int (nI ilw), .ref a_oldSky, .ref a_oldCells, .ref a_sheetSort, .ref a_sheetSize, .ref a_items, .ref a_spare])), (a_tape, .inl (cI, 160, .inl tp))] _ _ _
                refine E dX8_next_322 ?_
                exact ⟨((p_pl tp tz a) + 1), (p_pl tp tz a), 3, (tp (p_pl tp tz a)), rfl, rfl, ⟨(p_tk_sg hlt hndg hnle).1.symm, rfl, by rw [p_so_sg hlt hndg hnle]; first | exact (if_pos hsg).symm | exact (if_neg hsg).symm, fun h9 => by rw [p_so_sg hlt hndg hnle] at h9; exact absurd h9 (by split <;> decide), fun _ => rfl⟩⟩
              ·
                have h40 := c31
                refine x_iload_n C dX8_next_272 0 rfl ?_
                refine x_bipush C dX8_next_273 (v := 41) rfl ?_
                refine x_icmp_eq C dX8_next_275 (tgt := 314) rfl (fun c32 => ?_) (fun c32 => ?_)
                ·
                  have h41 := c32
                  have hsg : p_sg (tp (p_pl tp tz a)) = true := p_sg_t (by first | exact Or.inl h40 | exact Or.inr (Or.inl h41) | exact Or.inr (Or.inr (Or.inl h59)) | exact Or.inr (Or.inr (Or.inr (Or.inl h43))) | exact Or.inr (Or.inr (Or.inr (Or.inr (Or.inl h45)))) | exact Or.inr (Or.inr (Or.inr (Or.inr (Or.inr (Or.inl h42))))) | exact Or.inr (Or.inr (Or.inr (Or.inr (Or.inr (Or.inr (Or.inl h60)))))) | exact Or.inr (Or.inr (Or.inr (Or.inr (Or.inr (Or.inr (Or.inr h61)))))))
                  refine x_iconst C dX8_next_314 (v := 3) rfl ?_
                  refine x_goto C dX8_next_315 (tgt := 319) rfl ?_
                  refine x_put C inlX8 rfl tyX8 tyX8_ok nmX8 19 (by decide) gw_12_7 rfl dX8_next_319 0 rfl (rfl) rfl (Nat.le_of_ble_eq_true rfl) ?_
                  show X _ _ [(m, .inr (7, [.ref a_sky, .ref a_kind, .ref a_more, .ref a_strewn, .int (nI tn), .ref a_treeCell, .ref a_treeSort, .ref a_treeLeaves, .int i_raking, .long l_heaps, .int (nI tz), .ref a_tape, .int (nI wr), .int (nI lw), .ref a_code, .ref a_begins, .int i_made, .int (nI ((p_pl tp tz a) + 1)), .int (nI (p_pl tp tz a)), .int 3, .int (tp (p_pl tp tz a)), .int i_open, .ref a_stack, .ref a_dry, .ref a_wet, .ref a_covered, .ref a_hangs, .ref a_off, .int i_fell, .int i_fellToday, .int i_rotten, .int i_raked, .int i_cost, .ref a_dryGo, .ref a_wetGo, .ref a_keptSky, .int i_imaged, .int (nI itn), .int i_oldRaking, .long l_oldHeaps, .int (nI ilw), .ref a_oldSky, .ref a_oldCells, .ref a_sheetSort, .ref a_sheetSize, .ref a_items, .ref a_spare])), (a_tape, .inl (cI, 160, .inl tp))] _ _ _
                  refine E dX8_next_322 ?_
                  exact ⟨((p_pl tp tz a) + 1), (p_pl tp tz a), 3, (tp (p_pl tp tz a)), rfl, rfl, ⟨(p_tk_sg hlt hndg hnle).1.symm, rfl, by rw [p_so_sg hlt hndg hnle]; first | exact (if_pos hsg).symm | exact (if_neg hsg).symm, fun h9 => by rw [p_so_sg hlt hndg hnle] at h9; exact absurd h9 (by split <;> decide), fun _ => rfl⟩⟩
                ·
                  have h41 := c32
                  refine x_iload_n C dX8_next_278 0 rfl ?_
                  refine x_bipush C dX8_next_279 (v := 59) rfl ?_
                  refine x_icmp_eq C dX8_next_281 (tgt := 314) rfl (fun c33 => ?_) (fun c33 => ?_)
                  ·
                    have h59 := c33
                    have hsg : p_sg (tp (p_pl tp tz a)) = true := p_sg_t (by first | exact Or.inl h40 | exact Or.inr (Or.inl h41) | exact Or.inr (Or.inr (Or.inl h59)) | exact Or.inr (Or.inr (Or.inr (Or.inl h43))) | exact Or.inr (Or.inr (Or.inr (Or.inr (Or.inl h45)))) | exact Or.inr (Or.inr (Or.inr (Or.inr (Or.inr (Or.inl h42))))) | exact Or.inr (Or.inr (Or.inr (Or.inr (Or.inr (Or.inr (Or.inl h60)))))) | exact Or.inr (Or.inr (Or.inr (Or.inr (Or.inr (Or.inr (Or.inr h61)))))))
                    refine x_iconst C dX8_next_314 (v := 3) rfl ?_
                    refine x_goto C dX8_next_315 (tgt := 319) rfl ?_
                    refine x_put C inlX8 rfl tyX8 tyX8_ok nmX8 19 (by decide) gw_12_7 rfl dX8_next_319 0 rfl (rfl) rfl (Nat.le_of_ble_eq_true rfl) ?_
                    show X _ _ [(m, .inr (7, [.ref a_sky, .ref a_kind, .ref a_more, .ref a_strewn, .int (nI tn), .ref a_treeCell, .ref a_treeSort, .ref a_treeLeaves, .int i_raking, .long l_heaps, .int (nI tz), .ref a_tape, .int (nI wr), .int (nI lw), .ref a_code, .ref a_begins, .int i_made, .int (nI ((p_pl tp tz a) + 1)), .int (nI (p_pl tp tz a)), .int 3, .int (tp (p_pl tp tz a)), .int i_open, .ref a_stack, .ref a_dry, .ref a_wet, .ref a_covered, .ref a_hangs, .ref a_off, .int i_fell, .int i_fellToday, .int i_rotten, .int i_raked, .int i_cost, .ref a_dryGo, .ref a_wetGo, .ref a_keptSky, .int i_imaged, .int (nI itn), .int i_oldRaking, .long l_oldHeaps, .int (nI ilw), .ref a_oldSky, .ref a_oldCells, .ref a_sheetSort, .ref a_sheetSize, .ref a_items, .ref a_spare])), (a_tape, .inl (cI, 160, .inl tp))] _ _ _
                    refine E dX8_next_322 ?_
                    exact ⟨((p_pl tp tz a) + 1), (p_pl tp tz a), 3, (tp (p_pl tp tz a)), rfl, rfl, ⟨(p_tk_sg hlt hndg hnle).1.symm, rfl, by rw [p_so_sg hlt hndg hnle]; first | exact (if_pos hsg).symm | exact (if_neg hsg).symm, fun h9 => by rw [p_so_sg hlt hndg hnle] at h9; exact absurd h9 (by split <;> decide), fun _ => rfl⟩⟩
                  ·
                    have h59 := c33
                    refine x_iload_n C dX8_next_284 0 rfl ?_
                    refine x_bipush C dX8_next_285 (v := 43) rfl ?_
                    refine x_icmp_eq C dX8_next_287 (tgt := 314) rfl (fun c34 => ?_) (fun c34 => ?_)
                    ·
                      have h43 := c34
                      have hsg : p_sg (tp (p_pl tp tz a)) = true := p_sg_t (by first | exact Or.inl h40 | exact Or.inr (Or.inl h41) | exact Or.inr (Or.inr (Or.inl h59)) | exact Or.inr (Or.inr (Or.inr (Or.inl h43))) | exact Or.inr (Or.inr (Or.inr (Or.inr (Or.inl h45)))) | exact Or.inr (Or.inr (Or.inr (Or.inr (Or.inr (Or.inl h42))))) | exact Or.inr (Or.inr (Or.inr (Or.inr (Or.inr (Or.inr (Or.inl h60)))))) | exact Or.inr (Or.inr (Or.inr (Or.inr (Or.inr (Or.inr (Or.inr h61)))))))
                      refine x_iconst C dX8_next_314 (v := 3) rfl ?_
                      refine x_goto C dX8_next_315 (tgt := 319) rfl ?_
                      refine x_put C inlX8 rfl tyX8 tyX8_ok nmX8 19 (by decide) gw_12_7 rfl dX8_next_319 0 rfl (rfl) rfl (Nat.le_of_ble_eq_true rfl) ?_
                      show X _ _ [(m, .inr (7, [.ref a_sky, .ref a_kind, .ref a_more, .ref a_strewn, .int (nI tn), .ref a_treeCell, .ref a_treeSort, .ref a_treeLeaves, .int i_raking, .long l_heaps, .int (nI tz), .ref a_tape, .int (nI wr), .int (nI lw), .ref a_code, .ref a_begins, .int i_made, .int (nI ((p_pl tp tz a) + 1)), .int (nI (p_pl tp tz a)), .int 3, .int (tp (p_pl tp tz a)), .int i_open, .ref a_stack, .ref a_dry, .ref a_wet, .ref a_covered, .ref a_hangs, .ref a_off, .int i_fell, .int i_fellToday, .int i_rotten, .int i_raked, .int i_cost, .ref a_dryGo, .ref a_wetGo, .ref a_keptSky, .int i_imaged, .int (nI itn), .int i_oldRaking, .long l_oldHeaps, .int (nI ilw), .ref a_oldSky, .ref a_oldCells, .ref a_sheetSort, .ref a_sheetSize, .ref a_items, .ref a_spare])), (a_tape, .inl (cI, 160, .inl tp))] _ _ _
                      refine E dX8_next_322 ?_
                      exact ⟨((p_pl tp tz a) + 1), (p_pl tp tz a), 3, (tp (p_pl tp tz a)), rfl, rfl, ⟨(p_tk_sg hlt hndg hnle).1.symm, rfl, by rw [p_so_sg hlt hndg hnle]; first | exact (if_pos hsg).symm | exact (if_neg hsg).symm, fun h9 => by rw [p_so_sg hlt hndg hnle] at h9; exact absurd h9 (by split <;> decide), fun _ => rfl⟩⟩
                    ·
                      have h43 := c34
                      refine x_iload_n C dX8_next_290 0 rfl ?_
                      refine x_bipush C dX8_next_291 (v := 45) rfl ?_
                      refine x_icmp_eq C dX8_next_293 (tgt := 314) rfl (fun c35 => ?_) (fun c35 => ?_)
                      ·
                        have h45 := c35
                        have hsg : p_sg (tp (p_pl tp tz a)) = true := p_sg_t (by first | exact Or.inl h40 | exact Or.inr (Or.inl h41) | exact Or.inr (Or.inr (Or.inl h59)) | exact Or.inr (Or.inr (Or.inr (Or.inl h43))) | exact Or.inr (Or.inr (Or.inr (Or.inr (Or.inl h45)))) | exact Or.inr (Or.inr (Or.inr (Or.inr (Or.inr (Or.inl h42))))) | exact Or.inr (Or.inr (Or.inr (Or.inr (Or.inr (Or.inr (Or.inl h60)))))) | exact Or.inr (Or.inr (Or.inr (Or.inr (Or.inr (Or.inr (Or.inr h61)))))))
                        refine x_iconst C dX8_next_314 (v := 3) rfl ?_
                        refine x_goto C dX8_next_315 (tgt := 319) rfl ?_
                        refine x_put C inlX8 rfl tyX8 tyX8_ok nmX8 19 (by decide) gw_12_7 rfl dX8_next_319 0 rfl (rfl) rfl (Nat.le_of_ble_eq_true rfl) ?_
                        show X _ _ [(m, .inr (7, [.ref a_sky, .ref a_kind, .ref a_more, .ref a_strewn, .int (nI tn), .ref a_treeCell, .ref a_treeSort, .ref a_treeLeaves, .int i_raking, .long l_heaps, .int (nI tz), .ref a_tape, .int (nI wr), .int (nI lw), .ref a_code, .ref a_begins, .int i_made, .int (nI ((p_pl tp tz a) + 1)), .int (nI (p_pl tp tz a)), .int 3, .int (tp (p_pl tp tz a)), .int i_open, .ref a_stack, .ref a_dry, .ref a_wet, .ref a_covered, .ref a_hangs, .ref a_off, .int i_fell, .int i_fellToday, .int i_rotten, .int i_raked, .int i_cost, .ref a_dryGo, .ref a_wetGo, .ref a_keptSky, .int i_imaged, .int (nI itn), .int i_oldRaking, .long l_oldHeaps, .int (nI ilw), .ref a_oldSky, .ref a_oldCells, .ref a_sheetSort, .ref a_sheetSize, .ref a_items, .ref a_spare])), (a_tape, .inl (cI, 160, .inl tp))] _ _ _
                        refine E dX8_next_322 ?_
                        exact ⟨((p_pl tp tz a) + 1), (p_pl tp tz a), 3, (tp (p_pl tp tz a)), rfl, rfl, ⟨(p_tk_sg hlt hndg hnle).1.symm, rfl, by rw [p_so_sg hlt hndg hnle]; first | exact (if_pos hsg).symm | exact (if_neg hsg).symm, fun h9 => by rw [p_so_sg hlt hndg hnle] at h9; exact absurd h9 (by split <;> decide), fun _ => rfl⟩⟩
                      ·
                        have h45 := c35
                        refine x_iload_n C dX8_next_296 0 rfl ?_
                        refine x_bipush C dX8_next_297 (v := 42) rfl ?_
                        refine x_icmp_eq C dX8_next_299 (tgt := 314) rfl (fun c36 => ?_) (fun c36 => ?_)
                        ·
                          have h42 := c36
                          have hsg : p_sg (tp (p_pl tp tz a)) = true := p_sg_t (by first | exact Or.inl h40 | exact Or.inr (Or.inl h41) | exact Or.inr (Or.inr (Or.inl h59)) | exact Or.inr (Or.inr (Or.inr (Or.inl h43))) | exact Or.inr (Or.inr (Or.inr (Or.inr (Or.inl h45)))) | exact Or.inr (Or.inr (Or.inr (Or.inr (Or.inr (Or.inl h42))))) | exact Or.inr (Or.inr (Or.inr (Or.inr (Or.inr (Or.inr (Or.inl h60)))))) | exact Or.inr (Or.inr (Or.inr (Or.inr (Or.inr (Or.inr (Or.inr h61)))))))
                          refine x_iconst C dX8_next_314 (v := 3) rfl ?_
                          refine x_goto C dX8_next_315 (tgt := 319) rfl ?_
                          refine x_put C inlX8 rfl tyX8 tyX8_ok nmX8 19 (by decide) gw_12_7 rfl dX8_next_319 0 rfl (rfl) rfl (Nat.le_of_ble_eq_true rfl) ?_
                          show X _ _ [(m, .inr (7, [.ref a_sky, .ref a_kind, .ref a_more, .ref a_strewn, .int (nI tn), .ref a_treeCell, .ref a_treeSort, .ref a_treeLeaves, .int i_raking, .long l_heaps, .int (nI tz), .ref a_tape, .int (nI wr), .int (nI lw), .ref a_code, .ref a_begins, .int i_made, .int (nI ((p_pl tp tz a) + 1)), .int (nI (p_pl tp tz a)), .int 3, .int (tp (p_pl tp tz a)), .int i_open, .ref a_stack, .ref a_dry, .ref a_wet, .ref a_covered, .ref a_hangs, .ref a_off, .int i_fell, .int i_fellToday, .int i_rotten, .int i_raked, .int i_cost, .ref a_dryGo, .ref a_wetGo, .ref a_keptSky, .int i_imaged, .int (nI itn), .int i_oldRaking, .long l_oldHeaps, .int (nI ilw), .ref a_oldSky, .ref a_oldCells, .ref a_sheetSort, .ref a_sheetSize, .ref a_items, .ref a_spare])), (a_tape, .inl (cI, 160, .inl tp))] _ _ _
                          refine E dX8_next_322 ?_
                          exact ⟨((p_pl tp tz a) + 1), (p_pl tp tz a), 3, (tp (p_pl tp tz a)), rfl, rfl, ⟨(p_tk_sg hlt hndg hnle).1.symm, rfl, by rw [p_so_sg hlt hndg hnle]; first | exact (if_pos hsg).symm | exact (if_neg hsg).symm, fun h9 => by rw [p_so_sg hlt hndg hnle] at h9; exact absurd h9 (by split <;> decide), fun _ => rfl⟩⟩
                        ·
                          have h42 := c36
                          refine x_iload_n C dX8_next_302 0 rfl ?_
                          refine x_bipush C dX8_next_303 (v := 60) rfl ?_
                          refine x_icmp_eq C dX8_next_305 (tgt := 314) rfl (fun c37 => ?_) (fun c37 => ?_)
                          ·
                            have h60 := c37
                            have hsg : p_sg (tp (p_pl tp tz a)) = true := p_sg_t (by first | exact Or.inl h40 | exact Or.inr (Or.inl h41) | exact Or.inr (Or.inr (Or.inl h59)) | exact Or.inr (Or.inr (Or.inr (Or.inl h43))) | exact Or.inr (Or.inr (Or.inr (Or.inr (Or.inl h45)))) | exact Or.inr (Or.inr (Or.inr (Or.inr (Or.inr (Or.inl h42))))) | exact Or.inr (Or.inr (Or.inr (Or.inr (Or.inr (Or.inr (Or.inl h60)))))) | exact Or.inr (Or.inr (Or.inr (Or.inr (Or.inr (Or.inr (Or.inr h61)))))))
                            refine x_iconst C dX8_next_314 (v := 3) rfl ?_
                            refine x_goto C dX8_next_315 (tgt := 319) rfl ?_
                            refine x_put C inlX8 rfl tyX8 tyX8_ok nmX8 19 (by decide) gw_12_7 rfl dX8_next_319 0 rfl (rfl) rfl (Nat.le_of_ble_eq_true rfl) ?_
                            show X _ _ [(m, .inr (7, [.ref a_sky, .ref a_kind, .ref a_more, .ref a_strewn, .int (nI tn), .ref a_treeCell, .ref a_treeSort, .ref a_treeLeaves, .int i_raking, .long l_heaps, .int (nI tz), .ref a_tape, .int (nI wr), .int (nI lw), .ref a_code, .ref a_begins, .int i_made, .int (nI ((p_pl tp tz a) + 1)), .int (nI (p_pl tp tz a)), .int 3, .int (tp (p_pl tp tz a)), .int i_open, .ref a_stack, .ref a_dry, .ref a_wet, .ref a_covered, .ref a_hangs, .ref a_off, .int i_fell, .int i_fellToday, .int i_rotten, .int i_raked, .int i_cost, .ref a_dryGo, .ref a_wetGo, .ref a_keptSky, .int i_imaged, .int (nI itn), .int i_oldRaking, .long l_oldHeaps, .int (nI ilw), .ref a_oldSky, .ref a_oldCells, .ref a_sheetSort, .ref a_sheetSize, .ref a_items, .ref a_spare])), (a_tape, .inl (cI, 160, .inl tp))] _ _ _
                            refine E dX8_next_322 ?_
                            exact ⟨((p_pl tp tz a) + 1), (p_pl tp tz a), 3, (tp (p_pl tp tz a)), rfl, rfl, ⟨(p_tk_sg hlt hndg hnle).1.symm, rfl, by rw [p_so_sg hlt hndg hnle]; first | exact (if_pos hsg).symm | exact (if_neg hsg).symm, fun h9 => by rw [p_so_sg hlt hndg hnle] at h9; exact absurd h9 (by split <;> decide), fun _ => rfl⟩⟩
                          ·
                            have h60 := c37
                            refine x_iload_n C dX8_next_308 0 rfl ?_
                            refine x_bipush C dX8_next_309 (v := 61) rfl ?_
                            refine x_icmp_ne C dX8_next_311 (tgt := 318) rfl (fun c38 => ?_) (fun c38 => ?_)
                            ·
                              have h61 := c38
                              have hsg : ¬ p_sg (tp (p_pl tp tz a)) = true := p_sg_f h40 h41 h59 h43 h45 h42 h60 h61
                              refine x_iconst C dX8_next_318 (v := 4) rfl ?_
                              refine x_put C inlX8 rfl tyX8 tyX8_ok nmX8 19 (by decide) gw_12_7 rfl dX8_next_319 0 rfl (rfl) rfl (Nat.le_of_ble_eq_true rfl) ?_
                              show X _ _ [(m, .inr (7, [.ref a_sky, .ref a_kind, .ref a_more, .ref a_strewn, .int (nI tn), .ref a_treeCell, .ref a_treeSort, .ref a_treeLeaves, .int i_raking, .long l_heaps, .int (nI tz), .ref a_tape, .int (nI wr), .int (nI lw), .ref a_code, .ref a_begins, .int i_made, .int (nI ((p_pl tp tz a) + 1)), .int (nI (p_pl tp tz a)), .int 4, .int (tp (p_pl tp tz a)), .int i_open, .ref a_stack, .ref a_dry, .ref a_wet, .ref a_covered, .ref a_hangs, .ref a_off, .int i_fell, .int i_fellToday, .int i_rotten, .int i_raked, .int i_cost, .ref a_dryGo, .ref a_wetGo, .ref a_keptSky, .int i_imaged, .int (nI itn), .int i_oldRaking, .long l_oldHeaps, .int (nI ilw), .ref a_oldSky, .ref a_oldCells, .ref a_sheetSort, .ref a_sheetSize, .ref a_items, .ref a_spare])), (a_tape, .inl (cI, 160, .inl tp))] _ _ _
                              refine E dX8_next_322 ?_
                              exact ⟨((p_pl tp tz a) + 1), (p_pl tp tz a), 4, (tp (p_pl tp tz a)), rfl, rfl, ⟨(p_tk_sg hlt hndg hnle).1.symm, rfl, by rw [p_so_sg hlt hndg hnle]; first | exact (if_pos hsg).symm | exact (if_neg hsg).symm, fun h9 => by rw [p_so_sg hlt hndg hnle] at h9; exact absurd h9 (by split <;> decide), fun _ => rfl⟩⟩
                            ·
                              have h61 := c38
                              have hsg : p_sg (tp (p_pl tp tz a)) = true := p_sg_t (by first | exact Or.inl h40 | exact Or.inr (Or.inl h41) | exact Or.inr (Or.inr (Or.inl h59)) | exact Or.inr (Or.inr (Or.inr (Or.inl h43))) | exact Or.inr (Or.inr (Or.inr (Or.inr (Or.inl h45)))) | exact Or.inr (Or.inr (Or.inr (Or.inr (Or.inr (Or.inl h42))))) | exact Or.inr (Or.inr (Or.inr (Or.inr (Or.inr (Or.inr (Or.inl h60)))))) | exact Or.inr (Or.inr (Or.inr (Or.inr (Or.inr (Or.inr (Or.inr h61)))))))
                              refine x_iconst C dX8_next_314 (v := 3) rfl ?_
                              refine x_goto C dX8_next_315 (tgt := 319) rfl ?_
                              refine x_put C inlX8 rfl tyX8 tyX8_ok nmX8 19 (by decide) gw_12_7 rfl dX8_next_319 0 rfl (rfl) rfl (Nat.le_of_ble_eq_true rfl) ?_
                              show X _ _ [(m, .inr (7, [.ref a_sky, .ref a_kind, .ref a_more, .ref a_strewn, .int (nI tn), .ref a_treeCell, .ref a_treeSort, .ref a_treeLeaves, .int i_raking, .long l_heaps, .int (nI tz), .ref a_tape, .int (nI wr), .int (nI lw), .ref a_code, .ref a_begins, .int i_made, .int (nI ((p_pl tp tz a) + 1)), .int (nI (p_pl tp tz a)), .int 3, .int (tp (p_pl tp tz a)), .int i_open, .ref a_stack, .ref a_dry, .ref a_wet, .ref a_covered, .ref a_hangs, .ref a_off, .int i_fell, .int i_fellToday, .int i_rotten, .int i_raked, .int i_cost, .ref a_dryGo, .ref a_wetGo, .ref a_keptSky, .int i_imaged, .int (nI itn), .int i_oldRaking, .long l_oldHeaps, .int (nI ilw), .ref a_oldSky, .ref a_oldCells, .ref a_sheetSort, .ref a_sheetSize, .ref a_items, .ref a_spare])), (a_tape, .inl (cI, 160, .inl tp))] _ _ _
                              refine E dX8_next_322 ?_
                              exact ⟨((p_pl tp tz a) + 1), (p_pl tp tz a), 3, (tp (p_pl tp tz a)), rfl, rfl, ⟨(p_tk_sg hlt hndg hnle).1.symm, rfl, by rw [p_so_sg hlt hndg hnle]; first | exact (if_pos hsg).symm | exact (if_neg hsg).symm, fun h9 => by rw [p_so_sg hlt hndg hnle] at h9; exact absurd h9 (by split <;> decide), fun _ => rfl⟩⟩
        ·
          have c3 : p_pl tp tz a = tz := q_ne_f rfl rfl (by omega) (by omega) c3
          refine x_aload_n C dX8_next_71 0 rfl ?_
          refine x_iconst C dX8_next_72 (v := 0) rfl ?_
          refine x_put C inlX8 rfl tyX8 tyX8_ok nmX8 19 (by decide) gw_12_7 rfl dX8_next_73 0 rfl (rfl) rfl (Nat.le_of_ble_eq_true rfl) ?_
          show X _ _ [(m, .inr (7, [.ref a_sky, .ref a_kind, .ref a_more, .ref a_strewn, .int (nI tn), .ref a_treeCell, .ref a_treeSort, .ref a_treeLeaves, .int i_raking, .long l_heaps, .int (nI tz), .ref a_tape, .int (nI wr), .int (nI lw), .ref a_code, .ref a_begins, .int i_made, .int (nI (p_pl tp tz a)), .int (nI (p_pl tp tz a)), .int 0, .int i_value, .int i_open, .ref a_stack, .ref a_dry, .ref a_wet, .ref a_covered, .ref a_hangs, .ref a_off, .int i_fell, .int i_fellToday, .int i_rotten, .int i_raked, .int i_cost, .ref a_dryGo, .ref a_wetGo, .ref a_keptSky, .int i_imaged, .int (nI itn), .int i_oldRaking, .long l_oldHeaps, .int (nI ilw), .ref a_oldSky, .ref a_oldCells, .ref a_sheetSort, .ref a_sheetSize, .ref a_items, .ref a_spare])), (a_tape, .inl (cI, 160, .inl tp))] _ _ _
          refine E dX8_next_76 ?_
          exact ⟨(p_pl tp tz a), (p_pl tp tz a), 0, i_value, rfl, rfl, ⟨(p_so_end (by omega)).1.symm, rfl, (p_so_end (by omega)).2.symm, fun h9 => by rw [(p_so_end (by omega)).2] at h9; exact absurd h9 (by decide), fun h9 => by rw [(p_so_end (by omega)).2] at h9; exact absurd h9 (by decide)⟩⟩
      ·
        have c2 : q < tz := q_ge_f rfl rfl (by omega) (by omega) c2
        refine x_aload_n C dX8_next_11 0 rfl ?_
        refine x_get C inlX8 rfl 11 (by decide) gw_11_1 dX8_next_12 0 rfl rfl ?_
        refine x_aload_n C dX8_next_15 0 rfl ?_
        refine x_get C inlX8 rfl 17 (by decide) gw_12_4 dX8_next_16 0 rfl rfl ?_
        refine x_iaload C 0 rfl dX8_next_19 q (q_cl rfl (by omega)) (q_ix rfl (by omega) (by omega)) 1 rfl ?_
        refine x_bipush C dX8_next_20 (v := 32) rfl ?_
        refine x_icmp_eq C dX8_next_22 (tgt := 39) rfl (fun c39 => ?_) (fun c39 => ?_)
        ·
          have hb32 := c39
          refine x_aload_n C dX8_next_39 0 rfl ?_
          refine x_dup C dX8_next_40 rfl ?_
          refine x_get C inlX8 rfl 17 (by decide) gw_12_4 dX8_next_41 0 rfl rfl ?_
          refine x_iconst C dX8_next_44 (v := 1) rfl ?_
          refine x_iadd C dX8_next_45 ?_
          refine x_topi C (nI (q + 1)) (q_iadd (a := q) (b := 1) rfl (rfl : (1 : Int32) = nI 1)) ?_
          refine x_put C inlX8 rfl tyX8 tyX8_ok nmX8 17 (by decide) gw_12_4 rfl dX8_next_46 0 rfl (rfl) rfl (Nat.le_of_ble_eq_true rfl) ?_
          show X _ _ [(m, .inr (7, [.ref a_sky, .ref a_kind, .ref a_more, .ref a_strewn, .int (nI tn), .ref a_treeCell, .ref a_treeSort, .ref a_treeLeaves, .int i_raking, .long l_heaps, .int (nI tz), .ref a_tape, .int (nI wr), .int (nI lw), .ref a_code, .ref a_begins, .int i_made, .int (nI (q + 1)), .int i_from, .int i_sort, .int i_value, .int i_open, .ref a_stack, .ref a_dry, .ref a_wet, .ref a_covered, .ref a_hangs, .ref a_off, .int i_fell, .int i_fellToday, .int i_rotten, .int i_raked, .int i_cost, .ref a_dryGo, .ref a_wetGo, .ref a_keptSky, .int i_imaged, .int (nI itn), .int i_oldRaking, .long l_oldHeaps, .int (nI ilw), .ref a_oldSky, .ref a_oldCells, .ref a_sheetSort, .ref a_sheetSize, .ref a_items, .ref a_spare])), (a_tape, .inl (cI, 160, .inl tp))] _ _ _
          refine x_goto C dX8_next_49 (tgt := 0) rfl ?_
          exact ihL0_0 (q + 1) (by omega) (by omega) ((p_sk_s (show q < tz by omega) (p_bl_t (by first | exact Or.inl hb32 | exact Or.inr hb10))).symm.trans hs9) (by omega)
        ·
          have hb32 := c39
          refine x_aload_n C dX8_next_25 0 rfl ?_
          refine x_get C inlX8 rfl 11 (by decide) gw_11_1 dX8_next_26 0 rfl rfl ?_
          refine x_aload_n C dX8_next_29 0 rfl ?_
          refine x_get C inlX8 rfl 17 (by decide) gw_12_4 dX8_next_30 0 rfl rfl ?_
          refine x_iaload C 0 rfl dX8_next_33 q (q_cl rfl (by omega)) (q_ix rfl (by omega) (by omega)) 1 rfl ?_
          refine x_bipush C dX8_next_34 (v := 10) rfl ?_
          refine x_icmp_ne C dX8_next_36 (tgt := 52) rfl (fun c40 => ?_) (fun c40 => ?_)
          ·
            have hb10 := c40
            have he9 : p_pl tp tz a = q := by rw [← hs9]; first | exact p_sk_e (by omega) | exact p_sk_x (p_bl_f hb32 hb10)
            subst he9
            have hple := p_pl_le (tp := tp) ha
            refine x_aload_n C dX8_next_52 0 rfl ?_
            refine x_aload_n C dX8_next_53 0 rfl ?_
            refine x_get C inlX8 rfl 17 (by decide) gw_12_4 dX8_next_54 0 rfl rfl ?_
            refine x_put C inlX8 rfl tyX8 tyX8_ok nmX8 18 (by decide) gw_12_8 rfl dX8_next_57 0 rfl (rfl) rfl (Nat.le_of_ble_eq_true rfl) ?_
            show X _ _ [(m, .inr (7, [.ref a_sky, .ref a_kind, .ref a_more, .ref a_strewn, .int (nI tn), .ref a_treeCell, .ref a_treeSort, .ref a_treeLeaves, .int i_raking, .long l_heaps, .int (nI tz), .ref a_tape, .int (nI wr), .int (nI lw), .ref a_code, .ref a_begins, .int i_made, .int (nI (p_pl tp tz a)), .int (nI (p_pl tp tz a)), .int i_sort, .int i_value, .int i_open, .ref a_stack, .ref a_dry, .ref a_wet, .ref a_covered, .ref a_hangs, .ref a_off, .int i_fell, .int i_fellToday, .int i_rotten, .int i_raked, .int i_cost, .ref a_dryGo, .ref a_wetGo, .ref a_keptSky, .int i_imaged, .int (nI itn), .int i_oldRaking, .long l_oldHeaps, .int (nI ilw), .ref a_oldSky, .ref a_oldCells, .ref a_sheetSort, .ref a_sheetSize, .ref a_items, .ref a_spare])), (a_tape, .inl (cI, 160, .inl tp))] _ _ _
            refine x_aload_n C dX8_next_60 0 rfl ?_
            refine x_get C inlX8 rfl 17 (by decide) gw_12_4 dX8_next_61 0 rfl rfl ?_
            refine x_aload_n C dX8_next_64 0 rfl ?_
            refine x_get C inlX8 rfl 10 (by decide) gw_11_20 dX8_next_65 0 rfl rfl ?_
            refine x_icmp_ne C dX8_next_68 (tgt := 77) rfl (fun c41 => ?_) (fun c41 => ?_)
            ·
              have c41 : p_pl tp tz a ≠ tz := q_ne_t rfl rfl (by omega) (by omega) c41
              refine x_aload_n C dX8_next_77 0 rfl ?_
              refine x_get C inlX8 rfl 11 (by decide) gw_11_1 dX8_next_78 0 rfl rfl ?_
              refine x_aload_n C dX8_next_81 0 rfl ?_
              refine x_get C inlX8 rfl 17 (by decide) gw_12_4 dX8_next_82 0 rfl rfl ?_
              refine x_iaload C 0 rfl dX8_next_85 (p_pl tp tz a) (q_cl rfl (by omega)) (q_ix rfl (by omega) (by omega)) 1 rfl ?_
              refine x_istore_n C dX8_next_86 (by decide) (lv' := [(1, .int (tp (p_pl tp tz a))), (0, .ref m)]) rfl ?_
              refine x_iload_n C dX8_next_87 0 rfl ?_
              refine x_callS C (As := [.int (tp (p_pl tp tz a))]) (st := []) (wc := []) (wr := [(m, .inr (7, [.ref a_sky, .ref a_kind, .ref a_more, .ref a_strewn, .int (nI tn), .ref a_treeCell, .ref a_treeSort, .ref a_treeLeaves, .int i_raking, .long l_heaps, .int (nI tz), .ref a_tape, .int (nI wr), .int (nI lw), .ref a_code, .ref a_begins, .int i_made, .int (nI (p_pl tp tz a)), .int (nI (p_pl tp tz a)), .int i_sort, .int i_value, .int i_open, .ref a_stack, .ref a_dry, .ref a_wet, .ref a_covered, .ref a_hangs, .ref a_off, .int i_fell, .int i_fellToday, .int i_rotten, .int i_raked, .int i_cost, .ref a_dryGo, .ref a_wetGo, .ref a_keptSky, .int i_imaged, .int (nI itn), .int i_oldRaking, .long l_oldHeaps, .int (nI ilw), .ref a_oldSky, .ref a_oldCells, .ref a_sheetSort, .ref a_sheetSize, .ref a_items, .ref a_spare])), (a_tape, .inl (cI, 160, .inl tp))]) (c_X8_isDigit l dG cI cM cW cS (tp (p_pl tp tz a)) ) rZ0_ok (fun _ _ _ _ => trivial) kS_X8_133 hy_X8_isDigit ⟨Nat.le_of_ble_eq_true rfl, Nat.le_of_ble_eq_true rfl⟩ ⟨Nat.le_of_ble_eq_true rfl, Nat.le_of_ble_eq_true rfl⟩ dX8_next_88 [] [0, 1] rfl rfl rfl rfl (by decide) rfl (Nat.le_of_ble_eq_true rfl) ?_
              intro v42 w43 h44
              rcases h44 with h44 | h44
              ·
                obtain ⟨rfl, rfl, hf45⟩ := h44
                show X 0 0 [(m, .inr (7, [.ref a_sky, .ref a_kind, .ref a_more, .ref a_strewn, .int (nI tn), .ref a_treeCell, .ref a_treeSort, .ref a_treeLeaves, .int i_raking, .long l_heaps, .int (nI tz), .ref a_tape, .int (nI wr), .int (nI lw), .ref a_code, .ref a_begins, .int i_made, .int (nI (p_pl tp tz a)), .int (nI (p_pl tp tz a)), .int i_sort, .int i_value, .int i_open, .ref a_stack, .ref a_dry, .ref a_wet, .ref a_covered, .ref a_hangs, .ref a_off, .int i_fell, .int i_fellToday, .int i_rotten, .int i_raked, .int i_cost, .ref a_dryGo, .ref a_wetGo, .ref a_keptSky, .int i_imaged, .int (nI itn), .int i_oldRaking, .long l_oldHeaps, .int (nI ilw), .ref a_oldSky, .ref a_oldCells, .ref a_sheetSort, .ref a_sheetSize, .ref a_items, .ref a_spare])), (a_tape, .inl (cI, 160, .inl tp))] [(1, .int (tp (p_pl tp tz a))), (0, .ref m)] 91 [.int 1]
                have hlt : p_pl tp tz a < tz := by omega
                have hdg := hf45
                refine x_if_eq C dX8_next_91 (tgt := 198) rfl (fun q9 => absurd q9 (by decide)) (fun _ => ?_)
                refine x_aload_n C dX8_next_94 1 rfl ?_
                refine x_iconst C dX8_next_95 (v := 0) rfl ?_
                refine x_put C inlX8 rfl tyX8 tyX8_ok nmX8 20 (by decide) gw_12_13 rfl dX8_next_96 0 rfl (rfl) rfl (Nat.le_of_ble_eq_true rfl) ?_
                show X _ _ [(m, .inr (7, [.ref a_sky, .ref a_kind, .ref a_more, .ref a_strewn, .int (nI tn), .ref a_treeCell, .ref a_treeSort, .ref a_treeLeaves, .int i_raking, .long l_heaps, .int (nI tz), .ref a_tape, .int (nI wr), .int (nI lw), .ref a_code, .ref a_begins, .int i_made, .int (nI (p_pl tp tz a)), .int (nI (p_pl tp tz a)), .int i_sort, .int 0, .int i_open, .ref a_stack, .ref a_dry, .ref a_wet, .ref a_covered, .ref a_hangs, .ref a_off, .int i_fell, .int i_fellToday, .int i_rotten, .int i_raked, .int i_cost, .ref a_dryGo, .ref a_wetGo, .ref a_keptSky, .int i_imaged, .int (nI itn), .int i_oldRaking, .long l_oldHeaps, .int (nI ilw), .ref a_oldSky, .ref a_oldCells, .ref a_sheetSort, .ref a_sheetSize, .ref a_items, .ref a_spare])), (a_tape, .inl (cI, 160, .inl tp))] _ _ _
                have L99_45 : ∀ (fuel : Nat) (k : Nat) (v9 : Int32), (hk : p_pl tp tz a + k ≤ tz) → (hv9 : v9 = p_num tp (p_pl tp tz a) (min k 4)) → (hs9 : p_sk p_dg tp tz (p_pl tp tz a + k) = p_sk p_dg tp tz (p_pl tp tz a)) → tz - (p_pl tp tz a + k) < fuel → X 0 0 [(m, .inr (7, [.ref a_sky, .ref a_kind, .ref a_more, .ref a_strewn, .int (nI tn), .ref a_treeCell, .ref a_treeSort, .ref a_treeLeaves, .int i_raking, .long l_heaps, .int (nI tz), .ref a_tape, .int (nI wr), .int (nI lw), .ref a_code, .ref a_begins, .int i_made, .int (nI (p_pl tp tz a + k)), .int (nI (p_pl tp tz a)), .int i_sort, .int v9, .int i_open, .ref a_stack, .ref a_dry, .ref a_wet, .ref a_covered, .ref a_hangs, .ref a_off, .int i_fell, .int i_fellToday, .int i_rotten, .int i_raked, .int i_cost, .ref a_dryGo, .ref a_wetGo, .ref a_keptSky, .int i_imaged, .int (nI itn), .int i_oldRaking, .long l_oldHeaps, .int (nI ilw), .ref a_oldSky, .ref a_oldCells, .ref a_sheetSort, .ref a_sheetSize, .ref a_items, .ref a_spare])), (a_tape, .inl (cI, 160, .inl tp))] [(0, .ref m)] 99 [] := by
                  intro fuel
                  induction fuel with
                  | zero => intros; omega
                  | succ fuel ihL99_45 =>
                    intro k v9 hk hv9 hs9 hfu
                    refine x_aload_n C dX8_next_99 0 rfl ?_
                    refine x_get C inlX8 rfl 17 (by decide) gw_12_4 dX8_next_100 0 rfl rfl ?_
                    refine x_aload_n C dX8_next_103 0 rfl ?_
                    refine x_get C inlX8 rfl 10 (by decide) gw_11_20 dX8_next_104 0 rfl rfl ?_
                    refine x_icmp_ge C dX8_next_107 (tgt := 175) rfl (fun c47 => ?_) (fun c47 => ?_)
                    ·
                      have c47 : p_pl tp tz a + k ≥ tz := q_ge_t rfl rfl (by omega) (by omega) c47
                      have he9 : p_sk p_dg tp tz (p_pl tp tz a) = p_pl tp tz a + k := by rw [← hs9]; first | exact p_sk_e (by omega) | exact p_sk_x (by assumption)
                      refine x_aload_n C dX8_next_175 0 rfl ?_
                      refine x_aload_n C dX8_next_176 0 rfl ?_
                      refine x_get C inlX8 rfl 17 (by decide) gw_12_4 dX8_next_177 0 rfl rfl ?_
                      refine x_aload_n C dX8_next_180 0 rfl ?_
                      refine x_get C inlX8 rfl 18 (by decide) gw_12_8 dX8_next_181 0 rfl rfl ?_
                      refine x_isub C dX8_next_184 ?_
                      refine x_iconst C dX8_next_185 (v := 4) rfl ?_
                      refine x_icmp_le C dX8_next_186 (tgt := 193) rfl (fun c48 => ?_) (fun c48 => ?_)
                      ·
                        have c48 : (p_pl tp tz a + k) - (p_pl tp tz a) ≤ 4 := q_le_t (q_isub (a := p_pl tp tz a + k) (b := p_pl tp tz a) rfl rfl (by omega)) (rfl : (4 : Int32) = nI 4) (by omega) (by omega) c48
                        refine x_iconst C dX8_next_193 (v := 1) rfl ?_
                        refine x_put C inlX8 rfl tyX8 tyX8_ok nmX8 19 (by decide) gw_12_7 rfl dX8_next_194 0 rfl (rfl) rfl (Nat.le_of_ble_eq_true rfl) ?_
                        show X _ _ [(m, .inr (7, [.ref a_sky, .ref a_kind, .ref a_more, .ref a_strewn, .int (nI tn), .ref a_treeCell, .ref a_treeSort, .ref a_treeLeaves, .int i_raking, .long l_heaps, .int (nI tz), .ref a_tape, .int (nI wr), .int (nI lw), .ref a_code, .ref a_begins, .int i_made, .int (nI (p_pl tp tz a + k)), .int (nI (p_pl tp tz a)), .int 1, .int v9, .int i_open, .ref a_stack, .ref a_dry, .ref a_wet, .ref a_covered, .ref a_hangs, .ref a_off, .int i_fell, .int i_fellToday, .int i_rotten, .int i_raked, .int i_cost, .ref a_dryGo, .ref a_wetGo, .ref a_keptSky, .int i_imaged, .int (nI itn), .int i_oldRaking, .long l_oldHeaps, .int (nI ilw), .ref a_oldSky, .ref a_oldCells, .ref a_sheetSort, .ref a_sheetSize, .ref a_items, .ref a_spare])), (a_tape, .inl (cI, 160, .inl tp))] _ _ _
                        refine E dX8_next_197 ?_
                        exact ⟨(p_pl tp tz a + k), (p_pl tp tz a), 1, v9, rfl, rfl, ⟨by rw [(p_tk_dg hlt hdg).1, he9], rfl, by rw [p_so_dg hlt hdg, he9]; first | exact (if_pos (by omega)).symm | exact (if_neg (by omega)).symm, fun h9 => by rw [p_so_dg hlt hdg, he9] at h9; rw [(p_tk_dg hlt hdg).2.2, he9, hv9, show min k 4 = p_pl tp tz a + k - p_pl tp tz a by have : ¬ 4 < p_pl tp tz a + k - p_pl tp tz a := fun h8 => absurd (if_pos h8 ▸ h9) (by decide); omega], fun h9 => by rw [p_so_dg hlt hdg] at h9; exact absurd h9 (by split <;> decide)⟩⟩
                      ·
                        have c48 : (p_pl tp tz a + k) - (p_pl tp tz a) > 4 := q_le_f (q_isub (a := p_pl tp tz a + k) (b := p_pl tp tz a) rfl rfl (by omega)) (rfl : (4 : Int32) = nI 4) (by omega) (by omega) c48
                        refine x_iconst C dX8_next_189 (v := 4) rfl ?_
                        refine x_goto C dX8_next_190 (tgt := 194) rfl ?_
                        refine x_put C inlX8 rfl tyX8 tyX8_ok nmX8 19 (by decide) gw_12_7 rfl dX8_next_194 0 rfl (rfl) rfl (Nat.le_of_ble_eq_true rfl) ?_
                        show X _ _ [(m, .inr (7, [.ref a_sky, .ref a_kind, .ref a_more, .ref a_strewn, .int (nI tn), .ref a_treeCell, .ref a_treeSort, .ref a_treeLeaves, .int i_raking, .long l_heaps, .int (nI tz), .ref a_tape, .int (nI wr), .int (nI lw), .ref a_code, .ref a_begins, .int i_made, .int (nI (p_pl tp tz a + k)), .int (nI (p_pl tp tz a)), .int 4, .int v9, .int i_open, .ref a_stack, .ref a_dry, .ref a_wet, .ref a_covered, .ref a_hangs, .ref a_off, .int i_fell, .int i_fellToday, .int i_rotten, .int i_raked, .int i_cost, .ref a_dryGo, .ref a_wetGo, .ref a_keptSky, .int i_imaged, .int (nI itn), .int i_oldRaking, .long l_oldHeaps, .int (nI ilw), .ref a_oldSky, .ref a_oldCells, .ref a_sheetSort, .ref a_sheetSize, .ref a_items, .ref a_spare])), (a_tape, .inl (cI, 160, .inl tp))] _ _ _
                        refine E dX8_next_197 ?_
                        exact ⟨(p_pl tp tz a + k), (p_pl tp tz a), 4, v9, rfl, rfl, ⟨by rw [(p_tk_dg hlt hdg).1, he9], rfl, by rw [p_so_dg hlt hdg, he9]; first | exact (if_pos (by omega)).symm | exact (if_neg (by omega)).symm, fun h9 => by rw [p_so_dg hlt hdg, he9] at h9; rw [(p_tk_dg hlt hdg).2.2, he9, hv9, show min k 4 = p_pl tp tz a + k - p_pl tp tz a by have : ¬ 4 < p_pl tp tz a + k - p_pl tp tz a := fun h8 => absurd (if_pos h8 ▸ h9) (by decide); omega], fun h9 => by rw [p_so_dg hlt hdg] at h9; exact absurd h9 (by split <;> decide)⟩⟩
                    ·
                      have c47 : p_pl tp tz a + k < tz := q_ge_f rfl rfl (by omega) (by omega) c47
                      refine x_aload_n C dX8_next_110 0 rfl ?_
                      refine x_get C inlX8 rfl 11 (by decide) gw_11_1 dX8_next_111 0 rfl rfl ?_
                      refine x_aload_n C dX8_next_114 0 rfl ?_
                      refine x_get C inlX8 rfl 17 (by decide) gw_12_4 dX8_next_115 0 rfl rfl ?_
                      refine x_iaload C 0 rfl dX8_next_118 (p_pl tp tz a + k) (q_cl rfl (by omega)) (q_ix rfl (by omega) (by omega)) 1 rfl ?_
                      refine x_callS C (As := [.int (tp (p_pl tp tz a + k))]) (st := []) (wc := []) (wr := [(m, .inr (7, [.ref a_sky, .ref a_kind, .ref a_more, .ref a_strewn, .int (nI tn), .ref a_treeCell, .ref a_treeSort, .ref a_treeLeaves, .int i_raking, .long l_heaps, .int (nI tz), .ref a_tape, .int (nI wr), .int (nI lw), .ref a_code, .ref a_begins, .int i_made, .int (nI (p_pl tp tz a + k)), .int (nI (p_pl tp tz a)), .int i_sort, .int v9, .int i_open, .ref a_stack, .ref a_dry, .ref a_wet, .ref a_covered, .ref a_hangs, .ref a_off, .int i_fell, .int i_fellToday, .int i_rotten, .int i_raked, .int i_cost, .ref a_dryGo, .ref a_wetGo, .ref a_keptSky, .int i_imaged, .int (nI itn), .int i_oldRaking, .long l_oldHeaps, .int (nI ilw), .ref a_oldSky, .ref a_oldCells, .ref a_sheetSort, .ref a_sheetSize, .ref a_items, .ref a_spare])), (a_tape, .inl (cI, 160, .inl tp))]) (c_X8_isDigit l dG cI cM cW cS (tp (p_pl tp tz a + k)) ) rZ0_ok (fun _ _ _ _ => trivial) kS_X8_133 hy_X8_isDigit ⟨Nat.le_of_ble_eq_true rfl, Nat.le_of_ble_eq_true rfl⟩ ⟨Nat.le_of_ble_eq_true rfl, Nat.le_of_ble_eq_true rfl⟩ dX8_next_119 [] [0, 1] rfl rfl rfl rfl (by decide) rfl (Nat.le_of_ble_eq_true rfl) ?_
                      intro v49 w50 h51
                      rcases h51 with h51 | h51
                      ·
                        obtain ⟨rfl, rfl, hf52⟩ := h51
                        show X 0 0 [(m, .inr (7, [.ref a_sky, .ref a_kind, .ref a_more, .ref a_strewn, .int (nI tn), .ref a_treeCell, .ref a_treeSort, .ref a_treeLeaves, .int i_raking, .long l_heaps, .int (nI tz), .ref a_tape, .int (nI wr), .int (nI lw), .ref a_code, .ref a_begins, .int i_made, .int (nI (p_pl tp tz a + k)), .int (nI (p_pl tp tz a)), .int i_sort, .int v9, .int i_open, .ref a_stack, .ref a_dry, .ref a_wet, .ref a_covered, .ref a_hangs, .ref a_off, .int i_fell, .int i_fellToday, .int i_rotten, .int i_raked, .int i_cost, .ref a_dryGo, .ref a_wetGo, .ref a_keptSky, .int i_imaged, .int (nI itn), .int i_oldRaking, .long l_oldHeaps, .int (nI ilw), .ref a_oldSky, .ref a_oldCells, .ref a_sheetSort, .ref a_sheetSize, .ref a_items, .ref a_spare])), (a_tape, .inl (cI, 160, .inl tp))] [(0, .ref m)] 122 [.int 1]
                        have hdg2 := hf52
                        refine x_if_eq C dX8_next_122 (tgt := 175) rfl (fun q9 => absurd q9 (by decide)) (fun _ => ?_)
                        refine x_aload_n C dX8_next_125 0 rfl ?_
                        refine x_get C inlX8 rfl 17 (by decide) gw_12_4 dX8_next_126 0 rfl rfl ?_
                        refine x_aload_n C dX8_next_129 0 rfl ?_
                        refine x_get C inlX8 rfl 18 (by decide) gw_12_8 dX8_next_130 0 rfl rfl ?_
                        refine x_isub C dX8_next_133 ?_
                        refine x_iconst C dX8_next_134 (v := 4) rfl ?_
                        refine x_icmp_ge C dX8_next_135 (tgt := 162) rfl (fun c53 => ?_) (fun c53 => ?_)
                        ·
                          have c53 : (p_pl tp tz a + k) - (p_pl tp tz a) ≥ 4 := q_ge_t (q_isub (a := p_pl tp tz a + k) (b := p_pl tp tz a) rfl rfl (by omega)) (rfl : (4 : Int32) = nI 4) (by omega) (by omega) c53
                          refine x_aload_n C dX8_next_162 0 rfl ?_
                          refine x_dup C dX8_next_163 rfl ?_
                          refine x_get C inlX8 rfl 17 (by decide) gw_12_4 dX8_next_164 0 rfl rfl ?_
                          refine x_iconst C dX8_next_167 (v := 1) rfl ?_
                          refine x_iadd C dX8_next_168 ?_
                          refine x_topi C (nI ((p_pl tp tz a + k) + 1)) (q_iadd (a := p_pl tp tz a + k) (b := 1) rfl (rfl : (1 : Int32) = nI 1)) ?_
                          refine x_put C inlX8 rfl tyX8 tyX8_ok nmX8 17 (by decide) gw_12_4 rfl dX8_next_169 0 rfl (rfl) rfl (Nat.le_of_ble_eq_true rfl) ?_
                          show X _ _ [(m, .inr (7, [.ref a_sky, .ref a_kind, .ref a_more, .ref a_strewn, .int (nI tn), .ref a_treeCell, .ref a_treeSort, .ref a_treeLeaves, .int i_raking, .long l_heaps, .int (nI tz), .ref a_tape, .int (nI wr), .int (nI lw), .ref a_code, .ref a_begins, .int i_made, .int (nI ((p_pl tp tz a + k) + 1)), .int (nI (p_pl tp tz a)), .int i_sort, .int v9, .int i_open, .ref a_stack, .ref a_dry, .ref a_wet, .ref a_covered, .ref a_hangs, .ref a_off, .int i_fell, .int i_fellToday, .int i_rotten, .int i_raked, .int i_cost, .ref a_dryGo, .ref a_wetGo, .ref a_keptSky, .int i_imaged, .int (nI itn), .int i_oldRaking, .long l_oldHeaps, .int (nI ilw), .ref a_oldSky, .ref a_oldCells, .ref a_sheetSort, .ref a_sheetSize, .ref a_items, .ref a_spare])), (a_tape, .inl (cI, 160, .inl tp))] _ _ _
                          refine x_goto C dX8_next_172 (tgt := 99) rfl ?_
                          exact ihL99_45 (k + 1) v9 (by omega) (by first | exact p_num_m hv9 (by omega) | exact p_num_n hv9 (by omega)) ((p_sk_s (show p_pl tp tz a + k < tz by omega) hdg2).symm.trans hs9) (by omega)
                        ·
                          have c53 : (p_pl tp tz a + k) - (p_pl tp tz a) < 4 := q_ge_f (q_isub (a := p_pl tp tz a + k) (b := p_pl tp tz a) rfl rfl (by omega)) (rfl : (4 : Int32) = nI 4) (by omega) (by omega) c53
                          refine x_aload_n C dX8_next_138 0 rfl ?_
                          refine x_bipush C dX8_next_139 (v := 10) rfl ?_
                          refine x_aload_n C dX8_next_141 0 rfl ?_
                          refine x_get C inlX8 rfl 20 (by decide) gw_12_13 dX8_next_142 0 rfl rfl ?_
                          refine x_imul C dX8_next_145 ?_
                          refine x_aload_n C dX8_next_146 0 rfl ?_
                          refine x_get C inlX8 rfl 11 (by decide) gw_11_1 dX8_next_147 0 rfl rfl ?_
                          refine x_aload_n C dX8_next_150 0 rfl ?_
                          refine x_get C inlX8 rfl 17 (by decide) gw_12_4 dX8_next_151 0 rfl rfl ?_
                          refine x_iaload C 0 rfl dX8_next_154 (p_pl tp tz a + k) (q_cl rfl (by omega)) (q_ix rfl (by omega) (by omega)) 1 rfl ?_
                          show X _ _ _ _ 155 _
                          refine x_iadd C dX8_next_155 ?_
                          refine x_bipush C dX8_next_156 (v := 48) rfl ?_
                          refine x_isub C dX8_next_158 ?_
                          refine x_put C inlX8 rfl tyX8 tyX8_ok nmX8 20 (by decide) gw_12_13 rfl dX8_next_159 0 rfl (rfl) rfl (Nat.le_of_ble_eq_true rfl) ?_
                          show X _ _ [(m, .inr (7, [.ref a_sky, .ref a_kind, .ref a_more, .ref a_strewn, .int (nI tn), .ref a_treeCell, .ref a_treeSort, .ref a_treeLeaves, .int i_raking, .long l_heaps, .int (nI tz), .ref a_tape, .int (nI wr), .int (nI lw), .ref a_code, .ref a_begins, .int i_made, .int (nI (p_pl tp tz a + k)), .int (nI (p_pl tp tz a)), .int i_sort, .int (((10 * v9) + (tp (p_pl tp tz a + k))) - 48), .int i_open, .ref a_stack, .ref a_dry, .ref a_wet, .ref a_covered, .ref a_hangs, .ref a_off, .int i_fell, .int i_fellToday, .int i_rotten, .int i_raked, .int i_cost, .ref a_dryGo, .ref a_wetGo, .ref a_keptSky, .int i_imaged, .int (nI itn), .int i_oldRaking, .long l_oldHeaps, .int (nI ilw), .ref a_oldSky, .ref a_oldCells, .ref a_sheetSort, .ref a_sheetSize, .ref a_items, .ref a_spare])), (a_tape, .inl (cI, 160, .inl tp))] _ _ _
                          refine x_aload_n C dX8_next_162 0 rfl ?_
                          refine x_dup C dX8_next_163 rfl ?_
                          refine x_get C inlX8 rfl 17 (by decide) gw_12_4 dX8_next_164 0 rfl rfl ?_
                          refine x_iconst C dX8_next_167 (v := 1) rfl ?_
                          refine x_iadd C dX8_next_168 ?_
                          refine x_topi C (nI ((p_pl tp tz a + k) + 1)) (q_iadd (a := p_pl tp tz a + k) (b := 1) rfl (rfl : (1 : Int32) = nI 1)) ?_
                          refine x_put C inlX8 rfl tyX8 tyX8_ok nmX8 17 (by decide) gw_12_4 rfl dX8_next_169 0 rfl (rfl) rfl (Nat.le_of_ble_eq_true rfl) ?_
                          show X _ _ [(m, .inr (7, [.ref a_sky, .ref a_kind, .ref a_more, .ref a_strewn, .int (nI tn), .ref a_treeCell, .ref a_treeSort, .ref a_treeLeaves, .int i_raking, .long l_heaps, .int (nI tz), .ref a_tape, .int (nI wr), .int (nI lw), .ref a_code, .ref a_begins, .int i_made, .int (nI ((p_pl tp tz a + k) + 1)), .int (nI (p_pl tp tz a)), .int i_sort, .int (((10 * v9) + (tp (p_pl tp tz a + k))) - 48), .int i_open, .ref a_stack, .ref a_dry, .ref a_wet, .ref a_covered, .ref a_hangs, .ref a_off, .int i_fell, .int i_fellToday, .int i_rotten, .int i_raked, .int i_cost, .ref a_dryGo, .ref a_wetGo, .ref a_keptSky, .int i_imaged, .int (nI itn), .int i_oldRaking, .long l_oldHeaps, .int (nI ilw), .ref a_oldSky, .ref a_oldCells, .ref a_sheetSort, .ref a_sheetSize, .ref a_items, .ref a_spare])), (a_tape, .inl (cI, 160, .inl tp))] _ _ _
                          show X _ _ _ _ 172 _
                          refine x_goto C dX8_next_172 (tgt := 99) rfl ?_
                          exact ihL99_45 (k + 1) (((10 * v9) + (tp (p_pl tp tz a + k))) - 48) (by omega) (by first | exact p_num_m hv9 (by omega) | exact p_num_n hv9 (by omega)) ((p_sk_s (show p_pl tp tz a + k < tz by omega) hdg2).symm.trans hs9) (by omega)
                      ·
                        obtain ⟨rfl, rfl, hf54⟩ := h51
                        show X 0 0 [(m, .inr (7, [.ref a_sky, .ref a_kind, .ref a_more, .ref a_strewn, .int (nI tn), .ref a_treeCell, .ref a_treeSort, .ref a_treeLeaves, .int i_raking, .long l_heaps, .int (nI tz), .ref a_tape, .int (nI wr), .int (nI lw), .ref a_code, .ref a_begins, .int i_made, .int (nI (p_pl tp tz a + k)), .int (nI (p_pl tp tz a)), .int i_sort, .int v9, .int i_open, .ref a_stack, .ref a_dry, .ref a_wet, .ref a_covered, .ref a_hangs, .ref a_off, .int i_fell, .int i_fellToday, .int i_rotten, .int i_raked, .int i_cost, .ref a_dryGo, .ref a_wetGo, .ref a_keptSky, .int i_imaged, .int (nI itn), .int i_oldRaking, .long l_oldHeaps, .int (nI ilw), .ref a_oldSky, .ref a_oldCells, .ref a_sheetSort, .ref a_sheetSize, .ref a_items, .ref a_spare])), (a_tape, .inl (cI, 160, .inl tp))] [(0, .ref m)] 122 [.int 0]
                        have hdg2 := hf54
                        refine x_if_eq C dX8_next_122 (tgt := 175) rfl (fun _ => ?_) (fun q9 => by first | exact absurd q9 (by decide) | exact absurd (by decide) q9)
                        have he9 : p_sk p_dg tp tz (p_pl tp tz a) = p_pl tp tz a + k := by rw [← hs9]; first | exact p_sk_e (by omega) | exact p_sk_x (by assumption)
                        refine x_aload_n C dX8_next_175 0 rfl ?_
                        refine x_aload_n C dX8_next_176 0 rfl ?_
                        refine x_get C inlX8 rfl 17 (by decide) gw_12_4 dX8_next_177 0 rfl rfl ?_
                        refine x_aload_n C dX8_next_180 0 rfl ?_
                        refine x_get C inlX8 rfl 18 (by decide) gw_12_8 dX8_next_181 0 rfl rfl ?_
                        refine x_isub C dX8_next_184 ?_
                        refine x_iconst C dX8_next_185 (v := 4) rfl ?_
                        refine x_icmp_le C dX8_next_186 (tgt := 193) rfl (fun c55 => ?_) (fun c55 => ?_)
                        ·
                          have c55 : (p_pl tp tz a + k) - (p_pl tp tz a) ≤ 4 := q_le_t (q_isub (a := p_pl tp tz a + k) (b := p_pl tp tz a) rfl rfl (by omega)) (rfl : (4 : Int32) = nI 4) (by omega) (by omega) c55
                          refine x_iconst C dX8_next_193 (v := 1) rfl ?_
                          refine x_put C inlX8 rfl tyX8 tyX8_ok nmX8 19 (by decide) gw_12_7 rfl dX8_next_194 0 rfl (rfl) rfl (Nat.le_of_ble_eq_true rfl) ?_
                          show X _ _ [(m, .inr (7, [.ref a_sky, .ref a_kind, .ref a_more, .ref a_strewn, .int (nI tn), .ref a_treeCell, .ref a_treeSort, .ref a_treeLeaves, .int i_raking, .long l_heaps, .int (nI tz), .ref a_tape, .int (nI wr), .int (nI lw), .ref a_code, .ref a_begins, .int i_made, .int (nI (p_pl tp tz a + k)), .int (nI (p_pl tp tz a)), .int 1, .int v9, .int i_open, .ref a_stack, .ref a_dry, .ref a_wet, .ref a_covered, .ref a_hangs, .ref a_off, .int i_fell, .int i_fellToday, .int i_rotten, .int i_raked, .int i_cost, .ref a_dryGo, .ref a_wetGo, .ref a_keptSky, .int i_imaged, .int (nI itn), .int i_oldRaking, .long l_oldHeaps, .int (nI ilw), .ref a_oldSky, .ref a_oldCells, .ref a_sheetSort, .ref a_sheetSize, .ref a_items, .ref a_spare])), (a_tape, .inl (cI, 160, .inl tp))] _ _ _
                          refine E dX8_next_197 ?_
                          exact ⟨(p_pl tp tz a + k), (p_pl tp tz a), 1, v9, rfl, rfl, ⟨by rw [(p_tk_dg hlt hdg).1, he9], rfl, by rw [p_so_dg hlt hdg, he9]; first | exact (if_pos (by omega)).symm | exact (if_neg (by omega)).symm, fun h9 => by rw [p_so_dg hlt hdg, he9] at h9; rw [(p_tk_dg hlt hdg).2.2, he9, hv9, show min k 4 = p_pl tp tz a + k - p_pl tp tz a by have : ¬ 4 < p_pl tp tz a + k - p_pl tp tz a := fun h8 => absurd (if_pos h8 ▸ h9) (by decide); omega], fun h9 => by rw [p_so_dg hlt hdg] at h9; exact absurd h9 (by split <;> decide)⟩⟩
                        ·
                          have c55 : (p_pl tp tz a + k) - (p_pl tp tz a) > 4 := q_le_f (q_isub (a := p_pl tp tz a + k) (b := p_pl tp tz a) rfl rfl (by omega)) (rfl : (4 : Int32) = nI 4) (by omega) (by omega) c55
                          refine x_iconst C dX8_next_189 (v := 4) rfl ?_
                          refine x_goto C dX8_next_190 (tgt := 194) rfl ?_
                          refine x_put C inlX8 rfl tyX8 tyX8_ok nmX8 19 (by decide) gw_12_7 rfl dX8_next_194 0 rfl (rfl) rfl (Nat.le_of_ble_eq_true rfl) ?_
                          show X _ _ [(m, .inr (7, [.ref a_sky, .ref a_kind, .ref a_more, .ref a_strewn, .int (nI tn), .ref a_treeCell, .ref a_treeSort, .ref a_treeLeaves, .int i_raking, .long l_heaps, .int (nI tz), .ref a_tape, .int (nI wr), .int (nI lw), .ref a_code, .ref a_begins, .int i_made, .int (nI (p_pl tp tz a + k)), .int (nI (p_pl tp tz a)), .int 4, .int v9, .int i_open, .ref a_stack, .ref a_dry, .ref a_wet, .ref a_covered, .ref a_hangs, .ref a_off, .int i_fell, .int i_fellToday, .int i_rotten, .int i_raked, .int i_cost, .ref a_dryGo, .ref a_wetGo, .ref a_keptSky, .int i_imaged, .int (nI itn), .int i_oldRaking, .long l_oldHeaps, .int (nI ilw), .ref a_oldSky, .ref a_oldCells, .ref a_sheetSort, .ref a_sheetSize, .ref a_items, .ref a_spare])), (a_tape, .inl (cI, 160, .inl tp))] _ _ _
                          refine E dX8_next_197 ?_
                          exact ⟨(p_pl tp tz a + k), (p_pl tp tz a), 4, v9, rfl, rfl, ⟨by rw [(p_tk_dg hlt hdg).1, he9], rfl, by rw [p_so_dg hlt hdg, he9]; first | exact (if_pos (by omega)).symm | exact (if_neg (by omega)).symm, fun h9 => by rw [p_so_dg hlt hdg, he9] at h9; rw [(p_tk_dg hlt hdg).2.2, he9, hv9, show min k 4 = p_pl tp tz a + k - p_pl tp tz a by have : ¬ 4 < p_pl tp tz a + k - p_pl tp tz a := fun h8 => absurd (if_pos h8 ▸ h9) (by decide); omega], fun h9 => by rw [p_so_dg hlt hdg] at h9; exact absurd h9 (by split <;> decide)⟩⟩
                refine x_lv C [1] (lv' := [(0, .ref m)]) rfl ?_
                rw [show (nI (p_pl tp tz a) : Int32) = nI (p_pl tp tz a + 0) from rfl.trans (congrArg nI (by omega))]
                show X 0 0 [(m, .inr (7, [.ref a_sky, .ref a_kind, .ref a_more, .ref a_strewn, .int (nI tn), .ref a_treeCell, .ref a_treeSort, .ref a_treeLeaves, .int i_raking, .long l_heaps, .int (nI tz), .ref a_tape, .int (nI wr), .int (nI lw), .ref a_code, .ref a_begins, .int i_made, .int (nI (p_pl tp tz a + 0)), .int (nI (p_pl tp tz a)), .int i_sort, .int 0, .int i_open, .ref a_stack, .ref a_dry, .ref a_wet, .ref a_covered, .ref a_hangs, .ref a_off, .int i_fell, .int i_fellToday, .int i_rotten, .int i_raked, .int i_cost, .ref a_dryGo, .ref a_wetGo, .ref a_keptSky, .int i_imaged, .int (nI itn), .int i_oldRaking, .long l_oldHeaps, .int (nI ilw), .ref a_oldSky, .ref a_oldCells, .ref a_sheetSort, .ref a_sheetSize, .ref a_items, .ref a_spare])), (a_tape, .inl (cI, 160, .inl tp))] [(0, .ref m)] 99 []
                exact L99_45 ((tz - (p_pl tp tz a + 0)) + 1) 0 0 (by omega) (rfl) (rfl) (Nat.lt_succ_self _)
              ·
                obtain ⟨rfl, rfl, hf56⟩ := h44
                show X 0 0 [(m, .inr (7, [.ref a_sky, .ref a_kind, .ref a_more, .ref a_strewn, .int (nI tn), .ref a_treeCell, .ref a_treeSort, .ref a_treeLeaves, .int i_raking, .long l_heaps, .int (nI tz), .ref a_tape, .int (nI wr), .int (nI lw), .ref a_code, .ref a_begins, .int i_made, .int (nI (p_pl tp tz a)), .int (nI (p_pl tp tz a)), .int i_sort, .int i_value, .int i_open, .ref a_stack, .ref a_dry, .ref a_wet, .ref a_covered, .ref a_hangs, .ref a_off, .int i_fell, .int i_fellToday, .int i_rotten, .int i_raked, .int i_cost, .ref a_dryGo, .ref a_wetGo, .ref a_keptSky, .int i_imaged, .int (nI itn), .int i_oldRaking, .long l_oldHeaps, .int (nI ilw), .ref a_oldSky, .ref a_oldCells, .ref a_sheetSort, .ref a_sheetSize, .ref a_items, .ref a_spare])), (a_tape, .inl (cI, 160, .inl tp))] [(1, .int (tp (p_pl tp tz a))), (0, .ref m)] 91 [.int 0]
                have hlt : p_pl tp tz a < tz := by omega
                have hndg := hf56
                refine x_if_eq C dX8_next_91 (tgt := 198) rfl (fun _ => ?_) (fun q9 => by first | exact absurd q9 (by decide) | exact absurd (by decide) q9)
                refine x_iload_n C dX8_next_198 0 rfl ?_
                refine x_callS C (As := [.int (tp (p_pl tp tz a))]) (st := []) (wc := []) (wr := [(m, .inr (7, [.ref a_sky, .ref a_kind, .ref a_more, .ref a_strewn, .int (nI tn), .ref a_treeCell, .ref a_treeSort, .ref a_treeLeaves, .int i_raking, .long l_heaps, .int (nI tz), .ref a_tape, .int (nI wr), .int (nI lw), .ref a_code, .ref a_begins, .int i_made, .int (nI (p_pl tp tz a)), .int (nI (p_pl tp tz a)), .int i_sort, .int i_value, .int i_open, .ref a_stack, .ref a_dry, .ref a_wet, .ref a_covered, .ref a_hangs, .ref a_off, .int i_fell, .int i_fellToday, .int i_rotten, .int i_raked, .int i_cost, .ref a_dryGo, .ref a_wetGo, .ref a_keptSky, .int i_imaged, .int (nI itn), .int i_oldRaking, .long l_oldHeaps, .int (nI ilw), .ref a_oldSky, .ref a_oldCells, .ref a_sheetSort, .ref a_sheetSize, .ref a_items, .ref a_spare])), (a_tape, .inl (cI, 160, .inl tp))]) (c_X8_isLetter l dG cI cM cW cS (tp (p_pl tp tz a)) ) rZ0_ok (fun _ _ _ _ => trivial) kS_X8_140 hy_X8_isLetter ⟨Nat.le_of_ble_eq_true rfl, Nat.le_of_ble_eq_true rfl⟩ ⟨Nat.le_of_ble_eq_true rfl, Nat.le_of_ble_eq_true rfl⟩ dX8_next_199 [] [0, 1] rfl rfl rfl rfl (by decide) rfl (Nat.le_of_ble_eq_true rfl) ?_
                intro v57 w58 h59
                rcases h59 with h59 | h59
                ·
                  obtain ⟨rfl, rfl, hf60⟩ := h59
                  show X 0 0 [(m, .inr (7, [.ref a_sky, .ref a_kind, .ref a_more, .ref a_strewn, .int (nI tn), .ref a_treeCell, .ref a_treeSort, .ref a_treeLeaves, .int i_raking, .long l_heaps, .int (nI tz), .ref a_tape, .int (nI wr), .int (nI lw), .ref a_code, .ref a_begins, .int i_made, .int (nI (p_pl tp tz a)), .int (nI (p_pl tp tz a)), .int i_sort, .int i_value, .int i_open, .ref a_stack, .ref a_dry, .ref a_wet, .ref a_covered, .ref a_hangs, .ref a_off, .int i_fell, .int i_fellToday, .int i_rotten, .int i_raked, .int i_cost, .ref a_dryGo, .ref a_wetGo, .ref a_keptSky, .int i_imaged, .int (nI itn), .int i_oldRaking, .long l_oldHeaps, .int (nI ilw), .ref a_oldSky, .ref a_oldCells, .ref a_sheetSort, .ref a_sheetSize, .ref a_items, .ref a_spare])), (a_tape, .inl (cI, 160, .inl tp))] [(1, .int (tp (p_pl tp tz a))), (0, .ref m)] 202 [.int 1]
                  have hle := hf60
                  refine x_if_eq C dX8_next_202 (tgt := 250) rfl (fun q9 => absurd q9 (by decide)) (fun _ => ?_)
                  have L205_60 : ∀ (fuel : Nat) (e : Nat), (hqe : p_pl tp tz a ≤ e) → (hen : e ≤ tz) → (hs9 : p_sk p_le tp tz e = p_sk p_le tp tz (p_pl tp tz a)) → tz - e < fuel → X 0 0 [(m, .inr (7, [.ref a_sky, .ref a_kind, .ref a_more, .ref a_strewn, .int (nI tn), .ref a_treeCell, .ref a_treeSort, .ref a_treeLeaves, .int i_raking, .long l_heaps, .int (nI tz), .ref a_tape, .int (nI wr), .int (nI lw), .ref a_code, .ref a_begins, .int i_made, .int (nI e), .int (nI (p_pl tp tz a)), .int i_sort, .int i_value, .int i_open, .ref a_stack, .ref a_dry, .ref a_wet, .ref a_covered, .ref a_hangs, .ref a_off, .int i_fell, .int i_fellToday, .int i_rotten, .int i_raked, .int i_cost, .ref a_dryGo, .ref a_wetGo, .ref a_keptSky, .int i_imaged, .int (nI itn), .int i_oldRaking, .long l_oldHeaps, .int (nI ilw), .ref a_oldSky, .ref a_oldCells, .ref a_sheetSort, .ref a_sheetSize, .ref a_items, .ref a_spare])), (a_tape, .inl (cI, 160, .inl tp))] [(0, .ref m)] 205 [] := by
                    intro fuel
                    induction fuel with
                    | zero => intros; omega
                    | succ fuel ihL205_60 =>
                      intro e hqe hen hs9 hfu
                      refine x_aload_n C dX8_next_205 0 rfl ?_
                      refine x_get C inlX8 rfl 17 (by decide) gw_12_4 dX8_next_206 0 rfl rfl ?_
                      refine x_aload_n C dX8_next_209 0 rfl ?_
                      refine x_get C inlX8 rfl 10 (by decide) gw_11_20 dX8_next_210 0 rfl rfl ?_
                      refine x_icmp_ge C dX8_next_213 (tgt := 244) rfl (fun c62 => ?_) (fun c62 => ?_)
                      ·
                        have c62 : e ≥ tz := q_ge_t rfl rfl (by omega) (by omega) c62
                        have he9 : p_sk p_le tp tz (p_pl tp tz a) = e := by rw [← hs9]; first | exact p_sk_e (by omega) | exact p_sk_x (by assumption)
                        refine x_aload_n C dX8_next_244 0 rfl ?_
                        refine x_iconst C dX8_next_245 (v := 2) rfl ?_
                        refine x_put C inlX8 rfl tyX8 tyX8_ok nmX8 19 (by decide) gw_12_7 rfl dX8_next_246 0 rfl (rfl) rfl (Nat.le_of_ble_eq_true rfl) ?_
                        show X _ _ [(m, .inr (7, [.ref a_sky, .ref a_kind, .ref a_more, .ref a_strewn, .int (nI tn), .ref a_treeCell, .ref a_treeSort, .ref a_treeLeaves, .int i_raking, .long l_heaps, .int (nI tz), .ref a_tape, .int (nI wr), .int (nI lw), .ref a_code, .ref a_begins, .int i_made, .int (nI e), .int (nI (p_pl tp tz a)), .int 2, .int i_value, .int i_open, .ref a_stack, .ref a_dry, .ref a_wet, .ref a_covered, .ref a_hangs, .ref a_off, .int i_fell, .int i_fellToday, .int i_rotten, .int i_raked, .int i_cost, .ref a_dryGo, .ref a_wetGo, .ref a_keptSky, .int i_imaged, .int (nI itn), .int i_oldRaking, .long l_oldHeaps, .int (nI ilw), .ref a_oldSky, .ref a_oldCells, .ref a_sheetSort, .ref a_sheetSize, .ref a_items, .ref a_spare])), (a_tape, .inl (cI, 160, .inl tp))] _ _ _
                        refine E dX8_next_249 ?_
                        exact ⟨e, (p_pl tp tz a), 2, i_value, rfl, rfl, ⟨by rw [(p_tk_le hlt hndg hle).1, he9], rfl, (p_so_le hlt hndg hle).symm, fun h9 => by rw [p_so_le hlt hndg hle] at h9; exact absurd h9 (by decide), fun h9 => by rw [p_so_le hlt hndg hle] at h9; exact absurd h9 (by decide)⟩⟩
                      ·
                        have c62 : e < tz := q_ge_f rfl rfl (by omega) (by omega) c62
                        refine x_aload_n C dX8_next_216 0 rfl ?_
                        refine x_get C inlX8 rfl 11 (by decide) gw_11_1 dX8_next_217 0 rfl rfl ?_
                        refine x_aload_n C dX8_next_220 0 rfl ?_
                        refine x_get C inlX8 rfl 17 (by decide) gw_12_4 dX8_next_221 0 rfl rfl ?_
                        refine x_iaload C 0 rfl dX8_next_224 e (q_cl rfl (by omega)) (q_ix rfl (by omega) (by omega)) 1 rfl ?_
                        refine x_callS C (As := [.int (tp e)]) (st := []) (wc := []) (wr := [(m, .inr (7, [.ref a_sky, .ref a_kind, .ref a_more, .ref a_strewn, .int (nI tn), .ref a_treeCell, .ref a_treeSort, .ref a_treeLeaves, .int i_raking, .long l_heaps, .int (nI tz), .ref a_tape, .int (nI wr), .int (nI lw), .ref a_code, .ref a_begins, .int i_made, .int (nI e), .int (nI (p_pl tp tz a)), .int i_sort, .int i_value, .int i_open, .ref a_stack, .ref a_dry, .ref a_wet, .ref a_covered, .ref a_hangs, .ref a_off, .int i_fell, .int i_fellToday, .int i_rotten, .int i_raked, .int i_cost, .ref a_dryGo, .ref a_wetGo, .ref a_keptSky, .int i_imaged, .int (nI itn), .int i_oldRaking, .long l_oldHeaps, .int (nI ilw), .ref a_oldSky, .ref a_oldCells, .ref a_sheetSort, .ref a_sheetSize, .ref a_items, .ref a_spare])), (a_tape, .inl (cI, 160, .inl tp))]) (c_X8_isLetter l dG cI cM cW cS (tp e) ) rZ0_ok (fun _ _ _ _ => trivial) kS_X8_140 hy_X8_isLetter ⟨Nat.le_of_ble_eq_true rfl, Nat.le_of_ble_eq_true rfl⟩ ⟨Nat.le_of_ble_eq_true rfl, Nat.le_of_ble_eq_true rfl⟩ dX8_next_225 [] [0, 1] rfl rfl rfl rfl (by decide) rfl (Nat.le_of_ble_eq_true rfl) ?_
                        intro v63 w64 h65
                        rcases h65 with h65 | h65
                        ·
                          obtain ⟨rfl, rfl, hf66⟩ := h65
                          show X 0 0 [(m, .inr (7, [.ref a_sky, .ref a_kind, .ref a_more, .ref a_strewn, .int (nI tn), .ref a_treeCell, .ref a_treeSort, .ref a_treeLeaves, .int i_raking, .long l_heaps, .int (nI tz), .ref a_tape, .int (nI wr), .int (nI lw), .ref a_code, .ref a_begins, .int i_made, .int (nI e), .int (nI (p_pl tp tz a)), .int i_sort, .int i_value, .int i_open, .ref a_stack, .ref a_dry, .ref a_wet, .ref a_covered, .ref a_hangs, .ref a_off, .int i_fell, .int i_fellToday, .int i_rotten, .int i_raked, .int i_cost, .ref a_dryGo, .ref a_wetGo, .ref a_keptSky, .int i_imaged, .int (nI itn), .int i_oldRaking, .long l_oldHeaps, .int (nI ilw), .ref a_oldSky, .ref a_oldCells, .ref a_sheetSort, .ref a_sheetSize, .ref a_items, .ref a_spare])), (a_tape, .inl (cI, 160, .inl tp))] [(0, .ref m)] 228 [.int 1]
                          have hle2 := hf66
                          refine x_if_eq C dX8_next_228 (tgt := 244) rfl (fun q9 => absurd q9 (by decide)) (fun _ => ?_)
                          refine x_aload_n C dX8_next_231 0 rfl ?_
                          refine x_dup C dX8_next_232 rfl ?_
                          refine x_get C inlX8 rfl 17 (by decide) gw_12_4 dX8_next_233 0 rfl rfl ?_
                          refine x_iconst C dX8_next_236 (v := 1) rfl ?_
                          refine x_iadd C dX8_next_237 ?_
                          refine x_topi C (nI (e + 1)) (q_iadd (a := e) (b := 1) rfl (rfl : (1 : Int32) = nI 1)) ?_
                          refine x_put C inlX8 rfl tyX8 tyX8_ok nmX8 17 (by decide) gw_12_4 rfl dX8_next_238 0 rfl (rfl) rfl (Nat.le_of_ble_eq_true rfl) ?_
                          show X _ _ [(m, .inr (7, [.ref a_sky, .ref a_kind, .ref a_more, .ref a_strewn, .int (nI tn), .ref a_treeCell, .ref a_treeSort, .ref a_treeLeaves, .int i_raking, .long l_heaps, .int (nI tz), .ref a_tape, .int (nI wr), .int (nI lw), .ref a_code, .ref a_begins, .int i_made, .int (nI (e + 1)), .int (nI (p_pl tp tz a)), .int i_sort, .int i_value, .int i_open, .ref a_stack, .ref a_dry, .ref a_wet, .ref a_covered, .ref a_hangs, .ref a_off, .int i_fell, .int i_fellToday, .int i_rotten, .int i_raked, .int i_cost, .ref a_dryGo, .ref a_wetGo, .ref a_keptSky, .int i_imaged, .int (nI itn), .int i_oldRaking, .long l_oldHeaps, .int (nI ilw), .ref a_oldSky, .ref a_oldCells, .ref a_sheetSort, .ref a_sheetSize, .ref a_items, .ref a_spare])), (a_tape, .inl (cI, 160, .inl tp))] _ _ _
                          refine x_goto C dX8_next_241 (tgt := 205) rfl ?_
                          exact ihL205_60 (e + 1) (by omega) (by omega) ((p_sk_s (show e < tz by omega) hle2).symm.trans hs9) (by omega)
                        ·
                          obtain ⟨rfl, rfl, hf67⟩ := h65
                          show X 0 0 [(m, .inr (7, [.ref a_sky, .ref a_kind, .ref a_more, .ref a_strewn, .int (nI tn), .ref a_treeCell, .ref a_treeSort, .ref a_treeLeaves, .int i_raking, .long l_heaps, .int (nI tz), .ref a_tape, .int (nI wr), .int (nI lw), .ref a_code, .ref a_begins, .int i_made, .int (nI e), .int (nI (p_pl tp tz a)), .int i_sort, .int i_value, .int i_open, .ref a_stack, .ref a_dry, .ref a_wet, .ref a_covered, .ref a_hangs, .ref a_off, .int i_fell, .int i_fellToday, .int i_rotten, .int i_raked, .int i_cost, .ref a_dryGo, .ref a_wetGo, .ref a_keptSky, .int i_imaged, .int (nI itn), .int i_oldRaking, .long l_oldHeaps, .int (nI ilw), .ref a_oldSky, .ref a_oldCells, .ref a_sheetSort, .ref a_sheetSize, .ref a_items, .ref a_spare])), (a_tape, .inl (cI, 160, .inl tp))] [(0, .ref m)] 228 [.int 0]
                          have hle2 := hf67
                          refine x_if_eq C dX8_next_228 (tgt := 244) rfl (fun _ => ?_) (fun q9 => by first | exact absurd q9 (by decide) | exact absurd (by decide) q9)
                          have he9 : p_sk p_le tp tz (p_pl tp tz a) = e := by rw [← hs9]; first | exact p_sk_e (by omega) | exact p_sk_x (by assumption)
                          refine x_aload_n C dX8_next_244 0 rfl ?_
                          refine x_iconst C dX8_next_245 (v := 2) rfl ?_
                          refine x_put C inlX8 rfl tyX8 tyX8_ok nmX8 19 (by decide) gw_12_7 rfl dX8_next_246 0 rfl (rfl) rfl (Nat.le_of_ble_eq_true rfl) ?_
                          show X _ _ [(m, .inr (7, [.ref a_sky, .ref a_kind, .ref a_more, .ref a_strewn, .int (nI tn), .ref a_treeCell, .ref a_treeSort, .ref a_treeLeaves, .int i_raking, .long l_heaps, .int (nI tz), .ref a_tape, .int (nI wr), .int (nI lw), .ref a_code, .ref a_begins, .int i_made, .int (nI e), .int (nI (p_pl tp tz a)), .int 2, .int i_value, .int i_open, .ref a_stack, .ref a_dry, .ref a_wet, .ref a_covered, .ref a_hangs, .ref a_off, .int i_fell, .int i_fellToday, .int i_rotten, .int i_raked, .int i_cost, .ref a_dryGo, .ref a_wetGo, .ref a_keptSky, .int i_imaged, .int (nI itn), .int i_oldRaking, .long l_oldHeaps, .int (nI ilw), .ref a_oldSky, .ref a_oldCells, .ref a_sheetSort, .ref a_sheetSize, .ref a_items, .ref a_spare])), (a_tape, .inl (cI, 160, .inl tp))] _ _ _
                          refine E dX8_next_249 ?_
                          exact ⟨e, (p_pl tp tz a), 2, i_value, rfl, rfl, ⟨by rw [(p_tk_le hlt hndg hle).1, he9], rfl, (p_so_le hlt hndg hle).symm, fun h9 => by rw [p_so_le hlt hndg hle] at h9; exact absurd h9 (by decide), fun h9 => by rw [p_so_le hlt hndg hle] at h9; exact absurd h9 (by decide)⟩⟩
                  refine x_lv C [1] (lv' := [(0, .ref m)]) rfl ?_
                  exact L205_60 ((tz - (p_pl tp tz a)) + 1) (p_pl tp tz a) (by omega) (by omega) (rfl) (Nat.lt_succ_self _)
                ·
                  obtain ⟨rfl, rfl, hf68⟩ := h59
                  show X 0 0 [(m, .inr (7, [.ref a_sky, .ref a_kind, .ref a_more, .ref a_strewn, .int (nI tn), .ref a_treeCell, .ref a_treeSort, .ref a_treeLeaves, .int i_raking, .long l_heaps, .int (nI tz), .ref a_tape, .int (nI wr), .int (nI lw), .ref a_code, .ref a_begins, .int i_made, .int (nI (p_pl tp tz a)), .int (nI (p_pl tp tz a)), .int i_sort, .int i_value, .int i_open, .ref a_stack, .ref a_dry, .ref a_wet, .ref a_covered, .ref a_hangs, .ref a_off, .int i_fell, .int i_fellToday, .int i_rotten, .int i_raked, .int i_cost, .ref a_dryGo, .ref a_wetGo, .ref a_keptSky, .int i_imaged, .int (nI itn), .int i_oldRaking, .long l_oldHeaps, .int (nI ilw), .ref a_oldSky, .ref a_oldCells, .ref a_sheetSort, .ref a_sheetSize, .ref a_items, .ref a_spare])), (a_tape, .inl (cI, 160, .inl tp))] [(1, .int (tp (p_pl tp tz a))), (0, .ref m)] 202 [.int 0]
                  have hnle := hf68
                  refine x_if_eq C dX8_next_202 (tgt := 250) rfl (fun _ => ?_) (fun q9 => by first | exact absurd q9 (by decide) | exact absurd (by decide) q9)
                  refine x_aload_n C dX8_next_250 1 rfl ?_
                  refine x_dup C dX8_next_251 rfl ?_
                  refine x_get C inlX8 rfl 17 (by decide) gw_12_4 dX8_next_252 0 rfl rfl ?_
                  refine x_iconst C dX8_next_255 (v := 1) rfl ?_
                  refine x_iadd C dX8_next_256 ?_
                  refine x_topi C (nI ((p_pl tp tz a) + 1)) (q_iadd (a := p_pl tp tz a) (b := 1) rfl (rfl : (1 : Int32) = nI 1)) ?_
                  refine x_put C inlX8 rfl tyX8 tyX8_ok nmX8 17 (by decide) gw_12_4 rfl dX8_next_257 0 rfl (rfl) rfl (Nat.le_of_ble_eq_true rfl) ?_
                  show X _ _ [(m, .inr (7, [.ref a_sky, .ref a_kind, .ref a_more, .ref a_strewn, .int (nI tn), .ref a_treeCell, .ref a_treeSort, .ref a_treeLeaves, .int i_raking, .long l_heaps, .int (nI tz), .ref a_tape, .int (nI wr), .int (nI lw), .ref a_code, .ref a_begins, .int i_made, .int (nI ((p_pl tp tz a) + 1)), .int (nI (p_pl tp tz a)), .int i_sort, .int i_value, .int i_open, .ref a_stack, .ref a_dry, .ref a_wet, .ref a_covered, .ref a_hangs, .ref a_off, .int i_fell, .int i_fellToday, .int i_rotten, .int i_raked, .int i_cost, .ref a_dryGo, .ref a_wetGo, .ref a_keptSky, .int i_imaged, .int (nI itn), .int i_oldRaking, .long l_oldHeaps, .int (nI ilw), .ref a_oldSky, .ref a_oldCells, .ref a_sheetSort, .ref a_sheetSize, .ref a_items, .ref a_spare])), (a_tape, .inl (cI, 160, .inl tp))] _ _ _
                  refine x_aload_n C dX8_next_260 1 rfl ?_
                  refine x_iload_n C dX8_next_261 0 rfl ?_
                  refine x_put C inlX8 rfl tyX8 tyX8_ok nmX8 20 (by decide) gw_12_13 rfl dX8_next_262 0 rfl (rfl) rfl (Nat.le_of_ble_eq_true rfl) ?_
                  show X _ _ [(m, .inr (7, [.ref a_sky, .ref a_kind, .ref a_more, .ref a_strewn, .int (nI tn), .ref a_treeCell, .ref a_treeSort, .ref a_treeLeaves, .int i_raking, .long l_heaps, .int (nI tz), .ref a_tape, .int (nI wr), .int (nI lw), .ref a_code, .ref a_begins, .int i_made, .int (nI ((p_pl tp tz a) + 1)), .int (nI (p_pl tp tz a)), .int i_sort, .int (tp (p_pl tp tz a)), .int i_open, .ref a_stack, .ref a_dry, .ref a_wet, .ref a_covered, .ref a_hangs, .ref a_off, .int i_fell, .int i_fellToday, .int i_rotten, .int i_raked, .int i_cost, .ref a_dryGo, .ref a_wetGo, .ref a_keptSky, .int i_imaged, .int (nI itn), .int i_oldRaking, .long l_oldHeaps, .int (nI ilw), .ref a_oldSky, .ref a_oldCells, .ref a_sheetSort, .ref a_sheetSize, .ref a_items, .ref a_spare])), (a_tape, .inl (cI, 160, .inl tp))] _ _ _
                  show X _ _ _ _ 265 _
                  refine x_aload_n C dX8_next_265 1 rfl ?_
                  refine x_iload_n C dX8_next_266 0 rfl ?_
                  refine x_bipush C dX8_next_267 (v := 40) rfl ?_
                  refine x_icmp_eq C dX8_next_269 (tgt := 314) rfl (fun c69 => ?_) (fun c69 => ?_)
                  ·
                    have h40 := c69
                    have hsg : p_sg (tp (p_pl tp tz a)) = true := p_sg_t (by first | exact Or.inl h40 | exact Or.inr (Or.inl h41) | exact Or.inr (Or.inr (Or.inl h59)) | exact Or.inr (Or.inr (Or.inr (Or.inl h43))) | exact Or.inr (Or.inr (Or.inr (Or.inr (Or.inl h45)))) | exact Or.inr (Or.inr (Or.inr (Or.inr (Or.inr (Or.inl h42))))) | exact Or.inr (Or.inr (Or.inr (Or.inr (Or.inr (Or.inr (Or.inl h60)))))) | exact Or.inr (Or.inr (Or.inr (Or.inr (Or.inr (Or.inr (Or.inr h61)))))))
                    refine x_iconst C dX8_next_314 (v := 3) rfl ?_
                    refine x_goto C dX8_next_315 (tgt := 319) rfl ?_
                    refine x_put C inlX8 rfl tyX8 tyX8_ok nmX8 19 (by decide) gw_12_7 rfl dX8_next_319 0 rfl (rfl) rfl (Nat.le_of_ble_eq_true rfl) ?_
                    show X _ _ [(m, .inr (7, [.ref a_sky, .ref a_kind, .ref a_more, .ref a_strewn, .int (nI tn), .ref a_treeCell, .ref a_treeSort, .ref a_treeLeaves, .int i_raking, .long l_heaps, .int (nI tz), .ref a_tape, .int (nI wr), .int (nI lw), .ref a_code, .ref a_begins, .int i_made, .int (nI ((p_pl tp tz a) + 1)), .int (nI (p_pl tp tz a)), .int 3, .int (tp (p_pl tp tz a)), .int i_open, .ref a_stack, .ref a_dry, .ref a_wet, .ref a_covered, .ref a_hangs, .ref a_off, .int i_fell, .int i_fellToday, .int i_rotten, .int i_raked, .int i_cost, .ref a_dryGo, .ref a_wetGo, .ref a_keptSky, .int i_imaged, .int (nI itn), .int i_oldRaking, .long l_oldHeaps, .int (nI ilw), .ref a_oldSky, .ref a_oldCells, .ref a_sheetSort, .ref a_sheetSize, .ref a_items, .ref a_spare])), (a_tape, .inl (cI, 160, .inl tp))] _ _ _
                    refine E dX8_next_322 ?_
                    exact ⟨((p_pl tp tz a) + 1), (p_pl tp tz a), 3, (tp (p_pl tp tz a)), rfl, rfl, ⟨(p_tk_sg hlt hndg hnle).1.symm, rfl, by rw [p_so_sg hlt hndg hnle]; first | exact (if_pos hsg).symm | exact (if_neg hsg).symm, fun h9 => by rw [p_so_sg hlt hndg hnle] at h9; exact absurd h9 (by split <;> decide), fun _ => rfl⟩⟩
                  ·
                    have h40 := c69
                    refine x_iload_n C dX8_next_272 0 rfl ?_
                    refine x_bipush C dX8_next_273 (v := 41) rfl ?_
                    refine x_icmp_eq C dX8_next_275 (tgt := 314) rfl (fun c70 => ?_) (fun c70 => ?_)
                    ·
                      have h41 := c70
                      have hsg : p_sg (tp (p_pl tp tz a)) = true := p_sg_t (by first | exact Or.inl h40 | exact Or.inr (Or.inl h41) | exact Or.inr (Or.inr (Or.inl h59)) | exact Or.inr (Or.inr (Or.inr (Or.inl h43))) | exact Or.inr (Or.inr (Or.inr (Or.inr (Or.inl h45)))) | exact Or.inr (Or.inr (Or.inr (Or.inr (Or.inr (Or.inl h42))))) | exact Or.inr (Or.inr (Or.inr (Or.inr (Or.inr (Or.inr (Or.inl h60)))))) | exact Or.inr (Or.inr (Or.inr (Or.inr (Or.inr (Or.inr (Or.inr h61)))))))
                      refine x_iconst C dX8_next_314 (v := 3) rfl ?_
                      refine x_goto C dX8_next_315 (tgt := 319) rfl ?_
                      refine x_put C inlX8 rfl tyX8 tyX8_ok nmX8 19 (by decide) gw_12_7 rfl dX8_next_319 0 rfl (rfl) rfl (Nat.le_of_ble_eq_true rfl) ?_
                      show X _ _ [(m, .inr (7, [.ref a_sky, .ref a_kind, .ref a_more, .ref a_strewn, .int (nI tn), .ref a_treeCell, .ref a_treeSort, .ref a_treeLeaves, .int i_raking, .long l_heaps, .int (nI tz), .ref a_tape, .int (nI wr), .int (nI lw), .ref a_code, .ref a_begins, .int i_made, .int (nI ((p_pl tp tz a) + 1)), .int (nI (p_pl tp tz a)), .int 3, .int (tp (p_pl tp tz a)), .int i_open, .ref a_stack, .ref a_dry, .ref a_wet, .ref a_covered, .ref a_hangs, .ref a_off, .int i_fell, .int i_fellToday, .int i_rotten, .int i_raked, .int i_cost, .ref a_dryGo, .ref a_wetGo, .ref a_keptSky, .int i_imaged, .int (nI itn), .int i_oldRaking, .long l_oldHeaps, .int (nI ilw), .ref a_oldSky, .ref a_oldCells, .ref a_sheetSort, .ref a_sheetSize, .ref a_items, .ref a_spare])), (a_tape, .inl (cI, 160, .inl tp))] _ _ _
                      refine E dX8_next_322 ?_
                      exact ⟨((p_pl tp tz a) + 1), (p_pl tp tz a), 3, (tp (p_pl tp tz a)), rfl, rfl, ⟨(p_tk_sg hlt hndg hnle).1.symm, rfl, by rw [p_so_sg hlt hndg hnle]; first | exact (if_pos hsg).symm | exact (if_neg hsg).symm, fun h9 => by rw [p_so_sg hlt hndg hnle] at h9; exact absurd h9 (by split <;> decide), fun _ => rfl⟩⟩
                    ·
                      have h41 := c70
                      refine x_iload_n C dX8_next_278 0 rfl ?_
                      refine x_bipush C dX8_next_279 (v := 59) rfl ?_
                      refine x_icmp_eq C dX8_next_281 (tgt := 314) rfl (fun c71 => ?_) (fun c71 => ?_)
                      ·
                        have h59 := c71
                        have hsg : p_sg (tp (p_pl tp tz a)) = true := p_sg_t (by first | exact Or.inl h40 | exact Or.inr (Or.inl h41) | exact Or.inr (Or.inr (Or.inl h59)) | exact Or.inr (Or.inr (Or.inr (Or.inl h43))) | exact Or.inr (Or.inr (Or.inr (Or.inr (Or.inl h45)))) | exact Or.inr (Or.inr (Or.inr (Or.inr (Or.inr (Or.inl h42))))) | exact Or.inr (Or.inr (Or.inr (Or.inr (Or.inr (Or.inr (Or.inl h60)))))) | exact Or.inr (Or.inr (Or.inr (Or.inr (Or.inr (Or.inr (Or.inr h61)))))))
                        refine x_iconst C dX8_next_314 (v := 3) rfl ?_
                        refine x_goto C dX8_next_315 (tgt := 319) rfl ?_
                        refine x_put C inlX8 rfl tyX8 tyX8_ok nmX8 19 (by decide) gw_12_7 rfl dX8_next_319 0 rfl (rfl) rfl (Nat.le_of_ble_eq_true rfl) ?_
                        show X _ _ [(m, .inr (7, [.ref a_sky, .ref a_kind, .ref a_more, .ref a_strewn, .int (nI tn), .ref a_treeCell, .ref a_treeSort, .ref a_treeLeaves, .int i_raking, .long l_heaps, .int (nI tz), .ref a_tape, .int (nI wr), .int (nI lw), .ref a_code, .ref a_begins, .int i_made, .int (nI ((p_pl tp tz a) + 1)), .int (nI (p_pl tp tz a)), .int 3, .int (tp (p_pl tp tz a)), .int i_open, .ref a_stack, .ref a_dry, .ref a_wet, .ref a_covered, .ref a_hangs, .ref a_off, .int i_fell, .int i_fellToday, .int i_rotten, .int i_raked, .int i_cost, .ref a_dryGo, .ref a_wetGo, .ref a_keptSky, .int i_imaged, .int (nI itn), .int i_oldRaking, .long l_oldHeaps, .int (nI ilw), .ref a_oldSky, .ref a_oldCells, .ref a_sheetSort, .ref a_sheetSize, .ref a_items, .ref a_spare])), (a_tape, .inl (cI, 160, .inl tp))] _ _ _
                        refine E dX8_next_322 ?_
                        exact ⟨((p_pl tp tz a) + 1), (p_pl tp tz a), 3, (tp (p_pl tp tz a)), rfl, rfl, ⟨(p_tk_sg hlt hndg hnle).1.symm, rfl, by rw [p_so_sg hlt hndg hnle]; first | exact (if_pos hsg).symm | exact (if_neg hsg).symm, fun h9 => by rw [p_so_sg hlt hndg hnle] at h9; exact absurd h9 (by split <;> decide), fun _ => rfl⟩⟩
                      ·
                        have h59 := c71
                        refine x_iload_n C dX8_next_284 0 rfl ?_
                        refine x_bipush C dX8_next_285 (v := 43) rfl ?_
                        refine x_icmp_eq C dX8_next_287 (tgt := 314) rfl (fun c72 => ?_) (fun c72 => ?_)
                        ·
                          have h43 := c72
                          have hsg : p_sg (tp (p_pl tp tz a)) = true := p_sg_t (by first | exact Or.inl h40 | exact Or.inr (Or.inl h41) | exact Or.inr (Or.inr (Or.inl h59)) | exact Or.inr (Or.inr (Or.inr (Or.inl h43))) | exact Or.inr (Or.inr (Or.inr (Or.inr (Or.inl h45)))) | exact Or.inr (Or.inr (Or.inr (Or.inr (Or.inr (Or.inl h42))))) | exact Or.inr (Or.inr (Or.inr (Or.inr (Or.inr (Or.inr (Or.inl h60)))))) | exact Or.inr (Or.inr (Or.inr (Or.inr (Or.inr (Or.inr (Or.inr h61)))))))
                          refine x_iconst C dX8_next_314 (v := 3) rfl ?_
                          refine x_goto C dX8_next_315 (tgt := 319) rfl ?_
                          refine x_put C inlX8 rfl tyX8 tyX8_ok nmX8 19 (by decide) gw_12_7 rfl dX8_next_319 0 rfl (rfl) rfl (Nat.le_of_ble_eq_true rfl) ?_
                          show X _ _ [(m, .inr (7, [.ref a_sky, .ref a_kind, .ref a_more, .ref a_strewn, .int (nI tn), .ref a_treeCell, .ref a_treeSort, .ref a_treeLeaves, .int i_raking, .long l_heaps, .int (nI tz), .ref a_tape, .int (nI wr), .int (nI lw), .ref a_code, .ref a_begins, .int i_made, .int (nI ((p_pl tp tz a) + 1)), .int (nI (p_pl tp tz a)), .int 3, .int (tp (p_pl tp tz a)), .int i_open, .ref a_stack, .ref a_dry, .ref a_wet, .ref a_covered, .ref a_hangs, .ref a_off, .int i_fell, .int i_fellToday, .int i_rotten, .int i_raked, .int i_cost, .ref a_dryGo, .ref a_wetGo, .ref a_keptSky, .int i_imaged, .int (nI itn), .int i_oldRaking, .long l_oldHeaps, .int (nI ilw), .ref a_oldSky, .ref a_oldCells, .ref a_sheetSort, .ref a_sheetSize, .ref a_items, .ref a_spare])), (a_tape, .inl (cI, 160, .inl tp))] _ _ _
                          refine E dX8_next_322 ?_
                          exact ⟨((p_pl tp tz a) + 1), (p_pl tp tz a), 3, (tp (p_pl tp tz a)), rfl, rfl, ⟨(p_tk_sg hlt hndg hnle).1.symm, rfl, by rw [p_so_sg hlt hndg hnle]; first | exact (if_pos hsg).symm | exact (if_neg hsg).symm, fun h9 => by rw [p_so_sg hlt hndg hnle] at h9; exact absurd h9 (by split <;> decide), fun _ => rfl⟩⟩
                        ·
                          have h43 := c72
                          refine x_iload_n C dX8_next_290 0 rfl ?_
                          refine x_bipush C dX8_next_291 (v := 45) rfl ?_
                          refine x_icmp_eq C dX8_next_293 (tgt := 314) rfl (fun c73 => ?_) (fun c73 => ?_)
                          ·
                            have h45 := c73
                            have hsg : p_sg (tp (p_pl tp tz a)) = true := p_sg_t (by first | exact Or.inl h40 | exact Or.inr (Or.inl h41) | exact Or.inr (Or.inr (Or.inl h59)) | exact Or.inr (Or.inr (Or.inr (Or.inl h43))) | exact Or.inr (Or.inr (Or.inr (Or.inr (Or.inl h45)))) | exact Or.inr (Or.inr (Or.inr (Or.inr (Or.inr (Or.inl h42))))) | exact Or.inr (Or.inr (Or.inr (Or.inr (Or.inr (Or.inr (Or.inl h60)))))) | exact Or.inr (Or.inr (Or.inr (Or.inr (Or.inr (Or.inr (Or.inr h61)))))))
                            refine x_iconst C dX8_next_314 (v := 3) rfl ?_
                            refine x_goto C dX8_next_315 (tgt := 319) rfl ?_
                            refine x_put C inlX8 rfl tyX8 tyX8_ok nmX8 19 (by decide) gw_12_7 rfl dX8_next_319 0 rfl (rfl) rfl (Nat.le_of_ble_eq_true rfl) ?_
                            show X _ _ [(m, .inr (7, [.ref a_sky, .ref a_kind, .ref a_more, .ref a_strewn, .int (nI tn), .ref a_treeCell, .ref a_treeSort, .ref a_treeLeaves, .int i_raking, .long l_heaps, .int (nI tz), .ref a_tape, .int (nI wr), .int (nI lw), .ref a_code, .ref a_begins, .int i_made, .int (nI ((p_pl tp tz a) + 1)), .int (nI (p_pl tp tz a)), .int 3, .int (tp (p_pl tp tz a)), .int i_open, .ref a_stack, .ref a_dry, .ref a_wet, .ref a_covered, .ref a_hangs, .ref a_off, .int i_fell, .int i_fellToday, .int i_rotten, .int i_raked, .int i_cost, .ref a_dryGo, .ref a_wetGo, .ref a_keptSky, .int i_imaged, .int (nI itn), .int i_oldRaking, .long l_oldHeaps, .int (nI ilw), .ref a_oldSky, .ref a_oldCells, .ref a_sheetSort, .ref a_sheetSize, .ref a_items, .ref a_spare])), (a_tape, .inl (cI, 160, .inl tp))] _ _ _
                            refine E dX8_next_322 ?_
                            exact ⟨((p_pl tp tz a) + 1), (p_pl tp tz a), 3, (tp (p_pl tp tz a)), rfl, rfl, ⟨(p_tk_sg hlt hndg hnle).1.symm, rfl, by rw [p_so_sg hlt hndg hnle]; first | exact (if_pos hsg).symm | exact (if_neg hsg).symm, fun h9 => by rw [p_so_sg hlt hndg hnle] at h9; exact absurd h9 (by split <;> decide), fun _ => rfl⟩⟩
                          ·
                            have h45 := c73
                            refine x_iload_n C dX8_next_296 0 rfl ?_
                            refine x_bipush C dX8_next_297 (v := 42) rfl ?_
                            refine x_icmp_eq C dX8_next_299 (tgt := 314) rfl (fun c74 => ?_) (fun c74 => ?_)
                            ·
                              have h42 := c74
                              have hsg : p_sg (tp (p_pl tp tz a)) = true := p_sg_t (by first | exact Or.inl h40 | exact Or.inr (Or.inl h41) | exact Or.inr (Or.inr (Or.inl h59)) | exact Or.inr (Or.inr (Or.inr (Or.inl h43))) | exact Or.inr (Or.inr (Or.inr (Or.inr (Or.inl h45)))) | exact Or.inr (Or.inr (Or.inr (Or.inr (Or.inr (Or.inl h42))))) | exact Or.inr (Or.inr (Or.inr (Or.inr (Or.inr (Or.inr (Or.inl h60)))))) | exact Or.inr (Or.inr (Or.inr (Or.inr (Or.inr (Or.inr (Or.inr h61)))))))
                              refine x_iconst C dX8_next_314 (v := 3) rfl ?_
                              refine x_goto C dX8_next_315 (tgt := 319) rfl ?_
                              refine x_put C inlX8 rfl tyX8 tyX8_ok nmX8 19 (by decide) gw_12_7 rfl dX8_next_319 0 rfl (rfl) rfl (Nat.le_of_ble_eq_true rfl) ?_
                              show X _ _ [(m, .inr (7, [.ref a_sky, .ref a_kind, .ref a_more, .ref a_strewn, .int (nI tn), .ref a_treeCell, .ref a_treeSort, .ref a_treeLeaves, .int i_raking, .long l_heaps, .int (nI tz), .ref a_tape, .int (nI wr), .int (nI lw), .ref a_code, .ref a_begins, .int i_made, .int (nI ((p_pl tp tz a) + 1)), .int (nI (p_pl tp tz a)), .int 3, .int (tp (p_pl tp tz a)), .int i_open, .ref a_stack, .ref a_dry, .ref a_wet, .ref a_covered, .ref a_hangs, .ref a_off, .int i_fell, .int i_fellToday, .int i_rotten, .int i_raked, .int i_cost, .ref a_dryGo, .ref a_wetGo, .ref a_keptSky, .int i_imaged, .int (nI itn), .int i_oldRaking, .long l_oldHeaps, .int (nI ilw), .ref a_oldSky, .ref a_oldCells, .ref a_sheetSort, .ref a_sheetSize, .ref a_items, .ref a_spare])), (a_tape, .inl (cI, 160, .inl tp))] _ _ _
                              refine E dX8_next_322 ?_
                              exact ⟨((p_pl tp tz a) + 1), (p_pl tp tz a), 3, (tp (p_pl tp tz a)), rfl, rfl, ⟨(p_tk_sg hlt hndg hnle).1.symm, rfl, by rw [p_so_sg hlt hndg hnle]; first | exact (if_pos hsg).symm | exact (if_neg hsg).symm, fun h9 => by rw [p_so_sg hlt hndg hnle] at h9; exact absurd h9 (by split <;> decide), fun _ => rfl⟩⟩
                            ·
                              have h42 := c74
                              refine x_iload_n C dX8_next_302 0 rfl ?_
                              refine x_bipush C dX8_next_303 (v := 60) rfl ?_
                              refine x_icmp_eq C dX8_next_305 (tgt := 314) rfl (fun c75 => ?_) (fun c75 => ?_)
                              ·
                                have h60 := c75
                                have hsg : p_sg (tp (p_pl tp tz a)) = true := p_sg_t (by first | exact Or.inl h40 | exact Or.inr (Or.inl h41) | exact Or.inr (Or.inr (Or.inl h59)) | exact Or.inr (Or.inr (Or.inr (Or.inl h43))) | exact Or.inr (Or.inr (Or.inr (Or.inr (Or.inl h45)))) | exact Or.inr (Or.inr (Or.inr (Or.inr (Or.inr (Or.inl h42))))) | exact Or.inr (Or.inr (Or.inr (Or.inr (Or.inr (Or.inr (Or.inl h60)))))) | exact Or.inr (Or.inr (Or.inr (Or.inr (Or.inr (Or.inr (Or.inr h61)))))))
                                refine x_iconst C dX8_next_314 (v := 3) rfl ?_
                                refine x_goto C dX8_next_315 (tgt := 319) rfl ?_
                                refine x_put C inlX8 rfl tyX8 tyX8_ok nmX8 19 (by decide) gw_12_7 rfl dX8_next_319 0 rfl (rfl) rfl (Nat.le_of_ble_eq_true rfl) ?_
                                show X _ _ [(m, .inr (7, [.ref a_sky, .ref a_kind, .ref a_more, .ref a_strewn, .int (nI tn), .ref a_treeCell, .ref a_treeSort, .ref a_treeLeaves, .int i_raking, .long l_heaps, .int (nI tz), .ref a_tape, .int (nI wr), .int (nI lw), .ref a_code, .ref a_begins, .int i_made, .int (nI ((p_pl tp tz a) + 1)), .int (nI (p_pl tp tz a)), .int 3, .int (tp (p_pl tp tz a)), .int i_open, .ref a_stack, .ref a_dry, .ref a_wet, .ref a_covered, .ref a_hangs, .ref a_off, .int i_fell, .int i_fellToday, .int i_rotten, .int i_raked, .int i_cost, .ref a_dryGo, .ref a_wetGo, .ref a_keptSky, .int i_imaged, .int (nI itn), .int i_oldRaking, .long l_oldHeaps, .int (nI ilw), .ref a_oldSky, .ref a_oldCells, .ref a_sheetSort, .ref a_sheetSize, .ref a_items, .ref a_spare])), (a_tape, .inl (cI, 160, .inl tp))] _ _ _
                                refine E dX8_next_322 ?_
                                exact ⟨((p_pl tp tz a) + 1), (p_pl tp tz a), 3, (tp (p_pl tp tz a)), rfl, rfl, ⟨(p_tk_sg hlt hndg hnle).1.symm, rfl, by rw [p_so_sg hlt hndg hnle]; first | exact (if_pos hsg).symm | exact (if_neg hsg).symm, fun h9 => by rw [p_so_sg hlt hndg hnle] at h9; exact absurd h9 (by split <;> decide), fun _ => rfl⟩⟩
                              ·
                                have h60 := c75
                                refine x_iload_n C dX8_next_308 0 rfl ?_
                                refine x_bipush C dX8_next_309 (v := 61) rfl ?_
                                refine x_icmp_ne C dX8_next_311 (tgt := 318) rfl (fun c76 => ?_) (fun c76 => ?_)
                                ·
                                  have h61 := c76
                                  have hsg : ¬ p_sg (tp (p_pl tp tz a)) = true := p_sg_f h40 h41 h59 h43 h45 h42 h60 h61
                                  refine x_iconst C dX8_next_318 (v := 4) rfl ?_
                                  refine x_put C inlX8 rfl tyX8 tyX8_ok nmX8 19 (by decide) gw_12_7 rfl dX8_next_319 0 rfl (rfl) rfl (Nat.le_of_ble_eq_true rfl) ?_
                                  show X _ _ [(m, .inr (7, [.ref a_sky, .ref a_kind, .ref a_more, .ref a_strewn, .int (nI tn), .ref a_treeCell, .ref a_treeSort, .ref a_treeLeaves, .int i_raking, .long l_heaps, .int (nI tz), .ref a_tape, .int (nI wr), .int (nI lw), .ref a_code, .ref a_begins, .int i_made, .int (nI ((p_pl tp tz a) + 1)), .int (nI (p_pl tp tz a)), .int 4, .int (tp (p_pl tp tz a)), .int i_open, .ref a_stack, .ref a_dry, .ref a_wet, .ref a_covered, .ref a_hangs, .ref a_off, .int i_fell, .int i_fellToday, .int i_rotten, .int i_raked, .int i_cost, .ref a_dryGo, .ref a_wetGo, .ref a_keptSky, .int i_imaged, .int (nI itn), .int i_oldRaking, .long l_oldHeaps, .int (nI ilw), .ref a_oldSky, .ref a_oldCells, .ref a_sheetSort, .ref a_sheetSize, .ref a_items, .ref a_spare])), (a_tape, .inl (cI, 160, .inl tp))] _ _ _
                                  refine E dX8_next_322 ?_
                                  exact ⟨((p_pl tp tz a) + 1), (p_pl tp tz a), 4, (tp (p_pl tp tz a)), rfl, rfl, ⟨(p_tk_sg hlt hndg hnle).1.symm, rfl, by rw [p_so_sg hlt hndg hnle]; first | exact (if_pos hsg).symm | exact (if_neg hsg).symm, fun h9 => by rw [p_so_sg hlt hndg hnle] at h9; exact absurd h9 (by split <;> decide), fun _ => rfl⟩⟩
                                ·
                                  have h61 := c76
                                  have hsg : p_sg (tp (p_pl tp tz a)) = true := p_sg_t (by first | exact Or.inl h40 | exact Or.inr (Or.inl h41) | exact Or.inr (Or.inr (Or.inl h59)) | exact Or.inr (Or.inr (Or.inr (Or.inl h43))) | exact Or.inr (Or.inr (Or.inr (Or.inr (Or.inl h45)))) | exact Or.inr (Or.inr (Or.inr (Or.inr (Or.inr (Or.inl h42))))) | exact Or.inr (Or.inr (Or.inr (Or.inr (Or.inr (Or.inr (Or.inl h60)))))) | exact Or.inr (Or.inr (Or.inr (Or.inr (Or.inr (Or.inr (Or.inr h61)))))))
                                  refine x_iconst C dX8_next_314 (v := 3) rfl ?_
                                  refine x_goto C dX8_next_315 (tgt := 319) rfl ?_
                                  refine x_put C inlX8 rfl tyX8 tyX8_ok nmX8 19 (by decide) gw_12_7 rfl dX8_next_319 0 rfl (rfl) rfl (Nat.le_of_ble_eq_true rfl) ?_
                                  show X _ _ [(m, .inr (7, [.ref a_sky, .ref a_kind, .ref a_more, .ref a_strewn, .int (nI tn), .ref a_treeCell, .ref a_treeSort, .ref a_treeLeaves, .int i_raking, .long l_heaps, .int (nI tz), .ref a_tape, .int (nI wr), .int (nI lw), .ref a_code, .ref a_begins, .int i_made, .int (nI ((p_pl tp tz a) + 1)), .int (nI (p_pl tp tz a)), .int 3, .int (tp (p_pl tp tz a)), .int i_open, .ref a_stack, .ref a_dry, .ref a_wet, .ref a_covered, .ref a_hangs, .ref a_off, .int i_fell, .int i_fellToday, .int i_rotten, .int i_raked, .int i_cost, .ref a_dryGo, .ref a_wetGo, .ref a_keptSky, .int i_imaged, .int (nI itn), .int i_oldRaking, .long l_oldHeaps, .int (nI ilw), .ref a_oldSky, .ref a_oldCells, .ref a_sheetSort, .ref a_sheetSize, .ref a_items, .ref a_spare])), (a_tape, .inl (cI, 160, .inl tp))] _ _ _
                                  refine E dX8_next_322 ?_
                                  exact ⟨((p_pl tp tz a) + 1), (p_pl tp tz a), 3, (tp (p_pl tp tz a)), rfl, rfl, ⟨(p_tk_sg hlt hndg hnle).1.symm, rfl, by rw [p_so_sg hlt hndg hnle]; first | exact (if_pos hsg).symm | exact (if_neg hsg).symm, fun h9 => by rw [p_so_sg hlt hndg hnle] at h9; exact absurd h9 (by split <;> decide), fun _ => rfl⟩⟩
            ·
              have c41 : p_pl tp tz a = tz := q_ne_f rfl rfl (by omega) (by omega) c41
              refine x_aload_n C dX8_next_71 0 rfl ?_
              refine x_iconst C dX8_next_72 (v := 0) rfl ?_
              refine x_put C inlX8 rfl tyX8 tyX8_ok nmX8 19 (by decide) gw_12_7 rfl dX8_next_73 0 rfl (rfl) rfl (Nat.le_of_ble_eq_true rfl) ?_
              show X _ _ [(m, .inr (7, [.ref a_sky, .ref a_kind, .ref a_more, .ref a_strewn, .int (nI tn), .ref a_treeCell, .ref a_treeSort, .ref a_treeLeaves, .int i_raking, .long l_heaps, .int (nI tz), .ref a_tape, .int (nI wr), .int (nI lw), .ref a_code, .ref a_begins, .int i_made, .int (nI (p_pl tp tz a)), .int (nI (p_pl tp tz a)), .int 0, .int i_value, .int i_open, .ref a_stack, .ref a_dry, .ref a_wet, .ref a_covered, .ref a_hangs, .ref a_off, .int i_fell, .int i_fellToday, .int i_rotten, .int i_raked, .int i_cost, .ref a_dryGo, .ref a_wetGo, .ref a_keptSky, .int i_imaged, .int (nI itn), .int i_oldRaking, .long l_oldHeaps, .int (nI ilw), .ref a_oldSky, .ref a_oldCells, .ref a_sheetSort, .ref a_sheetSize, .ref a_items, .ref a_spare])), (a_tape, .inl (cI, 160, .inl tp))] _ _ _
              refine E dX8_next_76 ?_
              exact ⟨(p_pl tp tz a), (p_pl tp tz a), 0, i_value, rfl, rfl, ⟨(p_so_end (by omega)).1.symm, rfl, (p_so_end (by omega)).2.symm, fun h9 => by rw [(p_so_end (by omega)).2] at h9; exact absurd h9 (by decide), fun h9 => by rw [(p_so_end (by omega)).2] at h9; exact absurd h9 (by decide)⟩⟩
          ·
            have hb10 := c40
            refine x_aload_n C dX8_next_39 0 rfl ?_
            refine x_dup C dX8_next_40 rfl ?_
            refine x_get C inlX8 rfl 17 (by decide) gw_12_4 dX8_next_41 0 rfl rfl ?_
            refine x_iconst C dX8_next_44 (v := 1) rfl ?_
            refine x_iadd C dX8_next_45 ?_
            refine x_topi C (nI (q + 1)) (q_iadd (a := q) (b := 1) rfl (rfl : (1 : Int32) = nI 1)) ?_
            refine x_put C inlX8 rfl tyX8 tyX8_ok nmX8 17 (by decide) gw_12_4 rfl dX8_next_46 0 rfl (rfl) rfl (Nat.le_of_ble_eq_true rfl) ?_
            show X _ _ [(m, .inr (7, [.ref a_sky, .ref a_kind, .ref a_more, .ref a_strewn, .int (nI tn), .ref a_treeCell, .ref a_treeSort, .ref a_treeLeaves, .int i_raking, .long l_heaps, .int (nI tz), .ref a_tape, .int (nI wr), .int (nI lw), .ref a_code, .ref a_begins, .int i_made, .int (nI (q + 1)), .int i_from, .int i_sort, .int i_value, .int i_open, .ref a_stack, .ref a_dry, .ref a_wet, .ref a_covered, .ref a_hangs, .ref a_off, .int i_fell, .int i_fellToday, .int i_rotten, .int i_raked, .int i_cost, .ref a_dryGo, .ref a_wetGo, .ref a_keptSky, .int i_imaged, .int (nI itn), .int i_oldRaking, .long l_oldHeaps, .int (nI ilw), .ref a_oldSky, .ref a_oldCells, .ref a_sheetSort, .ref a_sheetSize, .ref a_items, .ref a_spare])), (a_tape, .inl (cI, 160, .inl tp))] _ _ _
            refine x_goto C dX8_next_49 (tgt := 0) rfl ?_
            exact ihL0_0 (q + 1) (by omega) (by omega) ((p_sk_s (show q < tz by omega) (p_bl_t (by first | exact Or.inl hb32 | exact Or.inr hb10))).symm.trans hs9) (by omega)
  exact L0_0 ((tz - a) + 1) a (by omega) (by omega) (rfl) (Nat.lt_succ_self _)
theorem kV_X8_91 : GoodIn GW (wsV RX8 91 yJ0_length_8abf5.cls yJ0_length_8abf5 (Cond.code yJ0_length_8abf5 cJ0_length_8abf5 1 (some .int) :: GW)) := r_gV gw_11_21 gw_4_14 gw_4_15 gw_4_16 gw_4_17
theorem kV_X8_101 : GoodIn GW (wsV RX8 101 yJ0_charAt_5068e.cls yJ0_charAt_5068e (Cond.code yJ0_charAt_5068e cJ0_charAt_5068e 2 (some .char) :: GW)) := r_gV gw_11_22 gw_5_2 gw_5_3 gw_4_16 gw_5_4
set_option maxHeartbeats 4000000 in
set_option maxRecDepth 100000 in
theorem c_X8_is (l : Launch) (dG : va_G) (cI cM cW cS : ClassId) (adK adV : Nat → Nat) (fm : Option Nat) (m a_sky a_kind a_more a_strewn a_treeCell a_treeSort a_treeLeaves a_tape a_code a_begins a_stack a_dry a_wet a_covered a_hangs a_off a_dryGo a_wetGo a_keptSky a_oldSky a_oldCells a_sheetSort a_sheetSize a_items a_spare : Nat) (tn tz wr lw itn ilw : Nat) (i_raking i_made i_at i_from i_sort i_value i_open i_fell i_fellToday i_rotten i_raked i_cost i_imaged i_oldRaking : Int32) (l_heaps l_oldHeaps : Int64) (tp : Nat → Int32) (q e i : Nat) (hqe : q ≤ e) (hen : e ≤ tz) (hn : tz ≤ 160) (hi : i < 15) : rM l yX8_is cX8_is 3 (some .boolean) ({ frames := 4, cells := 0, slots := 0, locals := 85 } : Room) dG (tY cI cM cW cS) (rZs adK adV fm) [.ref m, .ref (adK i)] [(m, .inr (7, [.ref a_sky, .ref a_kind, .ref a_more, .ref a_strewn, .int (nI tn), .ref a_treeCell, .ref a_treeSort, .ref a_treeLeaves, .int i_raking, .long l_heaps, .int (nI tz), .ref a_tape, .int (nI wr), .int (nI lw), .ref a_code, .ref a_begins, .int i_made, .int (nI e), .int (nI q), .int i_sort, .int i_value, .int i_open, .ref a_stack, .ref a_dry, .ref a_wet, .ref a_covered, .ref a_hangs, .ref a_off, .int i_fell, .int i_fellToday, .int i_rotten, .int i_raked, .int i_cost, .ref a_dryGo, .ref a_wetGo, .ref a_keptSky, .int i_imaged, .int (nI itn), .int i_oldRaking, .long l_oldHeaps, .int (nI ilw), .ref a_oldSky, .ref a_oldCells, .ref a_sheetSort, .ref a_sheetSize, .ref a_items, .ref a_spare])), (a_tape, .inl (cI, 160, .inl tp))] (fun ov oz => (ov = some (.int 1) ∧ oz = [(m, .inr (7, [.ref a_sky, .ref a_kind, .ref a_more, .ref a_strewn, .int (nI tn), .ref a_treeCell, .ref a_treeSort, .ref a_treeLeaves, .int i_raking, .long l_heaps, .int (nI tz), .ref a_tape, .int (nI wr), .int (nI lw), .ref a_code, .ref a_begins, .int i_made, .int (nI e), .int (nI q), .int i_sort, .int i_value, .int i_open, .ref a_stack, .ref a_dry, .ref a_wet, .ref a_covered, .ref a_hangs, .ref a_off, .int i_fell, .int i_fellToday, .int i_rotten, .int i_raked, .int i_cost, .ref a_dryGo, .ref a_wetGo, .ref a_keptSky, .int i_imaged, .int (nI itn), .int i_oldRaking, .long l_oldHeaps, .int (nI ilw), .ref a_oldSky, .ref a_oldCells, .ref a_sheetSort, .ref a_sheetSize, .ref a_items, .ref a_spare])), (a_tape, .inl (cI, 160, .inl tp))] ∧ i_sort = 2 ∧ p_w tp q e = zL.getD i []) ∨ (ov = some (.int 0) ∧ oz = [(m, .inr (7, [.ref a_sky, .ref a_kind, .ref a_more, .ref a_strewn, .int (nI tn), .ref a_treeCell, .ref a_treeSort, .ref a_treeLeaves, .int i_raking, .long l_heaps, .int (nI tz), .ref a_tape, .int (nI wr), .int (nI lw), .ref a_code, .ref a_begins, .int i_made, .int (nI e), .int (nI q), .int i_sort, .int i_value, .int i_open, .ref a_stack, .ref a_dry, .ref a_wet, .ref a_covered, .ref a_hangs, .ref a_off, .int i_fell, .int i_fellToday, .int i_rotten, .int i_raked, .int i_cost, .ref a_dryGo, .ref a_wetGo, .ref a_keptSky, .int i_imaged, .int (nI itn), .int i_oldRaking, .long l_oldHeaps, .int (nI ilw), .ref a_oldSky, .ref a_oldCells, .ref a_sheetSort, .ref a_sheetSize, .ref a_items, .ref a_spare])), (a_tape, .inl (cI, 160, .inl tp))] ∧ ¬ (i_sort = 2 ∧ p_w tp q e = zL.getD i []))) := by
  refine rM_ofI rfl (Nat.le_of_ble_eq_true rfl) rfl (fun X C E => ?_)
  show X 0 0 [(m, .inr (7, [.ref a_sky, .ref a_kind, .ref a_more, .ref a_strewn, .int (nI tn), .ref a_treeCell, .ref a_treeSort, .ref a_treeLeaves, .int i_raking, .long l_heaps, .int (nI tz), .ref a_tape, .int (nI wr), .int (nI lw), .ref a_code, .ref a_begins, .int i_made, .int (nI e), .int (nI q), .int i_sort, .int i_value, .int i_open, .ref a_stack, .ref a_dry, .ref a_wet, .ref a_covered, .ref a_hangs, .ref a_off, .int i_fell, .int i_fellToday, .int i_rotten, .int i_raked, .int i_cost, .ref a_dryGo, .ref a_wetGo, .ref a_keptSky, .int i_imaged, .int (nI itn), .int i_oldRaking, .long l_oldHeaps, .int (nI ilw), .ref a_oldSky, .ref a_oldCells, .ref a_sheetSort, .ref a_sheetSize, .ref a_items, .ref a_spare])), (a_tape, .inl (cI, 160, .inl tp))] [(0, .ref m), (1, .ref (adK i))] 0 []
  have hzl := z_len i hi
  refine x_aload_n C dX8_is_0 0 rfl ?_
  refine x_get C inlX8 rfl 19 (by decide) gw_12_7 dX8_is_1 0 rfl rfl ?_
  refine x_iconst C dX8_is_4 (v := 2) rfl ?_
  refine x_icmp_ne C dX8_is_5 (tgt := 24) rfl (fun c1 => ?_) (fun c1 => ?_)
  ·
    have hso := c1
    refine x_iconst C dX8_is_24 (v := 0) rfl ?_
    refine E dX8_is_25 (rfl) ?_
    exact Or.inr (⟨rfl, rfl, by first | exact fun h9 => hso h9.1 | exact fun h9 => hlen (p_w_len h9.2)⟩)
  ·
    have hso := c1
    refine x_aload_n C dX8_is_8 0 rfl ?_
    refine x_get C inlX8 rfl 17 (by decide) gw_12_4 dX8_is_9 0 rfl rfl ?_
    refine x_aload_n C dX8_is_12 0 rfl ?_
    refine x_get C inlX8 rfl 18 (by decide) gw_12_8 dX8_is_13 0 rfl rfl ?_
    refine x_isub C dX8_is_16 ?_
    refine x_topi C (nI (e - q)) (q_isub (a := e) (b := q) rfl rfl (by omega)) ?_
    refine x_aload_n C dX8_is_17 1 rfl ?_
    refine x_callVs C (As := []) (st := [.int (nI (e - q))]) (wr := [(m, .inr (7, [.ref a_sky, .ref a_kind, .ref a_more, .ref a_strewn, .int (nI tn), .ref a_treeCell, .ref a_treeSort, .ref a_treeLeaves, .int i_raking, .long l_heaps, .int (nI tz), .ref a_tape, .int (nI wr), .int (nI lw), .ref a_code, .ref a_begins, .int i_made, .int (nI e), .int (nI q), .int i_sort, .int i_value, .int i_open, .ref a_stack, .ref a_dry, .ref a_wet, .ref a_covered, .ref a_hangs, .ref a_off, .int i_fell, .int i_fellToday, .int i_rotten, .int i_raked, .int i_cost, .ref a_dryGo, .ref a_wetGo, .ref a_keptSky, .int i_imaged, .int (nI itn), .int i_oldRaking, .long l_oldHeaps, .int (nI ilw), .ref a_oldSky, .ref a_oldCells, .ref a_sheetSort, .ref a_sheetSize, .ref a_items, .ref a_spare])), (a_tape, .inl (cI, 160, .inl tp))]) (c_J0_length_8abf5 l dG cI cM cW cS adK adV fm i (by first | assumption | omega | decide)) (by first | assumption | decide) rfl kV_X8_91 ⟨rfl, hy_J0_length_8abf5⟩ ⟨Nat.le_of_ble_eq_true rfl, Nat.le_of_ble_eq_true rfl⟩ ⟨Nat.le_of_ble_eq_true rfl, Nat.le_of_ble_eq_true rfl⟩ dX8_is_18 [0, 1] rfl rfl rfl (Nat.le_of_ble_eq_true rfl) ?_
    intro v2 w3 h4
    obtain ⟨rfl, rfl, hf5⟩ := h4
    show X 0 0 [(m, .inr (7, [.ref a_sky, .ref a_kind, .ref a_more, .ref a_strewn, .int (nI tn), .ref a_treeCell, .ref a_treeSort, .ref a_treeLeaves, .int i_raking, .long l_heaps, .int (nI tz), .ref a_tape, .int (nI wr), .int (nI lw), .ref a_code, .ref a_begins, .int i_made, .int (nI e), .int (nI q), .int i_sort, .int i_value, .int i_open, .ref a_stack, .ref a_dry, .ref a_wet, .ref a_covered, .ref a_hangs, .ref a_off, .int i_fell, .int i_fellToday, .int i_rotten, .int i_raked, .int i_cost, .ref a_dryGo, .ref a_wetGo, .ref a_keptSky, .int i_imaged, .int (nI itn), .int i_oldRaking, .long l_oldHeaps, .int (nI ilw), .ref a_oldSky, .ref a_oldCells, .ref a_sheetSort, .ref a_sheetSize, .ref a_items, .ref a_spare])), (a_tape, .inl (cI, 160, .inl tp))] [(0, .ref m), (1, .ref (adK i))] 21 [.int (nI (zlen i)), .int (nI (e - q))]
    refine x_icmp_eq C dX8_is_21 (tgt := 26) rfl (fun c6 => ?_) (fun c6 => ?_)
    ·
      have hlen : e - q = zlen i := q_eq_t rfl rfl (by omega) (by omega) c6
      refine x_iconst C dX8_is_26 (v := 0) rfl ?_
      refine x_istore_n C dX8_is_27 (by decide) (lv' := [(2, .int 0), (0, .ref m), (1, .ref (adK i))]) rfl ?_
      have L28_6 : ∀ (fuel : Nat) (k : Nat), (hk : k ≤ zlen i) → (hall : ∀ j, j < k → tp (q + j) = zbyt i j) → zlen i - k < fuel → X 0 0 [(m, .inr (7, [.ref a_sky, .ref a_kind, .ref a_more, .ref a_strewn, .int (nI tn), .ref a_treeCell, .ref a_treeSort, .ref a_treeLeaves, .int i_raking, .long l_heaps, .int (nI tz), .ref a_tape, .int (nI wr), .int (nI lw), .ref a_code, .ref a_begins, .int i_made, .int (nI e), .int (nI q), .int i_sort, .int i_value, .int i_open, .ref a_stack, .ref a_dry, .ref a_wet, .ref a_covered, .ref a_hangs, .ref a_off, .int i_fell, .int i_fellToday, .int i_rotten, .int i_raked, .int i_cost, .ref a_dryGo, .ref a_wetGo, .ref a_keptSky, .int i_imaged, .int (nI itn), .int i_oldRaking, .long l_oldHeaps, .int (nI ilw), .ref a_oldSky, .ref a_oldCells, .ref a_sheetSort, .ref a_sheetSize, .ref a_items, .ref a_spare])), (a_tape, .inl (cI, 160, .inl tp))] [(2, .int (nI k)), (1, .ref (adK i)), (0, .ref m)] 28 [] := by
        intro fuel
        induction fuel with
        | zero => intros; omega
        | succ fuel ihL28_6 =>
          intro k hk hall hfu
          refine x_iload_n C dX8_is_28 0 rfl ?_
          refine x_aload_n C dX8_is_29 1 rfl ?_
          refine x_callVs C (As := []) (st := [.int (nI k)]) (wr := [(m, .inr (7, [.ref a_sky, .ref a_kind, .ref a_more, .ref a_strewn, .int (nI tn), .ref a_treeCell, .ref a_treeSort, .ref a_treeLeaves, .int i_raking, .long l_heaps, .int (nI tz), .ref a_tape, .int (nI wr), .int (nI lw), .ref a_code, .ref a_begins, .int i_made, .int (nI e), .int (nI q), .int i_sort, .int i_value, .int i_open, .ref a_stack, .ref a_dry, .ref a_wet, .ref a_covered, .ref a_hangs, .ref a_off, .int i_fell, .int i_fellToday, .int i_rotten, .int i_raked, .int i_cost, .ref a_dryGo, .ref a_wetGo, .ref a_keptSky, .int i_imaged, .int (nI itn), .int i_oldRaking, .long l_oldHeaps, .int (nI ilw), .ref a_oldSky, .ref a_oldCells, .ref a_sheetSort, .ref a_sheetSize, .ref a_items, .ref a_spare])), (a_tape, .inl (cI, 160, .inl tp))]) (c_J0_length_8abf5 l dG cI cM cW cS adK adV fm i (by first | assumption | omega | decide)) (by first | assumption | decide) rfl kV_X8_91 ⟨rfl, hy_J0_length_8abf5⟩ ⟨Nat.le_of_ble_eq_true rfl, Nat.le_of_ble_eq_true rfl⟩ ⟨Nat.le_of_ble_eq_true rfl, Nat.le_of_ble_eq_true rfl⟩ dX8_is_30 [0, 1] rfl rfl rfl (Nat.le_of_ble_eq_true rfl) ?_
          intro v8 w9 h10
          obtain ⟨rfl, rfl, hf11⟩ := h10
          show X 0 0 [(m, .inr (7, [.ref a_sky, .ref a_kind, .ref a_more, .ref a_strewn, .int (nI tn), .ref a_treeCell, .ref a_treeSort, .ref a_treeLeaves, .int i_raking, .long l_heaps, .int (nI tz), .ref a_tape, .int (nI wr), .int (nI lw), .ref a_code, .ref a_begins, .int i_made, .int (nI e), .int (nI q), .int i_sort, .int i_value, .int i_open, .ref a_stack, .ref a_dry, .ref a_wet, .ref a_covered, .ref a_hangs, .ref a_off, .int i_fell, .int i_fellToday, .int i_rotten, .int i_raked, .int i_cost, .ref a_dryGo, .ref a_wetGo, .ref a_keptSky, .int i_imaged, .int (nI itn), .int i_oldRaking, .long l_oldHeaps, .int (nI ilw), .ref a_oldSky, .ref a_oldCells, .ref a_sheetSort, .ref a_sheetSize, .ref a_items, .ref a_spare])), (a_tape, .inl (cI, 160, .inl tp))] [(2, .int (nI k)), (1, .ref (adK i)), (0, .ref m)] 33 [.int (nI (zlen i)), .int (nI k)]
          refine x_icmp_ge C dX8_is_33 (tgt := 63) rfl (fun c12 => ?_) (fun c12 => ?_)
          ·
            have c12 : k ≥ zlen i := q_ge_t rfl rfl (by omega) (by omega) c12
            refine x_iconst C dX8_is_63 (v := 1) rfl ?_
            refine E dX8_is_64 (rfl) ?_
            exact Or.inl ⟨rfl, rfl, ⟨hso, p_w_is hlen (fun j hj => hall j (by omega))⟩⟩
          ·
            have c12 : k < zlen i := q_ge_f rfl rfl (by omega) (by omega) c12
            refine x_aload_n C dX8_is_36 2 rfl ?_
            refine x_get C inlX8 rfl 11 (by decide) gw_11_1 dX8_is_37 0 rfl rfl ?_
            refine x_aload_n C dX8_is_40 2 rfl ?_
            refine x_get C inlX8 rfl 18 (by decide) gw_12_8 dX8_is_41 0 rfl rfl ?_
            refine x_iload_n C dX8_is_44 0 rfl ?_
            refine x_iadd C dX8_is_45 ?_
            refine x_iaload C 0 rfl dX8_is_46 (q + k) (q_cl (q_iadd (a := q) (b := k) rfl rfl) (by omega)) (q_ix (q_iadd (a := q) (b := k) rfl rfl) (by omega) (by omega)) 1 rfl ?_
            refine x_aload_n C dX8_is_47 1 rfl ?_
            refine x_iload_n C dX8_is_48 0 rfl ?_
            refine x_callVs C (As := [.int (nI k)]) (st := [.int (tp (q + k))]) (wr := [(m, .inr (7, [.ref a_sky, .ref a_kind, .ref a_more, .ref a_strewn, .int (nI tn), .ref a_treeCell, .ref a_treeSort, .ref a_treeLeaves, .int i_raking, .long l_heaps, .int (nI tz), .ref a_tape, .int (nI wr), .int (nI lw), .ref a_code, .ref a_begins, .int i_made, .int (nI e), .int (nI q), .int i_sort, .int i_value, .int i_open, .ref a_stack, .ref a_dry, .ref a_wet, .ref a_covered, .ref a_hangs, .ref a_off, .int i_fell, .int i_fellToday, .int i_rotten, .int i_raked, .int i_cost, .ref a_dryGo, .ref a_wetGo, .ref a_keptSky, .int i_imaged, .int (nI itn), .int i_oldRaking, .long l_oldHeaps, .int (nI ilw), .ref a_oldSky, .ref a_oldCells, .ref a_sheetSort, .ref a_sheetSize, .ref a_items, .ref a_spare])), (a_tape, .inl (cI, 160, .inl tp))]) (c_J0_charAt_5068e l dG cI cM cW cS adK adV fm i k (by first | assumption | omega | decide) (by first | assumption | omega | decide)) (by first | assumption | decide) rfl kV_X8_101 ⟨rfl, hy_J0_charAt_5068e⟩ ⟨Nat.le_of_ble_eq_true rfl, Nat.le_of_ble_eq_true rfl⟩ ⟨Nat.le_of_ble_eq_true rfl, Nat.le_of_ble_eq_true rfl⟩ dX8_is_49 [0, 1] rfl rfl rfl (Nat.le_of_ble_eq_true rfl) ?_
            intro v13 w14 h15
            obtain ⟨rfl, rfl, hf16⟩ := h15
            show X 0 0 [(m, .inr (7, [.ref a_sky, .ref a_kind, .ref a_more, .ref a_strewn, .int (nI tn), .ref a_treeCell, .ref a_treeSort, .ref a_treeLeaves, .int i_raking, .long l_heaps, .int (nI tz), .ref a_tape, .int (nI wr), .int (nI lw), .ref a_code, .ref a_begins, .int i_made, .int (nI e), .int (nI q), .int i_sort, .int i_value, .int i_open, .ref a_stack, .ref a_dry, .ref a_wet, .ref a_covered, .ref a_hangs, .ref a_off, .int i_fell, .int i_fellToday, .int i_rotten, .int i_raked, .int i_cost, .ref a_dryGo, .ref a_wetGo, .ref a_keptSky, .int i_imaged, .int (nI itn), .int i_oldRaking, .long l_oldHeaps, .int (nI ilw), .ref a_oldSky, .ref a_oldCells, .ref a_sheetSort, .ref a_sheetSize, .ref a_items, .ref a_spare])), (a_tape, .inl (cI, 160, .inl tp))] [(2, .int (nI k)), (1, .ref (adK i)), (0, .ref m)] 52 [.int (zbyt i k), .int (tp (q + k))]
            show X _ _ _ _ 52 _
            refine x_icmp_eq C dX8_is_52 (tgt := 57) rfl (fun c17 => ?_) (fun c17 => ?_)
            ·
              have hne := c17
              refine x_iinc C dX8_is_57 0 rfl (v := nI (k + 1)) (nI_1 _) (by decide) (lv' := [(2, .int (nI (k + 1))), (1, .ref (adK i)), (0, .ref m)]) rfl ?_
              refine x_goto C dX8_is_60 (tgt := 28) rfl ?_
              exact ihL28_6 (k + 1) (by omega) (fun j hj => by by_cases e9 : j = k; (rw [e9]; exact hne); exact hall j (by omega)) (by omega)
            ·
              have hne := c17
              refine x_iconst C dX8_is_55 (v := 0) rfl ?_
              refine E dX8_is_56 (rfl) ?_
              exact Or.inr (⟨rfl, rfl, fun h9 => hne (p_w_at h9.2 (by omega))⟩)
      refine x_lv C [0, 2, 1] (lv' := [(2, .int 0), (1, .ref (adK i)), (0, .ref m)]) rfl ?_
      show X 0 0 [(m, .inr (7, [.ref a_sky, .ref a_kind, .ref a_more, .ref a_strewn, .int (nI tn), .ref a_treeCell, .ref a_treeSort, .ref a_treeLeaves, .int i_raking, .long l_heaps, .int (nI tz), .ref a_tape, .int (nI wr), .int (nI lw), .ref a_code, .ref a_begins, .int i_made, .int (nI e), .int (nI q), .int i_sort, .int i_value, .int i_open, .ref a_stack, .ref a_dry, .ref a_wet, .ref a_covered, .ref a_hangs, .ref a_off, .int i_fell, .int i_fellToday, .int i_rotten, .int i_raked, .int i_cost, .ref a_dryGo, .ref a_wetGo, .ref a_keptSky, .int i_imaged, .int (nI itn), .int i_oldRaking, .long l_oldHeaps, .int (nI ilw), .ref a_oldSky, .ref a_oldCells, .ref a_sheetSort, .ref a_sheetSize, .ref a_items, .ref a_spare])), (a_tape, .inl (cI, 160, .inl tp))] [(2, .int (nI 0)), (1, .ref (adK i)), (0, .ref m)] 28 []
      exact L28_6 ((zlen i - 0) + 1) 0 (Nat.zero_le _) (fun j hj => absurd hj (Nat.not_lt_zero j)) (Nat.lt_succ_self _)
    ·
      have hlen : ¬ e - q = zlen i := q_eq_f rfl rfl (by omega) (by omega) c6
      refine x_iconst C dX8_is_24 (v := 0) rfl ?_
      refine E dX8_is_25 (rfl) ?_
      exact Or.inr (⟨rfl, rfl, by first | exact fun h9 => hso h9.1 | exact fun h9 => hlen (p_w_len h9.2)⟩)
set_option maxHeartbeats 4000000 in
set_option maxRecDepth 100000 in
theorem c_X8_is_ (l : Launch) (dG : va_G) (cI cM cW cS : ClassId) (m a_sky a_kind a_more a_strewn a_treeCell a_treeSort a_treeLeaves a_tape a_code a_begins a_stack a_dry a_wet a_covered a_hangs a_off a_dryGo a_wetGo a_keptSky a_oldSky a_oldCells a_sheetSort a_sheetSize a_items a_spare : Nat) (tn tz wr lw itn ilw : Nat) (i_raking i_made i_at i_from i_sort i_value i_open i_fell i_fellToday i_rotten i_raked i_cost i_imaged i_oldRaking : Int32) (l_heaps l_oldHeaps : Int64) (w : Int32) : rM l yX8_is_ cX8_is_ 2 (some .boolean) ({ frames := 0, cells := 0, slots := 0, locals := 0 } : Room) dG (tY cI cM cW cS) rZ0 [.ref m, .int w] [(m, .inr (7, [.ref a_sky, .ref a_kind, .ref a_more, .ref a_strewn, .int (nI tn), .ref a_treeCell, .ref a_treeSort, .ref a_treeLeaves, .int i_raking, .long l_heaps, .int (nI tz), .ref a_tape, .int (nI wr), .int (nI lw), .ref a_code, .ref a_begins, .int i_made, .int i_at, .int i_from, .int i_sort, .int i_value, .int i_open, .ref a_stack, .ref a_dry, .ref a_wet, .ref a_covered, .ref a_hangs, .ref a_off, .int i_fell, .int i_fellToday, .int i_rotten, .int i_raked, .int i_cost, .ref a_dryGo, .ref a_wetGo, .ref a_keptSky, .int i_imaged, .int (nI itn), .int i_oldRaking, .long l_oldHeaps, .int (nI ilw), .ref a_oldSky, .ref a_oldCells, .ref a_sheetSort, .ref a_sheetSize, .ref a_items, .ref a_spare]))] (fun ov oz => (ov = some (.int 1) ∧ oz = [(m, .inr (7, [.ref a_sky, .ref a_kind, .ref a_more, .ref a_strewn, .int (nI tn), .ref a_treeCell, .ref a_treeSort, .ref a_treeLeaves, .int i_raking, .long l_heaps, .int (nI tz), .ref a_tape, .int (nI wr), .int (nI lw), .ref a_code, .ref a_begins, .int i_made, .int i_at, .int i_from, .int i_sort, .int i_value, .int i_open, .ref a_stack, .ref a_dry, .ref a_wet, .ref a_covered, .ref a_hangs, .ref a_off, .int i_fell, .int i_fellToday, .int i_rotten, .int i_raked, .int i_cost, .ref a_dryGo, .ref a_wetGo, .ref a_keptSky, .int i_imaged, .int (nI itn), .int i_oldRaking, .long l_oldHeaps, .int (nI ilw), .ref a_oldSky, .ref a_oldCells, .ref a_sheetSort, .ref a_sheetSize, .ref a_items, .ref a_spare]))] ∧ i_sort = 3 ∧ i_value = w) ∨ (ov = some (.int 0) ∧ oz = [(m, .inr (7, [.ref a_sky, .ref a_kind, .ref a_more, .ref a_strewn, .int (nI tn), .ref a_treeCell, .ref a_treeSort, .ref a_treeLeaves, .int i_raking, .long l_heaps, .int (nI tz), .ref a_tape, .int (nI wr), .int (nI lw), .ref a_code, .ref a_begins, .int i_made, .int i_at, .int i_from, .int i_sort, .int i_value, .int i_open, .ref a_stack, .ref a_dry, .ref a_wet, .ref a_covered, .ref a_hangs, .ref a_off, .int i_fell, .int i_fellToday, .int i_rotten, .int i_raked, .int i_cost, .ref a_dryGo, .ref a_wetGo, .ref a_keptSky, .int i_imaged, .int (nI itn), .int i_oldRaking, .long l_oldHeaps, .int (nI ilw), .ref a_oldSky, .ref a_oldCells, .ref a_sheetSort, .ref a_sheetSize, .ref a_items, .ref a_spare]))] ∧ ¬ (i_sort = 3 ∧ i_value = w))) := by
  refine rM_ofI rfl (Nat.le_of_ble_eq_true rfl) rfl (fun X C E => ?_)
  show X 0 0 [(m, .inr (7, [.ref a_sky, .ref a_kind, .ref a_more, .ref a_strewn, .int (nI tn), .ref a_treeCell, .ref a_treeSort, .ref a_treeLeaves, .int i_raking, .long l_heaps, .int (nI tz), .ref a_tape, .int (nI wr), .int (nI lw), .ref a_code, .ref a_begins, .int i_made, .int i_at, .int i_from, .int i_sort, .int i_value, .int i_open, .ref a_stack, .ref a_dry, .ref a_wet, .ref a_covered, .ref a_hangs, .ref a_off, .int i_fell, .int i_fellToday, .int i_rotten, .int i_raked, .int i_cost, .ref a_dryGo, .ref a_wetGo, .ref a_keptSky, .int i_imaged, .int (nI itn), .int i_oldRaking, .long l_oldHeaps, .int (nI ilw), .ref a_oldSky, .ref a_oldCells, .ref a_sheetSort, .ref a_sheetSize, .ref a_items, .ref a_spare]))] [(0, .ref m), (1, .int w)] 0 []
  refine x_aload_n C dX8_is__0 0 rfl ?_
  refine x_get C inlX8 rfl 19 (by decide) gw_12_7 dX8_is__1 0 rfl rfl ?_
  refine x_iconst C dX8_is__4 (v := 3) rfl ?_
  refine x_icmp_ne C dX8_is__5 (tgt := 20) rfl (fun c1 => ?_) (fun c1 => ?_)
  ·
    have hA := c1
    refine x_iconst C dX8_is__20 (v := 0) rfl ?_
    refine E dX8_is__21 (rfl) ?_
    exact Or.inr (⟨rfl, rfl, by first | exact fun h9 => hB h9.2 | exact fun h9 => hA h9.1⟩)
  ·
    have hA := c1
    refine x_aload_n C dX8_is__8 0 rfl ?_
    refine x_get C inlX8 rfl 20 (by decide) gw_12_13 dX8_is__9 0 rfl rfl ?_
    refine x_iload_n C dX8_is__12 1 rfl ?_
    refine x_icmp_ne C dX8_is__13 (tgt := 20) rfl (fun c2 => ?_) (fun c2 => ?_)
    ·
      have hB := c2
      refine x_iconst C dX8_is__20 (v := 0) rfl ?_
      refine E dX8_is__21 (rfl) ?_
      exact Or.inr (⟨rfl, rfl, by first | exact fun h9 => hB h9.2 | exact fun h9 => hA h9.1⟩)
    ·
      have hB := c2
      refine x_iconst C dX8_is__16 (v := 1) rfl ?_
      refine x_goto C dX8_is__17 (tgt := 21) rfl ?_
      refine E dX8_is__21 (rfl) ?_
      exact Or.inl ⟨rfl, rfl, ⟨hA, hB⟩⟩
theorem kV_X8_145 : GoodIn GW (wsV RX8 145 yX8_is.cls yX8_is (Cond.code yX8_is cX8_is 3 (some .boolean) :: GW)) := r_gV gw_13_0 gw_13_1 gw_13_2 gw_1_5 gw_13_3
theorem hy_X8_is : yX8_is.cls ≠ "java/lang/invoke/MethodHandle" ∧ yX8_is.cls ≠ "java/lang/invoke/VarHandle" ∧ (parseMethodDescriptor yX8_is.desc).map (fun d => d.parameters.length) = some 1 := ⟨by decide +kernel, by decide +kernel, by decide +kernel⟩
set_option maxHeartbeats 4000000 in
set_option maxRecDepth 100000 in
theorem c_X8_name (l : Launch) (dG : va_G) (cI cM cW cS : ClassId) (adK adV : Nat → Nat) (fm : Option Nat) (m a_sky a_kind a_more a_strewn a_treeCell a_treeSort a_treeLeaves a_tape a_code a_begins a_stack a_dry a_wet a_covered a_hangs a_off a_dryGo a_wetGo a_keptSky a_oldSky a_oldCells a_sheetSort a_sheetSize a_items a_spare : Nat) (tn tz wr lw itn ilw : Nat) (i_raking i_made i_at i_from i_sort i_value i_open i_fell i_fellToday i_rotten i_raked i_cost i_imaged i_oldRaking : Int32) (l_heaps l_oldHeaps : Int64) (tp : Nat → Int32) (q e : Nat) (hqe : q ≤ e) (hen : e ≤ tz) (hn : tz ≤ 160) : rM l yX8_name cX8_name 1 (some .int) ({ frames := 5, cells := 0, slots := 0, locals := 107 } : Room) dG (tY cI cM cW cS) (rZs adK adV fm) [.ref m] [(m, .inr (7, [.ref a_sky, .ref a_kind, .ref a_more, .ref a_strewn, .int (nI tn), .ref a_treeCell, .ref a_treeSort, .ref a_treeLeaves, .int i_raking, .long l_heaps, .int (nI tz), .ref a_tape, .int (nI wr), .int (nI lw), .ref a_code, .ref a_begins, .int i_made, .int (nI e), .int (nI q), .int i_sort, .int i_value, .int i_open, .ref a_stack, .ref a_dry, .ref a_wet, .ref a_covered, .ref a_hangs, .ref a_off, .int i_fell, .int i_fellToday, .int i_rotten, .int i_raked, .int i_cost, .ref a_dryGo, .ref a_wetGo, .ref a_keptSky, .int i_imaged, .int (nI itn), .int i_oldRaking, .long l_oldHeaps, .int (nI ilw), .ref a_oldSky, .ref a_oldCells, .ref a_sheetSort, .ref a_sheetSize, .ref a_items, .ref a_spare])), (a_tape, .inl (cI, 160, .inl tp))] (fun ov oz => ∃ (r : Int32), ov = some (.int r) ∧ oz = [(m, .inr (7, [.ref a_sky, .ref a_kind, .ref a_more, .ref a_strewn, .int (nI tn), .ref a_treeCell, .ref a_treeSort, .ref a_treeLeaves, .int i_raking, .long l_heaps, .int (nI tz), .ref a_tape, .int (nI wr), .int (nI lw), .ref a_code, .ref a_begins, .int i_made, .int (nI e), .int (nI q), .int i_sort, .int i_value, .int i_open, .ref a_stack, .ref a_dry, .ref a_wet, .ref a_covered, .ref a_hangs, .ref a_off, .int i_fell, .int i_fellToday, .int i_rotten, .int i_raked, .int i_cost, .ref a_dryGo, .ref a_wetGo, .ref a_keptSky, .int i_imaged, .int (nI itn), .int i_oldRaking, .long l_oldHeaps, .int (nI ilw), .ref a_oldSky, .ref a_oldCells, .ref a_sheetSort, .ref a_sheetSize, .ref a_items, .ref a_spare])), (a_tape, .inl (cI, 160, .inl tp))] ∧ r = p_nmr i_sort (p_w tp q e)) := by
  refine rM_ofI rfl (Nat.le_of_ble_eq_true rfl) rfl (fun X C E => ?_)
  show X 0 0 [(m, .inr (7, [.ref a_sky, .ref a_kind, .ref a_more, .ref a_strewn, .int (nI tn), .ref a_treeCell, .ref a_treeSort, .ref a_treeLeaves, .int i_raking, .long l_heaps, .int (nI tz), .ref a_tape, .int (nI wr), .int (nI lw), .ref a_code, .ref a_begins, .int i_made, .int (nI e), .int (nI q), .int i_sort, .int i_value, .int i_open, .ref a_stack, .ref a_dry, .ref a_wet, .ref a_covered, .ref a_hangs, .ref a_off, .int i_fell, .int i_fellToday, .int i_rotten, .int i_raked, .int i_cost, .ref a_dryGo, .ref a_wetGo, .ref a_keptSky, .int i_imaged, .int (nI itn), .int i_oldRaking, .long l_oldHeaps, .int (nI ilw), .ref a_oldSky, .ref a_oldCells, .ref a_sheetSort, .ref a_sheetSize, .ref a_items, .ref a_spare])), (a_tape, .inl (cI, 160, .inl tp))] [(0, .ref m)] 0 []
  refine x_aload_n C dX8_name_0 0 rfl ?_
  refine x_ldcS C 3 (by decide) rfl rfl dX8_name_1 ?_
  refine x_callV C (As := [.ref (adK 3)]) (st := []) (wc := [(m, .inr (7, [.ref a_sky, .ref a_kind, .ref a_more, .ref a_strewn, .int (nI tn), .ref a_treeCell, .ref a_treeSort, .ref a_treeLeaves, .int i_raking, .long l_heaps, .int (nI tz), .ref a_tape, .int (nI wr), .int (nI lw), .ref a_code, .ref a_begins, .int i_made, .int (nI e), .int (nI q), .int i_sort, .int i_value, .int i_open, .ref a_stack, .ref a_dry, .ref a_wet, .ref a_covered, .ref a_hangs, .ref a_off, .int i_fell, .int i_fellToday, .int i_rotten, .int i_raked, .int i_cost, .ref a_dryGo, .ref a_wetGo, .ref a_keptSky, .int i_imaged, .int (nI itn), .int i_oldRaking, .long l_oldHeaps, .int (nI ilw), .ref a_oldSky, .ref a_oldCells, .ref a_sheetSort, .ref a_sheetSize, .ref a_items, .ref a_spare])), (a_tape, .inl (cI, 160, .inl tp))]) (wr := []) (c_X8_is l dG cI cM cW cS adK adV fm m a_sky a_kind a_more a_strewn a_treeCell a_treeSort a_treeLeaves a_tape a_code a_begins a_stack a_dry a_wet a_covered a_hangs a_off a_dryGo a_wetGo a_keptSky a_oldSky a_oldCells a_sheetSort a_sheetSize a_items a_spare tn tz wr lw itn ilw i_raking i_made i_at i_from i_sort i_value i_open i_fell i_fellToday i_rotten i_raked i_cost i_imaged i_oldRaking l_heaps l_oldHeaps tp q e 3 (by first | assumption | omega | decide) (by first | assumption | omega | decide) (by first | assumption | omega | decide) (by decide)) (rZs_ok adK adV fm) (fun _ _ _ h9 => h9) kV_X8_145 ⟨rfl, hy_X8_is⟩ ⟨Nat.le_of_ble_eq_true rfl, Nat.le_of_ble_eq_true rfl⟩ ⟨Nat.le_of_ble_eq_true rfl, Nat.le_of_ble_eq_true rfl⟩ dX8_name_3 0 rfl rfl [0, 1] [] rfl rfl rfl rfl (by decide) rfl (Nat.le_of_ble_eq_true rfl) ?_
  intro v1 w2 h3
  rcases h3 with h3 | h3
  ·
    obtain ⟨rfl, rfl, hf4⟩ := h3
    show X 0 0 [(m, .inr (7, [.ref a_sky, .ref a_kind, .ref a_more, .ref a_strewn, .int (nI tn), .ref a_treeCell, .ref a_treeSort, .ref a_treeLeaves, .int i_raking, .long l_heaps, .int (nI tz), .ref a_tape, .int (nI wr), .int (nI lw), .ref a_code, .ref a_begins, .int i_made, .int (nI e), .int (nI q), .int i_sort, .int i_value, .int i_open, .ref a_stack, .ref a_dry, .ref a_wet, .ref a_covered, .ref a_hangs, .ref a_off, .int i_fell, .int i_fellToday, .int i_rotten, .int i_raked, .int i_cost, .ref a_dryGo, .ref a_wetGo, .ref a_keptSky, .int i_imaged, .int (nI itn), .int i_oldRaking, .long l_oldHeaps, .int (nI ilw), .ref a_oldSky, .ref a_oldCells, .ref a_sheetSort, .ref a_sheetSize, .ref a_items, .ref a_spare])), (a_tape, .inl (cI, 160, .inl tp))] [(0, .ref m)] 6 [.int 1]
    have hn0 := hf4
    refine x_if_eq C dX8_name_6 (tgt := 11) rfl (fun q9 => absurd q9 (by decide)) (fun _ => ?_)
    refine x_iconst C dX8_name_9 (v := 1) rfl ?_
    refine E dX8_name_10 (rfl) ?_
    exact ⟨1, rfl, rfl, by unfold p_nmr; rw [if_pos hn0]⟩
  ·
    obtain ⟨rfl, rfl, hf5⟩ := h3
    show X 0 0 [(m, .inr (7, [.ref a_sky, .ref a_kind, .ref a_more, .ref a_strewn, .int (nI tn), .ref a_treeCell, .ref a_treeSort, .ref a_treeLeaves, .int i_raking, .long l_heaps, .int (nI tz), .ref a_tape, .int (nI wr), .int (nI lw), .ref a_code, .ref a_begins, .int i_made, .int (nI e), .int (nI q), .int i_sort, .int i_value, .int i_open, .ref a_stack, .ref a_dry, .ref a_wet, .ref a_covered, .ref a_hangs, .ref a_off, .int i_fell, .int i_fellToday, .int i_rotten, .int i_raked, .int i_cost, .ref a_dryGo, .ref a_wetGo, .ref a_keptSky, .int i_imaged, .int (nI itn), .int i_oldRaking, .long l_oldHeaps, .int (nI ilw), .ref a_oldSky, .ref a_oldCells, .ref a_sheetSort, .ref a_sheetSize, .ref a_items, .ref a_spare])), (a_tape, .inl (cI, 160, .inl tp))] [(0, .ref m)] 6 [.int 0]
    have hn0 := hf5
    refine x_if_eq C dX8_name_6 (tgt := 11) rfl (fun _ => ?_) (fun q9 => by first | exact absurd q9 (by decide) | exact absurd (by decide) q9)
    refine x_aload_n C dX8_name_11 0 rfl ?_
    refine x_ldcS C 4 (by decide) rfl rfl dX8_name_12 ?_
    refine x_callV C (As := [.ref (adK 4)]) (st := []) (wc := [(m, .inr (7, [.ref a_sky, .ref a_kind, .ref a_more, .ref a_strewn, .int (nI tn), .ref a_treeCell, .ref a_treeSort, .ref a_treeLeaves, .int i_raking, .long l_heaps, .int (nI tz), .ref a_tape, .int (nI wr), .int (nI lw), .ref a_code, .ref a_begins, .int i_made, .int (nI e), .int (nI q), .int i_sort, .int i_value, .int i_open, .ref a_stack, .ref a_dry, .ref a_wet, .ref a_covered, .ref a_hangs, .ref a_off, .int i_fell, .int i_fellToday, .int i_rotten, .int i_raked, .int i_cost, .ref a_dryGo, .ref a_wetGo, .ref a_keptSky, .int i_imaged, .int (nI itn), .int i_oldRaking, .long l_oldHeaps, .int (nI ilw), .ref a_oldSky, .ref a_oldCells, .ref a_sheetSort, .ref a_sheetSize, .ref a_items, .ref a_spare])), (a_tape, .inl (cI, 160, .inl tp))]) (wr := []) (c_X8_is l dG cI cM cW cS adK adV fm m a_sky a_kind a_more a_strewn a_treeCell a_treeSort a_treeLeaves a_tape a_code a_begins a_stack a_dry a_wet a_covered a_hangs a_off a_dryGo a_wetGo a_keptSky a_oldSky a_oldCells a_sheetSort a_sheetSize a_items a_spare tn tz wr lw itn ilw i_raking i_made i_at i_from i_sort i_value i_open i_fell i_fellToday i_rotten i_raked i_cost i_imaged i_oldRaking l_heaps l_oldHeaps tp q e 4 (by first | assumption | omega | decide) (by first | assumption | omega | decide) (by first | assumption | omega | decide) (by decide)) (rZs_ok adK adV fm) (fun _ _ _ h9 => h9) kV_X8_145 ⟨rfl, hy_X8_is⟩ ⟨Nat.le_of_ble_eq_true rfl, Nat.le_of_ble_eq_true rfl⟩ ⟨Nat.le_of_ble_eq_true rfl, Nat.le_of_ble_eq_true rfl⟩ dX8_name_14 0 rfl rfl [0, 1] [] rfl rfl rfl rfl (by decide) rfl (Nat.le_of_ble_eq_true rfl) ?_
    intro v6 w7 h8
    rcases h8 with h8 | h8
    ·
      obtain ⟨rfl, rfl, hf9⟩ := h8
      show X 0 0 [(m, .inr (7, [.ref a_sky, .ref a_kind, .ref a_more, .ref a_strewn, .int (nI tn), .ref a_treeCell, .ref a_treeSort, .ref a_treeLeaves, .int i_raking, .long l_heaps, .int (nI tz), .ref a_tape, .int (nI wr), .int (nI lw), .ref a_code, .ref a_begins, .int i_made, .int (nI e), .int (nI q), .int i_sort, .int i_value, .int i_open, .ref a_stack, .ref a_dry, .ref a_wet, .ref a_covered, .ref a_hangs, .ref a_off, .int i_fell, .int i_fellToday, .int i_rotten, .int i_raked, .int i_cost, .ref a_dryGo, .ref a_wetGo, .ref a_keptSky, .int i_imaged, .int (nI itn), .int i_oldRaking, .long l_oldHeaps, .int (nI ilw), .ref a_oldSky, .ref a_oldCells, .ref a_sheetSort, .ref a_sheetSize, .ref a_items, .ref a_spare])), (a_tape, .inl (cI, 160, .inl tp))] [(0, .ref m)] 17 [.int 1]
      have hn1 := hf9
      refine x_if_eq C dX8_name_17 (tgt := 22) rfl (fun q9 => absurd q9 (by decide)) (fun _ => ?_)
      refine x_iconst C dX8_name_20 (v := 2) rfl ?_
      refine E dX8_name_21 (rfl) ?_
      exact ⟨2, rfl, rfl, by unfold p_nmr; rw [if_neg hn0, if_pos hn1]⟩
    ·
      obtain ⟨rfl, rfl, hf10⟩ := h8
      show X 0 0 [(m, .inr (7, [.ref a_sky, .ref a_kind, .ref a_more, .ref a_strewn, .int (nI tn), .ref a_treeCell, .ref a_treeSort, .ref a_treeLeaves, .int i_raking, .long l_heaps, .int (nI tz), .ref a_tape, .int (nI wr), .int (nI lw), .ref a_code, .ref a_begins, .int i_made, .int (nI e), .int (nI q), .int i_sort, .int i_value, .int i_open, .ref a_stack, .ref a_dry, .ref a_wet, .ref a_covered, .ref a_hangs, .ref a_off, .int i_fell, .int i_fellToday, .int i_rotten, .int i_raked, .int i_cost, .ref a_dryGo, .ref a_wetGo, .ref a_keptSky, .int i_imaged, .int (nI itn), .int i_oldRaking, .long l_oldHeaps, .int (nI ilw), .ref a_oldSky, .ref a_oldCells, .ref a_sheetSort, .ref a_sheetSize, .ref a_items, .ref a_spare])), (a_tape, .inl (cI, 160, .inl tp))] [(0, .ref m)] 17 [.int 0]
      have hn1 := hf10
      refine x_if_eq C dX8_name_17 (tgt := 22) rfl (fun _ => ?_) (fun q9 => by first | exact absurd q9 (by decide) | exact absurd (by decide) q9)
      refine x_aload_n C dX8_name_22 0 rfl ?_
      refine x_ldcS C 5 (by decide) rfl rfl dX8_name_23 ?_
      refine x_callV C (As := [.ref (adK 5)]) (st := []) (wc := [(m, .inr (7, [.ref a_sky, .ref a_kind, .ref a_more, .ref a_strewn, .int (nI tn), .ref a_treeCell, .ref a_treeSort, .ref a_treeLeaves, .int i_raking, .long l_heaps, .int (nI tz), .ref a_tape, .int (nI wr), .int (nI lw), .ref a_code, .ref a_begins, .int i_made, .int (nI e), .int (nI q), .int i_sort, .int i_value, .int i_open, .ref a_stack, .ref a_dry, .ref a_wet, .ref a_covered, .ref a_hangs, .ref a_off, .int i_fell, .int i_fellToday, .int i_rotten, .int i_raked, .int i_cost, .ref a_dryGo, .ref a_wetGo, .ref a_keptSky, .int i_imaged, .int (nI itn), .int i_oldRaking, .long l_oldHeaps, .int (nI ilw), .ref a_oldSky, .ref a_oldCells, .ref a_sheetSort, .ref a_sheetSize, .ref a_items, .ref a_spare])), (a_tape, .inl (cI, 160, .inl tp))]) (wr := []) (c_X8_is l dG cI cM cW cS adK adV fm m a_sky a_kind a_more a_strewn a_treeCell a_treeSort a_treeLeaves a_tape a_code a_begins a_stack a_dry a_wet a_covered a_hangs a_off a_dryGo a_wetGo a_keptSky a_oldSky a_oldCells a_sheetSort a_sheetSize a_items a_spare tn tz wr lw itn ilw i_raking i_made i_at i_from i_sort i_value i_open i_fell i_fellToday i_rotten i_raked i_cost i_imaged i_oldRaking l_heaps l_oldHeaps tp q e 5 (by first | assumption | omega | decide) (by first | assumption | omega | decide) (by first | assumption | omega | decide) (by decide)) (rZs_ok adK adV fm) (fun _ _ _ h9 => h9) kV_X8_145 ⟨rfl, hy_X8_is⟩ ⟨Nat.le_of_ble_eq_true rfl, Nat.le_of_ble_eq_true rfl⟩ ⟨Nat.le_of_ble_eq_true rfl, Nat.le_of_ble_eq_true rfl⟩ dX8_name_25 0 rfl rfl [0, 1] [] rfl rfl rfl rfl (by decide) rfl (Nat.le_of_ble_eq_true rfl) ?_
      intro v11 w12 h13
      rcases h13 with h13 | h13
      ·
        obtain ⟨rfl, rfl, hf14⟩ := h13
        show X 0 0 [(m, .inr (7, [.ref a_sky, .ref a_kind, .ref a_more, .ref a_strewn, .int (nI tn), .ref a_treeCell, .ref a_treeSort, .ref a_treeLeaves, .int i_raking, .long l_heaps, .int (nI tz), .ref a_tape, .int (nI wr), .int (nI lw), .ref a_code, .ref a_begins, .int i_made, .int (nI e), .int (nI q), .int i_sort, .int i_value, .int i_open, .ref a_stack, .ref a_dry, .ref a_wet, .ref a_covered, .ref a_hangs, .ref a_off, .int i_fell, .int i_fellToday, .int i_rotten, .int i_raked, .int i_cost, .ref a_dryGo, .ref a_wetGo, .ref a_keptSky, .int i_imaged, .int (nI itn), .int i_oldRaking, .long l_oldHeaps, .int (nI ilw), .ref a_oldSky, .ref a_oldCells, .ref a_sheetSort, .ref a_sheetSize, .ref a_items, .ref a_spare])), (a_tape, .inl (cI, 160, .inl tp))] [(0, .ref m)] 28 [.int 1]
        have hn2 := hf14
        refine x_if_eq C dX8_name_28 (tgt := 33) rfl (fun q9 => absurd q9 (by decide)) (fun _ => ?_)
        refine x_iconst C dX8_name_31 (v := 3) rfl ?_
        refine E dX8_name_32 (rfl) ?_
        exact ⟨3, rfl, rfl, by unfold p_nmr; rw [if_neg hn0, if_neg hn1, if_pos hn2]⟩
      ·
        obtain ⟨rfl, rfl, hf15⟩ := h13
        show X 0 0 [(m, .inr (7, [.ref a_sky, .ref a_kind, .ref a_more, .ref a_strewn, .int (nI tn), .ref a_treeCell, .ref a_treeSort, .ref a_treeLeaves, .int i_raking, .long l_heaps, .int (nI tz), .ref a_tape, .int (nI wr), .int (nI lw), .ref a_code, .ref a_begins, .int i_made, .int (nI e), .int (nI q), .int i_sort, .int i_value, .int i_open, .ref a_stack, .ref a_dry, .ref a_wet, .ref a_covered, .ref a_hangs, .ref a_off, .int i_fell, .int i_fellToday, .int i_rotten, .int i_raked, .int i_cost, .ref a_dryGo, .ref a_wetGo, .ref a_keptSky, .int i_imaged, .int (nI itn), .int i_oldRaking, .long l_oldHeaps, .int (nI ilw), .ref a_oldSky, .ref a_oldCells, .ref a_sheetSort, .ref a_sheetSize, .ref a_items, .ref a_spare])), (a_tape, .inl (cI, 160, .inl tp))] [(0, .ref m)] 28 [.int 0]
        have hn2 := hf15
        refine x_if_eq C dX8_name_28 (tgt := 33) rfl (fun _ => ?_) (fun q9 => by first | exact absurd q9 (by decide) | exact absurd (by decide) q9)
        refine x_aload_n C dX8_name_33 0 rfl ?_
        refine x_ldcS C 6 (by decide) rfl rfl dX8_name_34 ?_
        refine x_callV C (As := [.ref (adK 6)]) (st := []) (wc := [(m, .inr (7, [.ref a_sky, .ref a_kind, .ref a_more, .ref a_strewn, .int (nI tn), .ref a_treeCell, .ref a_treeSort, .ref a_treeLeaves, .int i_raking, .long l_heaps, .int (nI tz), .ref a_tape, .int (nI wr), .int (nI lw), .ref a_code, .ref a_begins, .int i_made, .int (nI e), .int (nI q), .int i_sort, .int i_value, .int i_open, .ref a_stack, .ref a_dry, .ref a_wet, .ref a_covered, .ref a_hangs, .ref a_off, .int i_fell, .int i_fellToday, .int i_rotten, .int i_raked, .int i_cost, .ref a_dryGo, .ref a_wetGo, .ref a_keptSky, .int i_imaged, .int (nI itn), .int i_oldRaking, .long l_oldHeaps, .int (nI ilw), .ref a_oldSky, .ref a_oldCells, .ref a_sheetSort, .ref a_sheetSize, .ref a_items, .ref a_spare])), (a_tape, .inl (cI, 160, .inl tp))]) (wr := []) (c_X8_is l dG cI cM cW cS adK adV fm m a_sky a_kind a_more a_strewn a_treeCell a_treeSort a_treeLeaves a_tape a_code a_begins a_stack a_dry a_wet a_covered a_hangs a_off a_dryGo a_wetGo a_keptSky a_oldSky a_oldCells a_sheetSort a_sheetSize a_items a_spare tn tz wr lw itn ilw i_raking i_made i_at i_from i_sort i_value i_open i_fell i_fellToday i_rotten i_raked i_cost i_imaged i_oldRaking l_heaps l_oldHeaps tp q e 6 (by first | assumption | omega | decide) (by first | assumption | omega | decide) (by first | assumption | omega | decide) (by decide)) (rZs_ok adK adV fm) (fun _ _ _ h9 => h9) kV_X8_145 ⟨rfl, hy_X8_is⟩ ⟨Nat.le_of_ble_eq_true rfl, Nat.le_of_ble_eq_true rfl⟩ ⟨Nat.le_of_ble_eq_true rfl, Nat.le_of_ble_eq_true rfl⟩ dX8_name_36 0 rfl rfl [0, 1] [] rfl rfl rfl rfl (by decide) rfl (Nat.le_of_ble_eq_true rfl) ?_
        intro v16 w17 h18
        rcases h18 with h18 | h18
        ·
          obtain ⟨rfl, rfl, hf19⟩ := h18
          show X 0 0 [(m, .inr (7, [.ref a_sky, .ref a_kind, .ref a_more, .ref a_strewn, .int (nI tn), .ref a_treeCell, .ref a_treeSort, .ref a_treeLeaves, .int i_raking, .long l_heaps, .int (nI tz), .ref a_tape, .int (nI wr), .int (nI lw), .ref a_code, .ref a_begins, .int i_made, .int (nI e), .int (nI q), .int i_sort, .int i_value, .int i_open, .ref a_stack, .ref a_dry, .ref a_wet, .ref a_covered, .ref a_hangs, .ref a_off, .int i_fell, .int i_fellToday, .int i_rotten, .int i_raked, .int i_cost, .ref a_dryGo, .ref a_wetGo, .ref a_keptSky, .int i_imaged, .int (nI itn), .int i_oldRaking, .long l_oldHeaps, .int (nI ilw), .ref a_oldSky, .ref a_oldCells, .ref a_sheetSort, .ref a_sheetSize, .ref a_items, .ref a_spare])), (a_tape, .inl (cI, 160, .inl tp))] [(0, .ref m)] 39 [.int 1]
          have hn3 := hf19
          refine x_if_eq C dX8_name_39 (tgt := 44) rfl (fun q9 => absurd q9 (by decide)) (fun _ => ?_)
          refine x_iconst C dX8_name_42 (v := 4) rfl ?_
          refine E dX8_name_43 (rfl) ?_
          exact ⟨4, rfl, rfl, by unfold p_nmr; rw [if_neg hn0, if_neg hn1, if_neg hn2, if_pos hn3]⟩
        ·
          obtain ⟨rfl, rfl, hf20⟩ := h18
          show X 0 0 [(m, .inr (7, [.ref a_sky, .ref a_kind, .ref a_more, .ref a_strewn, .int (nI tn), .ref a_treeCell, .ref a_treeSort, .ref a_treeLeaves, .int i_raking, .long l_heaps, .int (nI tz), .ref a_tape, .int (nI wr), .int (nI lw), .ref a_code, .ref a_begins, .int i_made, .int (nI e), .int (nI q), .int i_sort, .int i_value, .int i_open, .ref a_stack, .ref a_dry, .ref a_wet, .ref a_covered, .ref a_hangs, .ref a_off, .int i_fell, .int i_fellToday, .int i_rotten, .int i_raked, .int i_cost, .ref a_dryGo, .ref a_wetGo, .ref a_keptSky, .int i_imaged, .int (nI itn), .int i_oldRaking, .long l_oldHeaps, .int (nI ilw), .ref a_oldSky, .ref a_oldCells, .ref a_sheetSort, .ref a_sheetSize, .ref a_items, .ref a_spare])), (a_tape, .inl (cI, 160, .inl tp))] [(0, .ref m)] 39 [.int 0]
          have hn3 := hf20
          refine x_if_eq C dX8_name_39 (tgt := 44) rfl (fun _ => ?_) (fun q9 => by first | exact absurd q9 (by decide) | exact absurd (by decide) q9)
          refine x_aload_n C dX8_name_44 0 rfl ?_
          refine x_ldcS C 7 (by decide) rfl rfl dX8_name_45 ?_
          refine x_callV C (As := [.ref (adK 7)]) (st := []) (wc := [(m, .inr (7, [.ref a_sky, .ref a_kind, .ref a_more, .ref a_strewn, .int (nI tn), .ref a_treeCell, .ref a_treeSort, .ref a_treeLeaves, .int i_raking, .long l_heaps, .int (nI tz), .ref a_tape, .int (nI wr), .int (nI lw), .ref a_code, .ref a_begins, .int i_made, .int (nI e), .int (nI q), .int i_sort, .int i_value, .int i_open, .ref a_stack, .ref a_dry, .ref a_wet, .ref a_covered, .ref a_hangs, .ref a_off, .int i_fell, .int i_fellToday, .int i_rotten, .int i_raked, .int i_cost, .ref a_dryGo, .ref a_wetGo, .ref a_keptSky, .int i_imaged, .int (nI itn), .int i_oldRaking, .long l_oldHeaps, .int (nI ilw), .ref a_oldSky, .ref a_oldCells, .ref a_sheetSort, .ref a_sheetSize, .ref a_items, .ref a_spare])), (a_tape, .inl (cI, 160, .inl tp))]) (wr := []) (c_X8_is l dG cI cM cW cS adK adV fm m a_sky a_kind a_more a_strewn a_treeCell a_treeSort a_treeLeaves a_tape a_code a_begins a_stack a_dry a_wet a_covered a_hangs a_off a_dryGo a_wetGo a_keptSky a_oldSky a_oldCells a_sheetSort a_sheetSize a_items a_spare tn tz wr lw itn ilw i_raking i_made i_at i_from i_sort i_value i_open i_fell i_fellToday i_rotten i_raked i_cost i_imaged i_oldRaking l_heaps l_oldHeaps tp q e 7 (by first | assumption | omega | decide) (by first | assumption | omega | decide) (by first | assumption | omega | decide) (by decide)) (rZs_ok adK adV fm) (fun _ _ _ h9 => h9) kV_X8_145 ⟨rfl, hy_X8_is⟩ ⟨Nat.le_of_ble_eq_true rfl, Nat.le_of_ble_eq_true rfl⟩ ⟨Nat.le_of_ble_eq_true rfl, Nat.le_of_ble_eq_true rfl⟩ dX8_name_47 0 rfl rfl [0, 1] [] rfl rfl rfl rfl (by decide) rfl (Nat.le_of_ble_eq_true rfl) ?_
          intro v21 w22 h23
          rcases h23 with h23 | h23
          ·
            obtain ⟨rfl, rfl, hf24⟩ := h23
            show X 0 0 [(m, .inr (7, [.ref a_sky, .ref a_kind, .ref a_more, .ref a_strewn, .int (nI tn), .ref a_treeCell, .ref a_treeSort, .ref a_treeLeaves, .int i_raking, .long l_heaps, .int (nI tz), .ref a_tape, .int (nI wr), .int (nI lw), .ref a_code, .ref a_begins, .int i_made, .int (nI e), .int (nI q), .int i_sort, .int i_value, .int i_open, .ref a_stack, .ref a_dry, .ref a_wet, .ref a_covered, .ref a_hangs, .ref a_off, .int i_fell, .int i_fellToday, .int i_rotten, .int i_raked, .int i_cost, .ref a_dryGo, .ref a_wetGo, .ref a_keptSky, .int i_imaged, .int (nI itn), .int i_oldRaking, .long l_oldHeaps, .int (nI ilw), .ref a_oldSky, .ref a_oldCells, .ref a_sheetSort, .ref a_sheetSize, .ref a_items, .ref a_spare])), (a_tape, .inl (cI, 160, .inl tp))] [(0, .ref m)] 50 [.int 1]
            have hn4 := hf24
            refine x_if_eq C dX8_name_50 (tgt := 55) rfl (fun q9 => absurd q9 (by decide)) (fun _ => ?_)
            refine x_iconst C dX8_name_53 (v := 5) rfl ?_
            refine E dX8_name_54 (rfl) ?_
            exact ⟨5, rfl, rfl, by unfold p_nmr; rw [if_neg hn0, if_neg hn1, if_neg hn2, if_neg hn3, if_pos hn4]⟩
          ·
            obtain ⟨rfl, rfl, hf25⟩ := h23
            show X 0 0 [(m, .inr (7, [.ref a_sky, .ref a_kind, .ref a_more, .ref a_strewn, .int (nI tn), .ref a_treeCell, .ref a_treeSort, .ref a_treeLeaves, .int i_raking, .long l_heaps, .int (nI tz), .ref a_tape, .int (nI wr), .int (nI lw), .ref a_code, .ref a_begins, .int i_made, .int (nI e), .int (nI q), .int i_sort, .int i_value, .int i_open, .ref a_stack, .ref a_dry, .ref a_wet, .ref a_covered, .ref a_hangs, .ref a_off, .int i_fell, .int i_fellToday, .int i_rotten, .int i_raked, .int i_cost, .ref a_dryGo, .ref a_wetGo, .ref a_keptSky, .int i_imaged, .int (nI itn), .int i_oldRaking, .long l_oldHeaps, .int (nI ilw), .ref a_oldSky, .ref a_oldCells, .ref a_sheetSort, .ref a_sheetSize, .ref a_items, .ref a_spare])), (a_tape, .inl (cI, 160, .inl tp))] [(0, .ref m)] 50 [.int 0]
            have hn4 := hf25
            refine x_if_eq C dX8_name_50 (tgt := 55) rfl (fun _ => ?_) (fun q9 => by first | exact absurd q9 (by decide) | exact absurd (by decide) q9)
            refine x_aload_n C dX8_name_55 0 rfl ?_
            refine x_ldcS C 8 (by decide) rfl rfl dX8_name_56 ?_
            refine x_callV C (As := [.ref (adK 8)]) (st := []) (wc := [(m, .inr (7, [.ref a_sky, .ref a_kind, .ref a_more, .ref a_strewn, .int (nI tn), .ref a_treeCell, .ref a_treeSort, .ref a_treeLeaves, .int i_raking, .long l_heaps, .int (nI tz), .ref a_tape, .int (nI wr), .int (nI lw), .ref a_code, .ref a_begins, .int i_made, .int (nI e), .int (nI q), .int i_sort, .int i_value, .int i_open, .ref a_stack, .ref a_dry, .ref a_wet, .ref a_covered, .ref a_hangs, .ref a_off, .int i_fell, .int i_fellToday, .int i_rotten, .int i_raked, .int i_cost, .ref a_dryGo, .ref a_wetGo, .ref a_keptSky, .int i_imaged, .int (nI itn), .int i_oldRaking, .long l_oldHeaps, .int (nI ilw), .ref a_oldSky, .ref a_oldCells, .ref a_sheetSort, .ref a_sheetSize, .ref a_items, .ref a_spare])), (a_tape, .inl (cI, 160, .inl tp))]) (wr := []) (c_X8_is l dG cI cM cW cS adK adV fm m a_sky a_kind a_more a_strewn a_treeCell a_treeSort a_treeLeaves a_tape a_code a_begins a_stack a_dry a_wet a_covered a_hangs a_off a_dryGo a_wetGo a_keptSky a_oldSky a_oldCells a_sheetSort a_sheetSize a_items a_spare tn tz wr lw itn ilw i_raking i_made i_at i_from i_sort i_value i_open i_fell i_fellToday i_rotten i_raked i_cost i_imaged i_oldRaking l_heaps l_oldHeaps tp q e 8 (by first | assumption | omega | decide) (by first | assumption | omega | decide) (by first | assumption | omega | decide) (by decide)) (rZs_ok adK adV fm) (fun _ _ _ h9 => h9) kV_X8_145 ⟨rfl, hy_X8_is⟩ ⟨Nat.le_of_ble_eq_true rfl, Nat.le_of_ble_eq_true rfl⟩ ⟨Nat.le_of_ble_eq_true rfl, Nat.le_of_ble_eq_true rfl⟩ dX8_name_58 0 rfl rfl [0, 1] [] rfl rfl rfl rfl (by decide) rfl (Nat.le_of_ble_eq_true rfl) ?_
            intro v26 w27 h28
            rcases h28 with h28 | h28
            ·
              obtain ⟨rfl, rfl, hf29⟩ := h28
              show X 0 0 [(m, .inr (7, [.ref a_sky, .ref a_kind, .ref a_more, .ref a_strewn, .int (nI tn), .ref a_treeCell, .ref a_treeSort, .ref a_treeLeaves, .int i_raking, .long l_heaps, .int (nI tz), .ref a_tape, .int (nI wr), .int (nI lw), .ref a_code, .ref a_begins, .int i_made, .int (nI e), .int (nI q), .int i_sort, .int i_value, .int i_open, .ref a_stack, .ref a_dry, .ref a_wet, .ref a_covered, .ref a_hangs, .ref a_off, .int i_fell, .int i_fellToday, .int i_rotten, .int i_raked, .int i_cost, .ref a_dryGo, .ref a_wetGo, .ref a_keptSky, .int i_imaged, .int (nI itn), .int i_oldRaking, .long l_oldHeaps, .int (nI ilw), .ref a_oldSky, .ref a_oldCells, .ref a_sheetSort, .ref a_sheetSize, .ref a_items, .ref a_spare])), (a_tape, .inl (cI, 160, .inl tp))] [(0, .ref m)] 61 [.int 1]
              have hn5 := hf29
              refine x_if_eq C dX8_name_61 (tgt := 67) rfl (fun q9 => absurd q9 (by decide)) (fun _ => ?_)
              refine x_bipush C dX8_name_64 (v := 6) rfl ?_
              refine E dX8_name_66 (rfl) ?_
              exact ⟨6, rfl, rfl, by unfold p_nmr; rw [if_neg hn0, if_neg hn1, if_neg hn2, if_neg hn3, if_neg hn4, if_pos hn5]⟩
            ·
              obtain ⟨rfl, rfl, hf30⟩ := h28
              show X 0 0 [(m, .inr (7, [.ref a_sky, .ref a_kind, .ref a_more, .ref a_strewn, .int (nI tn), .ref a_treeCell, .ref a_treeSort, .ref a_treeLeaves, .int i_raking, .long l_heaps, .int (nI tz), .ref a_tape, .int (nI wr), .int (nI lw), .ref a_code, .ref a_begins, .int i_made, .int (nI e), .int (nI q), .int i_sort, .int i_value, .int i_open, .ref a_stack, .ref a_dry, .ref a_wet, .ref a_covered, .ref a_hangs, .ref a_off, .int i_fell, .int i_fellToday, .int i_rotten, .int i_raked, .int i_cost, .ref a_dryGo, .ref a_wetGo, .ref a_keptSky, .int i_imaged, .int (nI itn), .int i_oldRaking, .long l_oldHeaps, .int (nI ilw), .ref a_oldSky, .ref a_oldCells, .ref a_sheetSort, .ref a_sheetSize, .ref a_items, .ref a_spare])), (a_tape, .inl (cI, 160, .inl tp))] [(0, .ref m)] 61 [.int 0]
              have hn5 := hf30
              refine x_if_eq C dX8_name_61 (tgt := 67) rfl (fun _ => ?_) (fun q9 => by first | exact absurd q9 (by decide) | exact absurd (by decide) q9)
              refine x_iconst C dX8_name_67 (v := 0) rfl ?_
              refine E dX8_name_68 (rfl) ?_
              exact ⟨0, rfl, rfl, by unfold p_nmr; rw [if_neg hn0, if_neg hn1, if_neg hn2, if_neg hn3, if_neg hn4, if_neg hn5]⟩
set_option maxHeartbeats 4000000 in
set_option maxRecDepth 100000 in
theorem c_X8_put (l : Launch) (dG : va_G) (cI cM cW cS : ClassId) (m a_sky a_kind a_more a_strewn a_treeCell a_treeSort a_treeLeaves a_tape a_code a_begins a_stack a_dry a_wet a_covered a_hangs a_off a_dryGo a_wetGo a_keptSky a_oldSky a_oldCells a_sheetSort a_sheetSize a_items a_spare : Nat) (tn tz wr lw itn ilw : Nat) (i_raking i_made i_at i_from i_sort i_value i_open i_fell i_fellToday i_rotten i_raked i_cost i_imaged i_oldRaking : Int32) (l_heaps l_oldHeaps : Int64) (mc : Nat → Int32) (z : Nat) (v : Int32) (hwr : wr < 6) (hz : z < 170) : rM l yX8_put cX8_put 2 none ({ frames := 0, cells := 0, slots := 0, locals := 0 } : Room) dG (tY cI cM cW cS) rZ0 [.ref m, .int v] [(m, .inr (7, [.ref a_sky, .ref a_kind, .ref a_more, .ref a_strewn, .int (nI tn), .ref a_treeCell, .ref a_treeSort, .ref a_treeLeaves, .int i_raking, .long l_heaps, .int (nI tz), .ref a_tape, .int (nI wr), .int (nI lw), .ref a_code, .ref a_begins, .int (nI z), .int i_at, .int i_from, .int i_sort, .int i_value, .int i_open, .ref a_stack, .ref a_dry, .ref a_wet, .ref a_covered, .ref a_hangs, .ref a_off, .int i_fell, .int i_fellToday, .int i_rotten, .int i_raked, .int i_cost, .ref a_dryGo, .ref a_wetGo, .ref a_keptSky, .int i_imaged, .int (nI itn), .int i_oldRaking, .long l_oldHeaps, .int (nI ilw), .ref a_oldSky, .ref a_oldCells, .ref a_sheetSort, .ref a_sheetSize, .ref a_items, .ref a_spare])), (a_code, .inl (cI, 1020, .inl mc))] (fun ov oz => ov = none ∧ oz = [(m, .inr (7, [.ref a_sky, .ref a_kind, .ref a_more, .ref a_strewn, .int (nI tn), .ref a_treeCell, .ref a_treeSort, .ref a_treeLeaves, .int i_raking, .long l_heaps, .int (nI tz), .ref a_tape, .int (nI wr), .int (nI lw), .ref a_code, .ref a_begins, .int (nI (z + 1)), .int i_at, .int i_from, .int i_sort, .int i_value, .int i_open, .ref a_stack, .ref a_dry, .ref a_wet, .ref a_covered, .ref a_hangs, .ref a_off, .int i_fell, .int i_fellToday, .int i_rotten, .int i_raked, .int i_cost, .ref a_dryGo, .ref a_wetGo, .ref a_keptSky, .int i_imaged, .int (nI itn), .int i_oldRaking, .long l_oldHeaps, .int (nI ilw), .ref a_oldSky, .ref a_oldCells, .ref a_sheetSort, .ref a_sheetSize, .ref a_items, .ref a_spare])), (a_code, .inl (cI, 1020, .inl (upd mc (170 * wr + z) v)))] ∧ True) := by
  refine rM_ofV false (by intro h; cases h) rfl (Nat.le_of_ble_eq_true rfl) rfl (fun X C E => ?_)
  show X 0 0 [(m, .inr (7, [.ref a_sky, .ref a_kind, .ref a_more, .ref a_strewn, .int (nI tn), .ref a_treeCell, .ref a_treeSort, .ref a_treeLeaves, .int i_raking, .long l_heaps, .int (nI tz), .ref a_tape, .int (nI wr), .int (nI lw), .ref a_code, .ref a_begins, .int (nI z), .int i_at, .int i_from, .int i_sort, .int i_value, .int i_open, .ref a_stack, .ref a_dry, .ref a_wet, .ref a_covered, .ref a_hangs, .ref a_off, .int i_fell, .int i_fellToday, .int i_rotten, .int i_raked, .int i_cost, .ref a_dryGo, .ref a_wetGo, .ref a_keptSky, .int i_imaged, .int (nI itn), .int i_oldRaking, .long l_oldHeaps, .int (nI ilw), .ref a_oldSky, .ref a_oldCells, .ref a_sheetSort, .ref a_sheetSize, .ref a_items, .ref a_spare])), (a_code, .inl (cI, 1020, .inl mc))] [(0, .ref m), (1, .int v)] 0 []
  refine x_aload_n C dX8_put_0 0 rfl ?_
  refine x_get C inlX8 rfl 14 (by decide) gw_11_2 dX8_put_1 0 rfl rfl ?_
  refine x_sipush C dX8_put_4 (v := 170) rfl ?_
  refine x_aload_n C dX8_put_7 0 rfl ?_
  refine x_get C inlX8 rfl 12 (by decide) gw_12_3 dX8_put_8 0 rfl rfl ?_
  refine x_imul C dX8_put_11 ?_
  refine x_aload_n C dX8_put_12 0 rfl ?_
  refine x_dup C dX8_put_13 rfl ?_
  refine x_get C inlX8 rfl 16 (by decide) gw_12_6 dX8_put_14 0 rfl rfl ?_
  refine x_dup_x1 C dX8_put_17 rfl rfl ?_
  show X _ _ _ _ 18 _
  refine x_iconst C dX8_put_18 (v := 1) rfl ?_
  refine x_iadd C dX8_put_19 ?_
  refine x_topi C (nI (z + 1)) (q_iadd (a := z) (b := 1) rfl (rfl : (1 : Int32) = nI 1)) ?_
  refine x_put C inlX8 rfl tyX8 tyX8_ok nmX8 16 (by decide) gw_12_6 rfl dX8_put_20 0 rfl (rfl) rfl (Nat.le_of_ble_eq_true rfl) ?_
  show X _ _ [(m, .inr (7, [.ref a_sky, .ref a_kind, .ref a_more, .ref a_strewn, .int (nI tn), .ref a_treeCell, .ref a_treeSort, .ref a_treeLeaves, .int i_raking, .long l_heaps, .int (nI tz), .ref a_tape, .int (nI wr), .int (nI lw), .ref a_code, .ref a_begins, .int (nI (z + 1)), .int i_at, .int i_from, .int i_sort, .int i_value, .int i_open, .ref a_stack, .ref a_dry, .ref a_wet, .ref a_covered, .ref a_hangs, .ref a_off, .int i_fell, .int i_fellToday, .int i_rotten, .int i_raked, .int i_cost, .ref a_dryGo, .ref a_wetGo, .ref a_keptSky, .int i_imaged, .int (nI itn), .int i_oldRaking, .long l_oldHeaps, .int (nI ilw), .ref a_oldSky, .ref a_oldCells, .ref a_sheetSort, .ref a_sheetSize, .ref a_items, .ref a_spare])), (a_code, .inl (cI, 1020, .inl mc))] _ _ _
  refine x_iadd C dX8_put_23 ?_
  refine x_iload_n C dX8_put_24 1 rfl ?_
  refine x_iastore C 0 rfl dX8_put_25 ((170 * wr) + z) (q_cl (q_iadd (a := 170 * wr) (b := z) (q_imul (a := 170) (b := wr) (rfl : (170 : Int32) = nI 170) rfl) rfl) (by omega)) (q_ix (q_iadd (a := 170 * wr) (b := z) (q_imul (a := 170) (b := wr) (rfl : (170 : Int32) = nI 170) rfl) rfl) (by omega) (by omega)) 1 rfl ?_
  show X _ _ [(m, .inr (7, [.ref a_sky, .ref a_kind, .ref a_more, .ref a_strewn, .int (nI tn), .ref a_treeCell, .ref a_treeSort, .ref a_treeLeaves, .int i_raking, .long l_heaps, .int (nI tz), .ref a_tape, .int (nI wr), .int (nI lw), .ref a_code, .ref a_begins, .int (nI (z + 1)), .int i_at, .int i_from, .int i_sort, .int i_value, .int i_open, .ref a_stack, .ref a_dry, .ref a_wet, .ref a_covered, .ref a_hangs, .ref a_off, .int i_fell, .int i_fellToday, .int i_rotten, .int i_raked, .int i_cost, .ref a_dryGo, .ref a_wetGo, .ref a_keptSky, .int i_imaged, .int (nI itn), .int i_oldRaking, .long l_oldHeaps, .int (nI ilw), .ref a_oldSky, .ref a_oldCells, .ref a_sheetSort, .ref a_sheetSize, .ref a_items, .ref a_spare])), (a_code, .inl (cI, 1020, .inl (upd mc ((170 * wr) + z) v)))] _ _ _
  refine E dX8_put_26 ?_
  exact ⟨rfl, rfl, by trivial⟩
