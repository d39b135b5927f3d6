set_option maxHeartbeats 4000000 in
set_option maxRecDepth 100000 in
theorem c_X6_isMissing (l : Launch) (dG : va_G) (cI cM cW cS : ClassId) (sh ra : Nat) (so9 sz9 : Int32) (g : Nat → Int32)  : rM l yX6_isMissing cX6_isMissing 1 (some .boolean) ({ frames := 0, cells := 0, slots := 0, locals := 0 } : Room) dG (tY cI cM cW cS) rZ0 [.ref sh] [(sh, .inr (5, [.ref ra, .int so9, .int sz9]))] (fun ov oz => (ov = some (.int 1) ∧ oz = [(sh, .inr (5, [.ref ra, .int so9, .int sz9]))] ∧ so9 = -1) ∨ (ov = some (.int 0) ∧ oz = [(sh, .inr (5, [.ref ra, .int so9, .int sz9]))] ∧ ¬ so9 = -1)) := by
  refine rM_ofI rfl (Nat.le_of_ble_eq_true rfl) rfl (fun X C E => ?_)
  show X 0 0 [(sh, .inr (5, [.ref ra, .int so9, .int sz9]))] [(0, .ref sh)] 0 []
  refine x_aload_n C dX6_isMissing_0 0 rfl ?_
  refine x_get C inlX6 rfl 1 (by decide) gw_4_12 dX6_isMissing_1 0 rfl rfl ?_
  refine x_iconst C dX6_isMissing_4 (v := (-1)) rfl ?_
  refine x_icmp_ne C dX6_isMissing_5 (tgt := 12) rfl (fun c1 => ?_) (fun c1 => ?_)
  ·
    refine x_iconst C dX6_isMissing_12 (v := 0) rfl ?_
    refine E dX6_isMissing_13 (rfl) ?_
    exact Or.inr (⟨rfl, rfl, by assumption⟩)
  ·
    refine x_iconst C dX6_isMissing_8 (v := 1) rfl ?_
    refine x_goto C dX6_isMissing_9 (tgt := 13) rfl ?_
    refine E dX6_isMissing_13 (rfl) ?_
    exact Or.inl ⟨rfl, rfl, by assumption⟩
theorem kS_X6_19 : GoodIn GW (va_wsS RX6 19 yJ7_fill_53178 (Cond.code yJ7_fill_53178 cJ7_fill_53178 4 none :: GW)) := r_gS gw_39_12 gw_23_22 gw_23_23 gw_24_0
set_option maxHeartbeats 4000000 in
set_option maxRecDepth 100000 in
theorem c_X6_become (l : Launch) (dG : va_G) (cI cM cW cS : ClassId) (sh ra : Nat) (so9 sz9 : Int32) (g : Nat → Int32) (so2 sz2 : Int32) : rM l yX6_become cX6_become 3 none ({ frames := 1, cells := 0, slots := 0, locals := 23 } : Room) dG (tY cI cM cW cS) rZ0 [.ref sh, .int so2, .int sz2] [(sh, .inr (5, [.ref ra, .int so9, .int sz9])), (ra, .inl (cI, 40, .inl g))] (fun ov oz => ov = none ∧ oz = [(sh, .inr (5, [.ref ra, .int so2, .int sz2])), (ra, .inl (cI, 40, .inl (fun _ => 0)))] ∧ True) := by
  refine rM_ofV false (by intro h; cases h) rfl (Nat.le_of_ble_eq_true rfl) rfl (fun X C E => ?_)
  show X 0 0 [(sh, .inr (5, [.ref ra, .int so9, .int sz9])), (ra, .inl (cI, 40, .inl g))] [(0, .ref sh), (1, .int so2), (2, .int sz2)] 0 []
  refine x_aload_n C dX6_become_0 0 rfl ?_
  refine x_get C inlX6 rfl 0 (by decide) gw_4_11 dX6_become_1 0 rfl rfl ?_
  refine x_iconst C dX6_become_4 (v := 0) rfl ?_
  refine x_callS C (As := [.ref ra, .int 0]) (st := []) (wc := [(ra, .inl (cI, 40, .inl g))]) (wr := [(sh, .inr (5, [.ref ra, .int so9, .int sz9]))]) (c_J7_fill_53178 l dG cI cM cW cS ra 40 0 g (by first | assumption | omega | decide)) rZ0_ok (fun _ _ _ _ => trivial) kS_X6_19 hy_J7_fill_53178 ⟨Nat.le_of_ble_eq_true rfl, Nat.le_of_ble_eq_true rfl⟩ ⟨Nat.le_of_ble_eq_true rfl, Nat.le_of_ble_eq_true rfl⟩ dX6_become_5 [1] [0] rfl rfl rfl rfl (by decide) rfl (Nat.le_of_ble_eq_true rfl) ?_
  intro v1 w2 h3
  obtain ⟨rfl, rfl, hf4⟩ := h3
  show X 0 0 [(sh, .inr (5, [.ref ra, .int so9, .int sz9])), (ra, .inl (cI, 40, .inl (fun _ => 0)))] [(0, .ref sh), (1, .int so2), (2, .int sz2)] 8 []
  refine x_aload_n C dX6_become_8 0 rfl ?_
  refine x_iload_n C dX6_become_9 1 rfl ?_
  refine x_put C inlX6 rfl tyX6 tyX6_ok nmX6 1 (by decide) gw_4_12 rfl dX6_become_10 0 rfl (rfl) rfl (Nat.le_of_ble_eq_true rfl) ?_
  show X _ _ [(sh, .inr (5, [.ref ra, .int so2, .int sz9])), (ra, .inl (cI, 40, .inl (fun _ => 0)))] _ _ _
  refine x_aload_n C dX6_become_13 0 rfl ?_
  refine x_iload_n C dX6_become_14 2 rfl ?_
  refine x_put C inlX6 rfl tyX6 tyX6_ok nmX6 2 (by decide) gw_39_11 rfl dX6_become_15 0 rfl (rfl) rfl (Nat.le_of_ble_eq_true rfl) ?_
  show X _ _ [(sh, .inr (5, [.ref ra, .int so2, .int sz2])), (ra, .inl (cI, 40, .inl (fun _ => 0)))] _ _ _
  show X _ _ _ _ 18 _
  refine E dX6_become_18 ?_
  exact ⟨rfl, rfl, by trivial⟩
set_option maxHeartbeats 4000000 in
set_option maxRecDepth 100000 in
theorem c_X6_put (l : Launch) (dG : va_G) (cI cM cW cS : ClassId) (sh ra : Nat) (so9 sz9 : Int32) (g : Nat → Int32) (i : Nat) (v9 : Int32) (hi : i < 40) : rM l yX6_put cX6_put 3 none ({ frames := 0, cells := 0, slots := 0, locals := 0 } : Room) dG (tY cI cM cW cS) rZ0 [.ref sh, .int (nI i), .int v9] [(sh, .inr (5, [.ref ra, .int so9, .int sz9])), (ra, .inl (cI, 40, .inl g))] (fun ov oz => ∃ (g' : Nat → Int32), ov = none ∧ oz = [(sh, .inr (5, [.ref ra, .int so9, .int sz9])), (ra, .inl (cI, 40, .inl g'))] ∧ g' = upd g i (s_cut so9 v9)) := by
  refine rM_ofV false (by intro h; cases h) rfl (Nat.le_of_ble_eq_true rfl) rfl (fun X C E => ?_)
  show X 0 0 [(sh, .inr (5, [.ref ra, .int so9, .int sz9])), (ra, .inl (cI, 40, .inl g))] [(0, .ref sh), (1, .int (nI i)), (2, .int v9)] 0 []
  refine x_aload_n C dX6_put_0 0 rfl ?_
  refine x_get C inlX6 rfl 1 (by decide) gw_4_12 dX6_put_1 0 rfl rfl ?_
  refine x_if_ne C dX6_put_4 (tgt := 18) rfl (fun c1 => ?_) (fun c1 => ?_)
  ·
    refine x_aload_n C dX6_put_18 0 rfl ?_
    refine x_get C inlX6 rfl 1 (by decide) gw_4_12 dX6_put_19 0 rfl rfl ?_
    refine x_iconst C dX6_put_22 (v := 1) rfl ?_
    refine x_icmp_ne C dX6_put_23 (tgt := 37) rfl (fun c2 => ?_) (fun c2 => ?_)
    ·
      refine x_aload_n C dX6_put_37 0 rfl ?_
      refine x_get C inlX6 rfl 0 (by decide) gw_4_11 dX6_put_38 0 rfl rfl ?_
      refine x_iload_n C dX6_put_41 1 rfl ?_
      refine x_iload_n C dX6_put_42 2 rfl ?_
      refine x_iastore C 0 rfl dX6_put_43 i (q_cl rfl (by omega)) (q_ix rfl (by omega) (by omega)) 1 rfl ?_
      show X _ _ [(sh, .inr (5, [.ref ra, .int so9, .int sz9])), (ra, .inl (cI, 40, .inl (upd g i v9)))] _ _ _
      refine E dX6_put_44 ?_
      exact ⟨(upd g i v9), rfl, rfl, by simp [s_cut, *]⟩
    ·
      refine x_aload_n C dX6_put_26 0 rfl ?_
      refine x_get C inlX6 rfl 0 (by decide) gw_4_11 dX6_put_27 0 rfl rfl ?_
      refine x_iload_n C dX6_put_30 1 rfl ?_
      refine x_iload_n C dX6_put_31 2 rfl ?_
      refine x_i2s C dX6_put_32 ?_
      refine x_iastore C 0 rfl dX6_put_33 i (q_cl rfl (by omega)) (q_ix rfl (by omega) (by omega)) 1 rfl ?_
      show X _ _ [(sh, .inr (5, [.ref ra, .int so9, .int sz9])), (ra, .inl (cI, 40, .inl (upd g i v9.toInt16.toInt32)))] _ _ _
      refine x_goto C dX6_put_34 (tgt := 44) rfl ?_
      refine E dX6_put_44 ?_
      exact ⟨(upd g i v9.toInt16.toInt32), rfl, rfl, by simp [s_cut, *]⟩
  ·
    refine x_aload_n C dX6_put_7 0 rfl ?_
    refine x_get C inlX6 rfl 0 (by decide) gw_4_11 dX6_put_8 0 rfl rfl ?_
    refine x_iload_n C dX6_put_11 1 rfl ?_
    refine x_iload_n C dX6_put_12 2 rfl ?_
    refine x_i2b C dX6_put_13 ?_
    refine x_iastore C 0 rfl dX6_put_14 i (q_cl rfl (by omega)) (q_ix rfl (by omega) (by omega)) 1 rfl ?_
    show X _ _ [(sh, .inr (5, [.ref ra, .int so9, .int sz9])), (ra, .inl (cI, 40, .inl (upd g i v9.toInt8.toInt32)))] _ _ _
    refine x_goto C dX6_put_15 (tgt := 44) rfl ?_
    refine E dX6_put_44 ?_
    exact ⟨(upd g i v9.toInt8.toInt32), rfl, rfl, by simp [s_cut, *]⟩
set_option maxHeartbeats 4000000 in
set_option maxRecDepth 100000 in
theorem c_X2_isOne (l : Launch) (dG : va_G) (cI cM cW cS : ClassId) (k f : Int32) : rM l yX2_isOne cX2_isOne 2 (some .boolean) ({ frames := 0, cells := 0, slots := 0, locals := 0 } : Room) dG (tY cI cM cW cS) rZ0 [.int k, .int f] [] (fun ov oz => (ov = some (.int 1) ∧ oz = [] ∧ s_one k f) ∨ (ov = some (.int 0) ∧ oz = [] ∧ ¬ s_one k f)) := by
  refine rM_ofI rfl (Nat.le_of_ble_eq_true rfl) rfl (fun X C E => ?_)
  show X 0 0 [] [(0, .int k), (1, .int f)] 0 []
  refine x_iload_n C dX2_isOne_0 1 rfl ?_
  rcases q_sw f (0) (2) with q1 | q1
  ·
    refine x_tableOut C dX2_isOne_1 q1 (tgt := 62) rfl ?_
    have hk : ¬ f = 0 ∧ ¬ f = 1 ∧ ¬ f = 2 := by refine ⟨?_, ?_, ?_⟩ <;> (intro h; rw [h] at q1; revert q1; decide)
    refine x_iload_n C dX2_isOne_62 0 rfl ?_
    refine x_iload_n C dX2_isOne_63 1 rfl ?_
    refine x_icmp_ne C dX2_isOne_64 (tgt := 71) rfl (fun c2 => ?_) (fun c2 => ?_)
    ·
      refine x_iconst C dX2_isOne_71 (v := 0) rfl ?_
      refine E dX2_isOne_72 (rfl) ?_
      exact Or.inr (⟨rfl, rfl, by simp [s_one, *]⟩)
    ·
      refine x_iconst C dX2_isOne_67 (v := 1) rfl ?_
      refine x_goto C dX2_isOne_68 (tgt := 72) rfl ?_
      refine E dX2_isOne_72 (rfl) ?_
      exact Or.inl ⟨rfl, rfl, by simp [s_one, *]⟩
  ·
    rcases q_sw_0_2 q1 with q1 | q1 | q1
    ·
      have q1 : f = 0 := q1
      refine x_tableIn C dX2_isOne_1 (by rw [q1]; decide) (by rw [q1]; decide) (off := 27) (tgt := 28) (by rw [q1]; rfl) rfl ?_
      refine x_iconst C dX2_isOne_28 (v := 1) rfl ?_
      refine E dX2_isOne_29 (rfl) ?_
      exact Or.inl ⟨rfl, rfl, by simp [s_one, *]⟩
    ·
      have q1 : f = 1 := q1
      refine x_tableIn C dX2_isOne_1 (by rw [q1]; decide) (by rw [q1]; decide) (off := 29) (tgt := 30) (by rw [q1]; rfl) rfl ?_
      refine x_iload_n C dX2_isOne_30 0 rfl ?_
      refine x_iconst C dX2_isOne_31 (v := 1) rfl ?_
      refine x_icmp_eq C dX2_isOne_32 (tgt := 40) rfl (fun c3 => ?_) (fun c3 => ?_)
      ·
        refine x_iconst C dX2_isOne_40 (v := 1) rfl ?_
        refine x_goto C dX2_isOne_41 (tgt := 45) rfl ?_
        refine E dX2_isOne_45 (rfl) ?_
        exact Or.inl ⟨rfl, rfl, by simp [s_one, *]⟩
      ·
        refine x_iload_n C dX2_isOne_35 0 rfl ?_
        refine x_iconst C dX2_isOne_36 (v := 3) rfl ?_
        refine x_icmp_ne C dX2_isOne_37 (tgt := 44) rfl (fun c4 => ?_) (fun c4 => ?_)
        ·
          refine x_iconst C dX2_isOne_44 (v := 0) rfl ?_
          refine E dX2_isOne_45 (rfl) ?_
          exact Or.inr (⟨rfl, rfl, by simp [s_one, *]⟩)
        ·
          refine x_iconst C dX2_isOne_40 (v := 1) rfl ?_
          refine x_goto C dX2_isOne_41 (tgt := 45) rfl ?_
          refine E dX2_isOne_45 (rfl) ?_
          exact Or.inl ⟨rfl, rfl, by simp [s_one, *]⟩
    ·
      have q1 : f = 2 := q1
      refine x_tableIn C dX2_isOne_1 (by rw [q1]; decide) (by rw [q1]; decide) (off := 45) (tgt := 46) (by rw [q1]; rfl) rfl ?_
      refine x_iload_n C dX2_isOne_46 0 rfl ?_
      refine x_iconst C dX2_isOne_47 (v := 2) rfl ?_
      refine x_icmp_eq C dX2_isOne_48 (tgt := 56) rfl (fun c5 => ?_) (fun c5 => ?_)
      ·
        refine x_iconst C dX2_isOne_56 (v := 1) rfl ?_
        refine x_goto C dX2_isOne_57 (tgt := 61) rfl ?_
        refine E dX2_isOne_61 (rfl) ?_
        exact Or.inl ⟨rfl, rfl, by simp [s_one, *]⟩
      ·
        refine x_iload_n C dX2_isOne_51 0 rfl ?_
        refine x_iconst C dX2_isOne_52 (v := 5) rfl ?_
        refine x_icmp_ne C dX2_isOne_53 (tgt := 60) rfl (fun c6 => ?_) (fun c6 => ?_)
        ·
          refine x_iconst C dX2_isOne_60 (v := 0) rfl ?_
          refine E dX2_isOne_61 (rfl) ?_
          exact Or.inr (⟨rfl, rfl, by simp [s_one, *]⟩)
        ·
          refine x_iconst C dX2_isOne_56 (v := 1) rfl ?_
          refine x_goto C dX2_isOne_57 (tgt := 61) rfl ?_
          refine E dX2_isOne_61 (rfl) ?_
          exact Or.inl ⟨rfl, rfl, by simp [s_one, *]⟩
