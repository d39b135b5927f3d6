set_option maxHeartbeats 4000000 in
set_option maxRecDepth 100000 in
theorem c_X7_within (l : Launch) (dG : va_G) (cI cM cW cS : ClassId) (v a b : Int32) : rM l yX7_within cX7_within 3 (some .boolean) ({ frames := 0, cells := 0, slots := 0, locals := 0 } : Room) dG (tY cI cM cW cS) rZ0 [.int v, .int a, .int b] [] (fun ov oz => (ov = some (.int 1) ∧ oz = [] ∧ (a ≤ v ∧ v ≤ b)) ∨ (ov = some (.int 0) ∧ oz = [] ∧ ¬ (a ≤ v ∧ v ≤ b))) := by
  refine rM_ofI rfl (Nat.le_of_ble_eq_true rfl) rfl (fun X C E => ?_)
  show X 0 0 [] [(0, .int v), (1, .int a), (2, .int b)] 0 []
  refine x_iload_n C dX7_within_0 0 rfl ?_
  refine x_iload_n C dX7_within_1 1 rfl ?_
  refine x_icmp_lt C dX7_within_2 (tgt := 14) rfl (fun c1 => ?_) (fun c1 => ?_)
  ·
    refine x_iconst C dX7_within_14 (v := 0) rfl ?_
    refine E dX7_within_15 (rfl) ?_
    exact Or.inr (⟨rfl, rfl, by first | exact q_wi (by assumption) (by assumption) | exact q_wo1 (by assumption) | exact q_wo2 (by assumption)⟩)
  ·
    refine x_iload_n C dX7_within_5 0 rfl ?_
    refine x_iload_n C dX7_within_6 2 rfl ?_
    refine x_icmp_gt C dX7_within_7 (tgt := 14) rfl (fun c2 => ?_) (fun c2 => ?_)
    ·
      refine x_iconst C dX7_within_14 (v := 0) rfl ?_
      refine E dX7_within_15 (rfl) ?_
      exact Or.inr (⟨rfl, rfl, by first | exact q_wi (by assumption) (by assumption) | exact q_wo1 (by assumption) | exact q_wo2 (by assumption)⟩)
    ·
      refine x_iconst C dX7_within_10 (v := 1) rfl ?_
      refine x_goto C dX7_within_11 (tgt := 15) rfl ?_
      refine E dX7_within_15 (rfl) ?_
      exact Or.inl ⟨rfl, rfl, by first | exact q_wi (by assumption) (by assumption) | exact q_wo1 (by assumption) | exact q_wo2 (by assumption)⟩
set_option maxHeartbeats 4000000 in
set_option maxRecDepth 100000 in
theorem c_X8_within (l : Launch) (dG : va_G) (cI cM cW cS : ClassId) (v a b : Int32) : rM l yX8_within cX8_within 3 (some .boolean) ({ frames := 0, cells := 0, slots := 0, locals := 0 } : Room) dG (tY cI cM cW cS) rZ0 [.int v, .int a, .int b] [] (fun ov oz => (ov = some (.int 1) ∧ oz = [] ∧ (a ≤ v ∧ v ≤ b)) ∨ (ov = some (.int 0) ∧ oz = [] ∧ ¬ (a ≤ v ∧ v ≤ b))) := by
  refine rM_ofI rfl (Nat.le_of_ble_eq_true rfl) rfl (fun X C E => ?_)
  show X 0 0 [] [(0, .int v), (1, .int a), (2, .int b)] 0 []
  refine x_iload_n C dX8_within_0 0 rfl ?_
  refine x_iload_n C dX8_within_1 1 rfl ?_
  refine x_icmp_lt C dX8_within_2 (tgt := 14) rfl (fun c1 => ?_) (fun c1 => ?_)
  ·
    refine x_iconst C dX8_within_14 (v := 0) rfl ?_
    refine E dX8_within_15 (rfl) ?_
    exact Or.inr (⟨rfl, rfl, by first | exact q_wi (by assumption) (by assumption) | exact q_wo1 (by assumption) | exact q_wo2 (by assumption)⟩)
  ·
    refine x_iload_n C dX8_within_5 0 rfl ?_
    refine x_iload_n C dX8_within_6 2 rfl ?_
    refine x_icmp_gt C dX8_within_7 (tgt := 14) rfl (fun c2 => ?_) (fun c2 => ?_)
    ·
      refine x_iconst C dX8_within_14 (v := 0) rfl ?_
      refine E dX8_within_15 (rfl) ?_
      exact Or.inr (⟨rfl, rfl, by first | exact q_wi (by assumption) (by assumption) | exact q_wo1 (by assumption) | exact q_wo2 (by assumption)⟩)
    ·
      refine x_iconst C dX8_within_10 (v := 1) rfl ?_
      refine x_goto C dX8_within_11 (tgt := 15) rfl ?_
      refine E dX8_within_15 (rfl) ?_
      exact Or.inl ⟨rfl, rfl, by first | exact q_wi (by assumption) (by assumption) | exact q_wo1 (by assumption) | exact q_wo2 (by assumption)⟩
theorem kS_X7_92 : GoodIn GW (va_wsS RX7 92 yX7_within (Cond.code yX7_within cX7_within 3 (some .boolean) :: GW)) := r_gS gw_14_23 gw_15_0 gw_1_2 gw_15_1
theorem hy_X7_within : yX7_within.cls ≠ "java/lang/invoke/MethodHandle" ∧ yX7_within.cls ≠ "java/lang/invoke/VarHandle" ∧ (parseMethodDescriptor yX7_within.desc).map (fun d => d.parameters.length) = some 3 := ⟨by decide +kernel, by decide +kernel, by decide +kernel⟩
set_option maxHeartbeats 4000000 in
set_option maxRecDepth 100000 in
theorem c_X7_isDay (l : Launch) (dG : va_G) (cI cM cW cS : ClassId) (v : Int32) : rM l yX7_isDay cX7_isDay 1 (some .boolean) ({ frames := 1, cells := 0, slots := 0, locals := 22 } : Room) dG (tY cI cM cW cS) rZ0 [.int v] [] (fun ov oz => (ov = some (.int 1) ∧ oz = [] ∧ (0 ≤ v ∧ v ≤ 13)) ∨ (ov = some (.int 0) ∧ oz = [] ∧ ¬ (0 ≤ v ∧ v ≤ 13))) := by
  refine rM_ofI rfl (Nat.le_of_ble_eq_true rfl) rfl (fun X C E => ?_)
  show X 0 0 [] [(0, .int v)] 0 []
  refine x_iload_n C dX7_isDay_0 0 rfl ?_
  refine x_iconst C dX7_isDay_1 (v := 0) rfl ?_
  refine x_bipush C dX7_isDay_2 (v := 13) rfl ?_
  refine x_callS C (As := [.int v, .int 0, .int 13]) (st := []) (wc := []) (wr := []) (c_X7_within l dG cI cM cW cS v 0 13 ) rZ0_ok (fun _ _ _ _ => trivial) kS_X7_92 hy_X7_within ⟨Nat.le_of_ble_eq_true rfl, Nat.le_of_ble_eq_true rfl⟩ ⟨Nat.le_of_ble_eq_true rfl, Nat.le_of_ble_eq_true rfl⟩ dX7_isDay_4 [] [] rfl rfl rfl rfl (by decide) rfl (Nat.le_of_ble_eq_true rfl) ?_
  intro v1 w2 h3
  rcases h3 with h3 | h3
  ·
    obtain ⟨rfl, rfl, hf4⟩ := h3
    show X 0 0 [] [(0, .int v)] 7 [.int 1]
    refine E dX7_isDay_7 (rfl) ?_
    exact Or.inl ⟨rfl, rfl, by assumption⟩
  ·
    obtain ⟨rfl, rfl, hf5⟩ := h3
    show X 0 0 [] [(0, .int v)] 7 [.int 0]
    refine E dX7_isDay_7 (rfl) ?_
    exact Or.inr (⟨rfl, rfl, by assumption⟩)
set_option maxHeartbeats 4000000 in
set_option maxRecDepth 100000 in
theorem c_X7_isSpan (l : Launch) (dG : va_G) (cI cM cW cS : ClassId) (v : Int32) : rM l yX7_isSpan cX7_isSpan 1 (some .boolean) ({ frames := 1, cells := 0, slots := 0, locals := 22 } : Room) dG (tY cI cM cW cS) rZ0 [.int v] [] (fun ov oz => (ov = some (.int 1) ∧ oz = [] ∧ (0 ≤ v ∧ v ≤ 14)) ∨ (ov = some (.int 0) ∧ oz = [] ∧ ¬ (0 ≤ v ∧ v ≤ 14))) := by
  refine rM_ofI rfl (Nat.le_of_ble_eq_true rfl) rfl (fun X C E => ?_)
  show X 0 0 [] [(0, .int v)] 0 []
  refine x_iload_n C dX7_isSpan_0 0 rfl ?_
  refine x_iconst C dX7_isSpan_1 (v := 0) rfl ?_
  refine x_bipush C dX7_isSpan_2 (v := 14) rfl ?_
  refine x_callS C (As := [.int v, .int 0, .int 14]) (st := []) (wc := []) (wr := []) (c_X7_within l dG cI cM cW cS v 0 14 ) rZ0_ok (fun _ _ _ _ => trivial) kS_X7_92 hy_X7_within ⟨Nat.le_of_ble_eq_true rfl, Nat.le_of_ble_eq_true rfl⟩ ⟨Nat.le_of_ble_eq_true rfl, Nat.le_of_ble_eq_true rfl⟩ dX7_isSpan_4 [] [] rfl rfl rfl rfl (by decide) rfl (Nat.le_of_ble_eq_true rfl) ?_
  intro v1 w2 h3
  rcases h3 with h3 | h3
  ·
    obtain ⟨rfl, rfl, hf4⟩ := h3
    show X 0 0 [] [(0, .int v)] 7 [.int 1]
    refine E dX7_isSpan_7 (rfl) ?_
    exact Or.inl ⟨rfl, rfl, by assumption⟩
  ·
    obtain ⟨rfl, rfl, hf5⟩ := h3
    show X 0 0 [] [(0, .int v)] 7 [.int 0]
    refine E dX7_isSpan_7 (rfl) ?_
    exact Or.inr (⟨rfl, rfl, by assumption⟩)
set_option maxHeartbeats 4000000 in
set_option maxRecDepth 100000 in
theorem c_X7_isCell (l : Launch) (dG : va_G) (cI cM cW cS : ClassId) (v : Int32) : rM l yX7_isCell cX7_isCell 1 (some .boolean) ({ frames := 1, cells := 0, slots := 0, locals := 22 } : Room) dG (tY cI cM cW cS) rZ0 [.int v] [] (fun ov oz => (ov = some (.int 1) ∧ oz = [] ∧ (0 ≤ v ∧ v ≤ 35)) ∨ (ov = some (.int 0) ∧ oz = [] ∧ ¬ (0 ≤ v ∧ v ≤ 35))) := by
  refine rM_ofI rfl (Nat.le_of_ble_eq_true rfl) rfl (fun X C E => ?_)
  show X 0 0 [] [(0, .int v)] 0 []
  refine x_iload_n C dX7_isCell_0 0 rfl ?_
  refine x_iconst C dX7_isCell_1 (v := 0) rfl ?_
  refine x_bipush C dX7_isCell_2 (v := 35) rfl ?_
  refine x_callS C (As := [.int v, .int 0, .int 35]) (st := []) (wc := []) (wr := []) (c_X7_within l dG cI cM cW cS v 0 35 ) rZ0_ok (fun _ _ _ _ => trivial) kS_X7_92 hy_X7_within ⟨Nat.le_of_ble_eq_true rfl, Nat.le_of_ble_eq_true rfl⟩ ⟨Nat.le_of_ble_eq_true rfl, Nat.le_of_ble_eq_true rfl⟩ dX7_isCell_4 [] [] rfl rfl rfl rfl (by decide) rfl (Nat.le_of_ble_eq_true rfl) ?_
  intro v1 w2 h3
  rcases h3 with h3 | h3
  ·
    obtain ⟨rfl, rfl, hf4⟩ := h3
    show X 0 0 [] [(0, .int v)] 7 [.int 1]
    refine E dX7_isCell_7 (rfl) ?_
    exact Or.inl ⟨rfl, rfl, by assumption⟩
  ·
    obtain ⟨rfl, rfl, hf5⟩ := h3
    show X 0 0 [] [(0, .int v)] 7 [.int 0]
    refine E dX7_isCell_7 (rfl) ?_
    exact Or.inr (⟨rfl, rfl, by assumption⟩)
set_option maxHeartbeats 4000000 in
set_option maxRecDepth 100000 in
theorem c_X7_isChoice (l : Launch) (dG : va_G) (cI cM cW cS : ClassId) (v : Int32) : rM l yX7_isChoice cX7_isChoice 1 (some .boolean) ({ frames := 1, cells := 0, slots := 0, locals := 22 } : Room) dG (tY cI cM cW cS) rZ0 [.int v] [] (fun ov oz => (ov = some (.int 1) ∧ oz = [] ∧ (0 ≤ v ∧ v ≤ 1)) ∨ (ov = some (.int 0) ∧ oz = [] ∧ ¬ (0 ≤ v ∧ v ≤ 1))) := by
  refine rM_ofI rfl (Nat.le_of_ble_eq_true rfl) rfl (fun X C E => ?_)
  show X 0 0 [] [(0, .int v)] 0 []
  refine x_iload_n C dX7_isChoice_0 0 rfl ?_
  refine x_iconst C dX7_isChoice_1 (v := 0) rfl ?_
  refine x_iconst C dX7_isChoice_2 (v := 1) rfl ?_
  refine x_callS C (As := [.int v, .int 0, .int 1]) (st := []) (wc := []) (wr := []) (c_X7_within l dG cI cM cW cS v 0 1 ) rZ0_ok (fun _ _ _ _ => trivial) kS_X7_92 hy_X7_within ⟨Nat.le_of_ble_eq_true rfl, Nat.le_of_ble_eq_true rfl⟩ ⟨Nat.le_of_ble_eq_true rfl, Nat.le_of_ble_eq_true rfl⟩ dX7_isChoice_3 [] [] rfl rfl rfl rfl (by decide) rfl (Nat.le_of_ble_eq_true rfl) ?_
  intro v1 w2 h3
  rcases h3 with h3 | h3
  ·
    obtain ⟨rfl, rfl, hf4⟩ := h3
    show X 0 0 [] [(0, .int v)] 6 [.int 1]
    refine E dX7_isChoice_6 (rfl) ?_
    exact Or.inl ⟨rfl, rfl, by assumption⟩
  ·
    obtain ⟨rfl, rfl, hf5⟩ := h3
    show X 0 0 [] [(0, .int v)] 6 [.int 0]
    refine E dX7_isChoice_6 (rfl) ?_
    exact Or.inr (⟨rfl, rfl, by assumption⟩)
set_option maxHeartbeats 4000000 in
set_option maxRecDepth 100000 in
theorem c_X7_isByte (l : Launch) (dG : va_G) (cI cM cW cS : ClassId) (v : Int32) : rM l yX7_isByte cX7_isByte 1 (some .boolean) ({ frames := 1, cells := 0, slots := 0, locals := 22 } : Room) dG (tY cI cM cW cS) rZ0 [.int v] [] (fun ov oz => (ov = some (.int 1) ∧ oz = [] ∧ (0 ≤ v ∧ v ≤ 255)) ∨ (ov = some (.int 0) ∧ oz = [] ∧ ¬ (0 ≤ v ∧ v ≤ 255))) := by
  refine rM_ofI rfl (Nat.le_of_ble_eq_true rfl) rfl (fun X C E => ?_)
  show X 0 0 [] [(0, .int v)] 0 []
  refine x_iload_n C dX7_isByte_0 0 rfl ?_
  refine x_iconst C dX7_isByte_1 (v := 0) rfl ?_
  refine x_sipush C dX7_isByte_2 (v := 255) rfl ?_
  refine x_callS C (As := [.int v, .int 0, .int 255]) (st := []) (wc := []) (wr := []) (c_X7_within l dG cI cM cW cS v 0 255 ) rZ0_ok (fun _ _ _ _ => trivial) kS_X7_92 hy_X7_within ⟨Nat.le_of_ble_eq_true rfl, Nat.le_of_ble_eq_true rfl⟩ ⟨Nat.le_of_ble_eq_true rfl, Nat.le_of_ble_eq_true rfl⟩ dX7_isByte_5 [] [] rfl rfl rfl rfl (by decide) rfl (Nat.le_of_ble_eq_true rfl) ?_
  intro v1 w2 h3
  rcases h3 with h3 | h3
  ·
    obtain ⟨rfl, rfl, hf4⟩ := h3
    show X 0 0 [] [(0, .int v)] 8 [.int 1]
    refine E dX7_isByte_8 (rfl) ?_
    exact Or.inl ⟨rfl, rfl, by assumption⟩
  ·
    obtain ⟨rfl, rfl, hf5⟩ := h3
    show X 0 0 [] [(0, .int v)] 8 [.int 0]
    refine E dX7_isByte_8 (rfl) ?_
    exact Or.inr (⟨rfl, rfl, by assumption⟩)
set_option maxHeartbeats 4000000 in
set_option maxRecDepth 100000 in
theorem c_X7_isSheet (l : Launch) (dG : va_G) (cI cM cW cS : ClassId) (v : Int32) : rM l yX7_isSheet cX7_isSheet 1 (some .boolean) ({ frames := 1, cells := 0, slots := 0, locals := 22 } : Room) dG (tY cI cM cW cS) rZ0 [.int v] [] (fun ov oz => (ov = some (.int 1) ∧ oz = [] ∧ (0 ≤ v ∧ v ≤ 3)) ∨ (ov = some (.int 0) ∧ oz = [] ∧ ¬ (0 ≤ v ∧ v ≤ 3))) := by
  refine rM_ofI rfl (Nat.le_of_ble_eq_true rfl) rfl (fun X C E => ?_)
  show X 0 0 [] [(0, .int v)] 0 []
  refine x_iload_n C dX7_isSheet_0 0 rfl ?_
  refine x_iconst C dX7_isSheet_1 (v := 0) rfl ?_
  refine x_iconst C dX7_isSheet_2 (v := 3) rfl ?_
  refine x_callS C (As := [.int v, .int 0, .int 3]) (st := []) (wc := []) (wr := []) (c_X7_within l dG cI cM cW cS v 0 3 ) rZ0_ok (fun _ _ _ _ => trivial) kS_X7_92 hy_X7_within ⟨Nat.le_of_ble_eq_true rfl, Nat.le_of_ble_eq_true rfl⟩ ⟨Nat.le_of_ble_eq_true rfl, Nat.le_of_ble_eq_true rfl⟩ dX7_isSheet_3 [] [] rfl rfl rfl rfl (by decide) rfl (Nat.le_of_ble_eq_true rfl) ?_
  intro v1 w2 h3
  rcases h3 with h3 | h3
  ·
    obtain ⟨rfl, rfl, hf4⟩ := h3
    show X 0 0 [] [(0, .int v)] 6 [.int 1]
    refine E dX7_isSheet_6 (rfl) ?_
    exact Or.inl ⟨rfl, rfl, by assumption⟩
  ·
    obtain ⟨rfl, rfl, hf5⟩ := h3
    show X 0 0 [] [(0, .int v)] 6 [.int 0]
    refine E dX7_isSheet_6 (rfl) ?_
    exact Or.inr (⟨rfl, rfl, by assumption⟩)
theorem kS_X8_108 : GoodIn GW (va_wsS RX8 108 yX8_within (Cond.code yX8_within cX8_within 3 (some .boolean) :: GW)) := r_gS gw_15_9 gw_15_10 gw_1_5 gw_15_11
theorem hy_X8_within : yX8_within.cls ≠ "java/lang/invoke/MethodHandle" ∧ yX8_within.cls ≠ "java/lang/invoke/VarHandle" ∧ (parseMethodDescriptor yX8_within.desc).map (fun d => d.parameters.length) = some 3 := ⟨by decide +kernel, by decide +kernel, by decide +kernel⟩
set_option maxHeartbeats 4000000 in
set_option maxRecDepth 100000 in
theorem c_X8_isCell (l : Launch) (dG : va_G) (cI cM cW cS : ClassId) (v : Int32) : rM l yX8_isCell cX8_isCell 1 (some .boolean) ({ frames := 1, cells := 0, slots := 0, locals := 22 } : Room) dG (tY cI cM cW cS) rZ0 [.int v] [] (fun ov oz => (ov = some (.int 1) ∧ oz = [] ∧ (0 ≤ v ∧ v ≤ 35)) ∨ (ov = some (.int 0) ∧ oz = [] ∧ ¬ (0 ≤ v ∧ v ≤ 35))) := by
  refine rM_ofI rfl (Nat.le_of_ble_eq_true rfl) rfl (fun X C E => ?_)
  show X 0 0 [] [(0, .int v)] 0 []
  refine x_iload_n C dX8_isCell_0 0 rfl ?_
  refine x_iconst C dX8_isCell_1 (v := 0) rfl ?_
  refine x_bipush C dX8_isCell_2 (v := 35) rfl ?_
  refine x_callS C (As := [.int v, .int 0, .int 35]) (st := []) (wc := []) (wr := []) (c_X8_within l dG cI cM cW cS v 0 35 ) rZ0_ok (fun _ _ _ _ => trivial) kS_X8_108 hy_X8_within ⟨Nat.le_of_ble_eq_true rfl, Nat.le_of_ble_eq_true rfl⟩ ⟨Nat.le_of_ble_eq_true rfl, Nat.le_of_ble_eq_true rfl⟩ dX8_isCell_4 [] [] rfl rfl rfl rfl (by decide) rfl (Nat.le_of_ble_eq_true rfl) ?_
  intro v1 w2 h3
  rcases h3 with h3 | h3
  ·
    obtain ⟨rfl, rfl, hf4⟩ := h3
    show X 0 0 [] [(0, .int v)] 7 [.int 1]
    refine E dX8_isCell_7 (rfl) ?_
    exact Or.inl ⟨rfl, rfl, by assumption⟩
  ·
    obtain ⟨rfl, rfl, hf5⟩ := h3
    show X 0 0 [] [(0, .int v)] 7 [.int 0]
    refine E dX8_isCell_7 (rfl) ?_
    exact Or.inr (⟨rfl, rfl, by assumption⟩)
set_option maxHeartbeats 4000000 in
set_option maxRecDepth 100000 in
theorem c_X8_isDays (l : Launch) (dG : va_G) (cI cM cW cS : ClassId) (v : Int32) : rM l yX8_isDays cX8_isDays 1 (some .boolean) ({ frames := 1, cells := 0, slots := 0, locals := 22 } : Room) dG (tY cI cM cW cS) rZ0 [.int v] [] (fun ov oz => (ov = some (.int 1) ∧ oz = [] ∧ (0 ≤ v ∧ v ≤ 14)) ∨ (ov = some (.int 0) ∧ oz = [] ∧ ¬ (0 ≤ v ∧ v ≤ 14))) := by
  refine rM_ofI rfl (Nat.le_of_ble_eq_true rfl) rfl (fun X C E => ?_)
  show X 0 0 [] [(0, .int v)] 0 []
  refine x_iload_n C dX8_isDays_0 0 rfl ?_
  refine x_iconst C dX8_isDays_1 (v := 0) rfl ?_
  refine x_bipush C dX8_isDays_2 (v := 14) rfl ?_
  refine x_callS C (As := [.int v, .int 0, .int 14]) (st := []) (wc := []) (wr := []) (c_X8_within l dG cI cM cW cS v 0 14 ) rZ0_ok (fun _ _ _ _ => trivial) kS_X8_108 hy_X8_within ⟨Nat.le_of_ble_eq_true rfl, Nat.le_of_ble_eq_true rfl⟩ ⟨Nat.le_of_ble_eq_true rfl, Nat.le_of_ble_eq_true rfl⟩ dX8_isDays_4 [] [] rfl rfl rfl rfl (by decide) rfl (Nat.le_of_ble_eq_true rfl) ?_
  intro v1 w2 h3
  rcases h3 with h3 | h3
  ·
    obtain ⟨rfl, rfl, hf4⟩ := h3
    show X 0 0 [] [(0, .int v)] 7 [.int 1]
    refine E dX8_isDays_7 (rfl) ?_
    exact Or.inl ⟨rfl, rfl, by assumption⟩
  ·
    obtain ⟨rfl, rfl, hf5⟩ := h3
    show X 0 0 [] [(0, .int v)] 7 [.int 0]
    refine E dX8_isDays_7 (rfl) ?_
    exact Or.inr (⟨rfl, rfl, by assumption⟩)
set_option maxHeartbeats 4000000 in
set_option maxRecDepth 100000 in
theorem c_X1_far (l : Launch) (dG : va_G) (cI cM cW cS : ClassId) (c e : Int32) : rM l yX1_far cX1_far 2 (some .int) ({ frames := 1, cells := 0, slots := 0, locals := 14 } : Room) dG (tY cI cM cW cS) rZ0 [.int c, .int e] [] (fun ov oz => ∃ (r : Int32), ov = some (.int r) ∧ oz = [] ∧ r = s_far c e) := by
  refine rM_ofI rfl (Nat.le_of_ble_eq_true rfl) rfl (fun X C E => ?_)
  show X 0 0 [] [(0, .int c), (1, .int e)] 0 []
  refine x_iload_n C dX1_far_0 0 rfl ?_
  refine x_bipush C dX1_far_1 (v := 6) rfl ?_
  refine x_idiv C dX1_far_3 (by decide) ?_
  refine x_iload_n C dX1_far_4 1 rfl ?_
  refine x_bipush C dX1_far_5 (v := 6) rfl ?_
  refine x_idiv C dX1_far_7 (by decide) ?_
  refine x_isub C dX1_far_8 ?_
  refine x_mabs C gw_26_20 gw_26_21 gw_17_17 gw_26_22 (Nat.le_of_ble_eq_true rfl) (Nat.le_of_ble_eq_true rfl) (Nat.le_of_ble_eq_true rfl) (Nat.le_of_ble_eq_true rfl) dX1_far_9 ?_
  refine x_iload_n C dX1_far_12 0 rfl ?_
  refine x_bipush C dX1_far_13 (v := 6) rfl ?_
  show X _ _ _ _ 15 _
  refine x_irem C dX1_far_15 (by decide) ?_
  refine x_iload_n C dX1_far_16 1 rfl ?_
  refine x_bipush C dX1_far_17 (v := 6) rfl ?_
  refine x_irem C dX1_far_19 (by decide) ?_
  refine x_isub C dX1_far_20 ?_
  refine x_mabs C gw_26_20 gw_26_21 gw_17_17 gw_26_22 (Nat.le_of_ble_eq_true rfl) (Nat.le_of_ble_eq_true rfl) (Nat.le_of_ble_eq_true rfl) (Nat.le_of_ble_eq_true rfl) dX1_far_21 ?_
  refine x_iadd C dX1_far_24 ?_
  refine E dX1_far_25 (rfl) ?_
  exact ⟨((if 0 ≤ ((c / 6) - (e / 6)) then ((c / 6) - (e / 6)) else 0 - ((c / 6) - (e / 6))) + (if 0 ≤ ((c - c / 6 * 6) - (e - e / 6 * 6)) then ((c - c / 6 * 6) - (e - e / 6 * 6)) else 0 - ((c - c / 6 * 6) - (e - e / 6 * 6)))), rfl, rfl, rfl⟩
set_option maxHeartbeats 4000000 in
set_option maxRecDepth 100000 in
theorem c_X8_far (l : Launch) (dG : va_G) (cI cM cW cS : ClassId) (c e : Int32) : rM l yX8_far cX8_far 2 (some .int) ({ frames := 1, cells := 0, slots := 0, locals := 14 } : Room) dG (tY cI cM cW cS) rZ0 [.int c, .int e] [] (fun ov oz => ∃ (r : Int32), ov = some (.int r) ∧ oz = [] ∧ r = s_far c e) := by
  refine rM_ofI rfl (Nat.le_of_ble_eq_true rfl) rfl (fun X C E => ?_)
  show X 0 0 [] [(0, .int c), (1, .int e)] 0 []
  refine x_iload_n C dX8_far_0 0 rfl ?_
  refine x_bipush C dX8_far_1 (v := 6) rfl ?_
  refine x_idiv C dX8_far_3 (by decide) ?_
  refine x_iload_n C dX8_far_4 1 rfl ?_
  refine x_bipush C dX8_far_5 (v := 6) rfl ?_
  refine x_idiv C dX8_far_7 (by decide) ?_
  refine x_isub C dX8_far_8 ?_
  refine x_mabs C gw_29_12 gw_26_21 gw_17_17 gw_26_22 (Nat.le_of_ble_eq_true rfl) (Nat.le_of_ble_eq_true rfl) (Nat.le_of_ble_eq_true rfl) (Nat.le_of_ble_eq_true rfl) dX8_far_9 ?_
  refine x_iload_n C dX8_far_12 0 rfl ?_
  refine x_bipush C dX8_far_13 (v := 6) rfl ?_
  show X _ _ _ _ 15 _
  refine x_irem C dX8_far_15 (by decide) ?_
  refine x_iload_n C dX8_far_16 1 rfl ?_
  refine x_bipush C dX8_far_17 (v := 6) rfl ?_
  refine x_irem C dX8_far_19 (by decide) ?_
  refine x_isub C dX8_far_20 ?_
  refine x_mabs C gw_29_12 gw_26_21 gw_17_17 gw_26_22 (Nat.le_of_ble_eq_true rfl) (Nat.le_of_ble_eq_true rfl) (Nat.le_of_ble_eq_true rfl) (Nat.le_of_ble_eq_true rfl) dX8_far_21 ?_
  refine x_iadd C dX8_far_24 ?_
  refine E dX8_far_25 (rfl) ?_
  exact ⟨((if 0 ≤ ((c / 6) - (e / 6)) then ((c / 6) - (e / 6)) else 0 - ((c / 6) - (e / 6))) + (if 0 ≤ ((c - c / 6 * 6) - (e - e / 6 * 6)) then ((c - c / 6 * 6) - (e - e / 6 * 6)) else 0 - ((c - c / 6 * 6) - (e - e / 6 * 6)))), rfl, rfl, rfl⟩
set_option maxHeartbeats 4000000 in
set_option maxRecDepth 100000 in
theorem c_X1_list (l : Launch) (dG : va_G) (cI cM cW cS : ClassId) (o aa : Nat) (z : Int64) (f : Nat → Int32) : rM l yX1_list cX1_list 5 (some .int) ({ frames := 0, cells := 0, slots := 0, locals := 0 } : Room) dG (tY cI cM cW cS) rZ0 [.ref o, .long z] [(o, .inr (1, [.ref aa])), (aa, .inl (cI, 36, .inl f))] (fun ov oz => ∃ (m : Nat) (f' : Nat → Int32), ov = some (.int (nI m)) ∧ oz = [(o, .inr (1, [.ref aa])), (aa, .inl (cI, 36, .inl f'))] ∧ m = (s_heaps (s_b1 z) 36).length ∧ ∀ j, j < m → f' j = nI ((s_heaps (s_b1 z) 36).getD j 0)) := by
  refine rM_ofI rfl (Nat.le_of_ble_eq_true rfl) rfl (fun X C E => ?_)
  show X 0 0 [(o, .inr (1, [.ref aa])), (aa, .inl (cI, 36, .inl f))] [(0, .ref o), (1, .long z)] 0 []
  refine x_iconst C dX1_list_0 (v := 0) rfl ?_
  refine x_istore_n C dX1_list_1 (by decide) (lv' := [(3, .int 0), (0, .ref o), (1, .long z)]) rfl ?_
  refine x_iconst C dX1_list_2 (v := 0) rfl ?_
  refine x_istore C dX1_list_3 (by decide) (lv' := [(4, .int 0), (3, .int 0), (0, .ref o), (1, .long z)]) rfl ?_
  have L5_0 : ∀ (fuel : Nat) (i m : Nat) (g : Nat → Int32), (hi : i ≤ 36) → (hm : m = (s_heaps (s_b1 z) i).length) → (hf : ∀ j, j < m → g j = nI ((s_heaps (s_b1 z) i).getD j 0)) → 36 - i < fuel → X 0 0 [(o, .inr (1, [.ref aa])), (aa, .inl (cI, 36, .inl g))] [(4, .int (nI i)), (3, .int (nI m)), (1, .long z), (0, .ref o)] 5 [] := by
    intro fuel
    induction fuel with
    | zero => intros; omega
    | succ fuel ihL5_0 =>
      intro i m g hi hm hf hfu
      have hle := s_heaps_le (s_b1 z) i
      refine x_iload C dX1_list_5 0 rfl ?_
      refine x_bipush C dX1_list_7 (v := 36) rfl ?_
      refine x_icmp_ge C dX1_list_9 (tgt := 40) rfl (fun c2 => ?_) (fun c2 => ?_)
      ·
        have c2 : i ≥ 36 := q_ge_t rfl (rfl : (36 : Int32) = nI 36) (by omega) (by omega) c2
        refine x_iload_n C dX1_list_40 1 rfl ?_
        refine E dX1_list_41 (rfl) ?_
        exact ⟨m, g, rfl, rfl, by ((have e : i = 36 := by omega); (subst e); exact ⟨hm, hf⟩)⟩
      ·
        have c2 : i < 36 := q_ge_f rfl (rfl : (36 : Int32) = nI 36) (by omega) (by omega) c2
        refine x_lload_n C dX1_list_12 2 rfl ?_
        refine x_iload C dX1_list_13 0 rfl ?_
        refine x_lushr C dX1_list_15 ?_
        refine x_lconst C dX1_list_16 (v := 1) rfl ?_
        refine x_land C dX1_list_17 ?_
        refine x_lconst C dX1_list_18 (v := 1) rfl ?_
        refine x_lcmp C dX1_list_19 ?_
        refine x_if_ne C dX1_list_20 (tgt := 34) rfl (fun c3 => ?_) (fun c3 => ?_)
        ·
          have hb : s_b1 z i = false := decide_eq_false c3
          refine x_iinc C dX1_list_34 0 rfl (v := nI (i + 1)) (nI_1 _) (by decide) (lv' := [(4, .int (nI (i + 1))), (3, .int (nI m)), (1, .long z), (0, .ref o)]) rfl ?_
          refine x_goto C dX1_list_37 (tgt := 5) rfl ?_
          exact ihL5_0 (i + 1) m g (by omega) (by first | (rw [s_heaps_t hb, List.length_append, ← hm]; rfl) | (rw [s_heaps_f hb]; exact hm)) (by first | (rw [s_heaps_t hb]; exact q_app hf hm) | (rw [s_heaps_f hb]; exact hf)) (by omega)
        ·
          have hb : s_b1 z i = true := decide_eq_true c3
          refine x_aload_n C dX1_list_23 3 rfl ?_
          refine x_get C inlX1 rfl 0 (by decide) gw_3_21 dX1_list_24 0 rfl rfl ?_
          refine x_iload_n C dX1_list_27 1 rfl ?_
          refine x_iload C dX1_list_28 0 rfl ?_
          refine x_iastore C 0 rfl dX1_list_30 m (q_cl rfl (by omega)) (q_ix rfl (by omega) (by omega)) 1 rfl ?_
          show X _ _ [(o, .inr (1, [.ref aa])), (aa, .inl (cI, 36, .inl (upd g m (nI i))))] _ _ _
          refine x_iinc C dX1_list_31 1 rfl (v := nI (m + 1)) (nI_1 _) (by decide) (lv' := [(3, .int (nI (m + 1))), (4, .int (nI i)), (1, .long z), (0, .ref o)]) rfl ?_
          refine x_iinc C dX1_list_34 1 rfl (v := nI (i + 1)) (nI_1 _) (by decide) (lv' := [(4, .int (nI (i + 1))), (3, .int (nI (m + 1))), (1, .long z), (0, .ref o)]) rfl ?_
          refine x_goto C dX1_list_37 (tgt := 5) rfl ?_
          exact ihL5_0 (i + 1) (m + 1) (upd g m (nI i)) (by omega) (by first | (rw [s_heaps_t hb, List.length_append, ← hm]; rfl) | (rw [s_heaps_f hb]; exact hm)) (by first | (rw [s_heaps_t hb]; exact q_app hf hm) | (rw [s_heaps_f hb]; exact hf)) (by omega)
  refine x_lv C [0, 1, 3, 2] (lv' := [(4, .int 0), (3, .int 0), (1, .long z), (0, .ref o)]) rfl ?_
  show X 0 0 [(o, .inr (1, [.ref aa])), (aa, .inl (cI, 36, .inl f))] [(4, .int (nI 0)), (3, .int (nI 0)), (1, .long z), (0, .ref o)] 5 []
  exact L5_0 ((36 - 0) + 1) 0 0 f (by decide) (rfl) (fun j hj => absurd hj (Nat.not_lt_zero j)) (Nat.lt_succ_self _)
theorem kS_X1_23 : GoodIn GW (va_wsS RX1 23 yX1_far (Cond.code yX1_far cX1_far 2 (some .int) :: GW)) := r_gS gw_26_17 gw_26_18 gw_2_1 gw_26_19
theorem hy_X1_far : yX1_far.cls ≠ "java/lang/invoke/MethodHandle" ∧ yX1_far.cls ≠ "java/lang/invoke/VarHandle" ∧ (parseMethodDescriptor yX1_far.desc).map (fun d => d.parameters.length) = some 2 := ⟨by decide +kernel, by decide +kernel, by decide +kernel⟩
set_option maxHeartbeats 4000000 in
set_option maxRecDepth 100000 in
theorem c_X1_nearest (l : Launch) (dG : va_G) (cI cM cW cS : ClassId) (o aa : Nat) (c : Int32) (m : Nat) (f : Nat → Int32) (h1 : 1 ≤ m) (h2 : m ≤ 36) : rM l yX1_nearest cX1_nearest 5 (some .int) ({ frames := 2, cells := 0, slots := 0, locals := 35 } : Room) dG (tY cI cM cW cS) rZ0 [.ref o, .int c, .int (nI m)] [(o, .inr (1, [.ref aa])), (aa, .inl (cI, 36, .inl f))] (fun ov oz => ∃ (r : Int32), ov = some (.int r) ∧ oz = [(o, .inr (1, [.ref aa])), (aa, .inl (cI, 36, .inl f))] ∧ r = s_near f c (m - 1)) := by
  refine rM_ofI rfl (Nat.le_of_ble_eq_true rfl) rfl (fun X C E => ?_)
  show X 0 0 [(o, .inr (1, [.ref aa])), (aa, .inl (cI, 36, .inl f))] [(0, .ref o), (1, .int c), (2, .int (nI m))] 0 []
  refine x_aload_n C dX1_nearest_0 0 rfl ?_
  refine x_get C inlX1 rfl 0 (by decide) gw_3_21 dX1_nearest_1 0 rfl rfl ?_
  refine x_iconst C dX1_nearest_4 (v := 0) rfl ?_
  refine x_iaload C 0 rfl dX1_nearest_5 0 rfl (q_ix (rfl : (0 : Int32) = nI 0) (by decide) (by decide)) 1 rfl ?_
  refine x_istore_n C dX1_nearest_6 (by decide) (lv' := [(3, .int (f 0)), (0, .ref o), (1, .int c), (2, .int (nI m))]) rfl ?_
  refine x_iconst C dX1_nearest_7 (v := 1) rfl ?_
  refine x_istore C dX1_nearest_8 (by decide) (lv' := [(4, .int 1), (3, .int (f 0)), (0, .ref o), (1, .int c), (2, .int (nI m))]) rfl ?_
  have L10_0 : ∀ (fuel : Nat) (k : Nat) (b : Int32), (hk : 1 ≤ k) → (hk2 : k ≤ m) → (hb : b = s_near f c (k - 1)) → m - k < fuel → X 0 0 [(o, .inr (1, [.ref aa])), (aa, .inl (cI, 36, .inl f))] [(4, .int (nI k)), (3, .int b), (2, .int (nI m)), (1, .int c), (0, .ref o)] 10 [] := by
    intro fuel
    induction fuel with
    | zero => intros; omega
    | succ fuel ihL10_0 =>
      intro k b hk hk2 hb hfu
      refine x_iload C dX1_nearest_10 0 rfl ?_
      refine x_iload_n C dX1_nearest_12 2 rfl ?_
      refine x_icmp_ge C dX1_nearest_13 (tgt := 49) rfl (fun c2 => ?_) (fun c2 => ?_)
      ·
        have c2 : k ≥ m := q_ge_t rfl rfl (by omega) (by omega) c2
        refine x_iload_n C dX1_nearest_49 1 rfl ?_
        refine E dX1_nearest_50 (rfl) ?_
        exact ⟨b, rfl, rfl, by rw [hb, show k = m from by omega]⟩
      ·
        have c2 : k < m := q_ge_f rfl rfl (by omega) (by omega) c2
        refine x_iload_n C dX1_nearest_16 3 rfl ?_
        refine x_aload_n C dX1_nearest_17 4 rfl ?_
        refine x_get C inlX1 rfl 0 (by decide) gw_3_21 dX1_nearest_18 0 rfl rfl ?_
        refine x_iload C dX1_nearest_21 0 rfl ?_
        refine x_iaload C 0 rfl dX1_nearest_23 k (q_cl rfl (by omega)) (q_ix rfl (by omega) (by omega)) 1 rfl ?_
        refine x_callS C (As := [.int c, .int (f k)]) (st := []) (wc := []) (wr := [(o, .inr (1, [.ref aa])), (aa, .inl (cI, 36, .inl f))]) (c_X1_far l dG cI cM cW cS c (f k) ) rZ0_ok (fun _ _ _ _ => trivial) kS_X1_23 hy_X1_far ⟨Nat.le_of_ble_eq_true rfl, Nat.le_of_ble_eq_true rfl⟩ ⟨Nat.le_of_ble_eq_true rfl, Nat.le_of_ble_eq_true rfl⟩ dX1_nearest_24 [] [0, 1] rfl rfl rfl rfl (by decide) rfl (Nat.le_of_ble_eq_true rfl) ?_
        intro v3 w4 h5
        obtain ⟨_, rfl, rfl, rfl⟩ := h5
        show X 0 0 [(o, .inr (1, [.ref aa])), (aa, .inl (cI, 36, .inl f))] [(4, .int (nI k)), (3, .int b), (2, .int (nI m)), (1, .int c), (0, .ref o)] 27 [.int (s_far c (f k))]
        refine x_iload_n C dX1_nearest_27 3 rfl ?_
        refine x_iload_n C dX1_nearest_28 1 rfl ?_
        refine x_callS C (As := [.int c, .int b]) (st := [.int (s_far c (f k))]) (wc := []) (wr := [(o, .inr (1, [.ref aa])), (aa, .inl (cI, 36, .inl f))]) (c_X1_far l dG cI cM cW cS c b ) rZ0_ok (fun _ _ _ _ => trivial) kS_X1_23 hy_X1_far ⟨Nat.le_of_ble_eq_true rfl, Nat.le_of_ble_eq_true rfl⟩ ⟨Nat.le_of_ble_eq_true rfl, Nat.le_of_ble_eq_true rfl⟩ dX1_nearest_29 [] [0, 1] rfl rfl rfl rfl (by decide) rfl (Nat.le_of_ble_eq_true rfl) ?_
        intro v8 w9 h10
        obtain ⟨_, rfl, rfl, rfl⟩ := h10
        show X 0 0 [(o, .inr (1, [.ref aa])), (aa, .inl (cI, 36, .inl f))] [(4, .int (nI k)), (3, .int b), (2, .int (nI m)), (1, .int c), (0, .ref o)] 32 [.int (s_far c b), .int (s_far c (f k))]
        refine x_icmp_ge C dX1_nearest_32 (tgt := 43) rfl (fun c13 => ?_) (fun c13 => ?_)
        ·
          refine x_iinc C dX1_nearest_43 0 rfl (v := nI (k + 1)) (nI_1 _) (by decide) (lv' := [(4, .int (nI (k + 1))), (3, .int b), (2, .int (nI m)), (1, .int c), (0, .ref o)]) rfl ?_
          refine x_goto C dX1_nearest_46 (tgt := 10) rfl ?_
          exact ihL10_0 (k + 1) b (by omega) (by omega) (by first | (exact q_near_t (by omega) hb rfl rfl (by assumption)) | (exact q_near_f (by omega) hb rfl rfl (by assumption))) (by omega)
        ·
          refine x_aload_n C dX1_nearest_35 4 rfl ?_
          refine x_get C inlX1 rfl 0 (by decide) gw_3_21 dX1_nearest_36 0 rfl rfl ?_
          refine x_iload C dX1_nearest_39 0 rfl ?_
          refine x_iaload C 0 rfl dX1_nearest_41 k (q_cl rfl (by omega)) (q_ix rfl (by omega) (by omega)) 1 rfl ?_
          refine x_istore_n C dX1_nearest_42 (by decide) (lv' := [(3, .int (f k)), (4, .int (nI k)), (2, .int (nI m)), (1, .int c), (0, .ref o)]) rfl ?_
          refine x_iinc C dX1_nearest_43 1 rfl (v := nI (k + 1)) (nI_1 _) (by decide) (lv' := [(4, .int (nI (k + 1))), (3, .int (f k)), (2, .int (nI m)), (1, .int c), (0, .ref o)]) rfl ?_
          refine x_goto C dX1_nearest_46 (tgt := 10) rfl ?_
          exact ihL10_0 (k + 1) (f k) (by omega) (by omega) (by first | (exact q_near_t (by omega) hb rfl rfl (by assumption)) | (exact q_near_f (by omega) hb rfl rfl (by assumption))) (by omega)
  refine x_lv C [0, 1, 4, 3, 2] (lv' := [(4, .int 1), (3, .int (f 0)), (2, .int (nI m)), (1, .int c), (0, .ref o)]) rfl ?_
  show X 0 0 [(o, .inr (1, [.ref aa])), (aa, .inl (cI, 36, .inl f))] [(4, .int (nI 1)), (3, .int (f 0)), (2, .int (nI m)), (1, .int c), (0, .ref o)] 10 []
  exact L10_0 ((m - 1) + 1) 1 (f 0) (by decide) (by omega) (rfl) (Nat.lt_succ_self _)
