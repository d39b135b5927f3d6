/-! ===== a whole text, by the Model ===== -/
theorem p_mapp_in {cd : sF} {z : Nat} {l : List Int32} {j : Nat} (h : j < l.length) : p_mapp cd z l (z + j) = s_mop (l.getD j 0) := by
  unfold p_mapp
  rw [p_app_in (by rw [List.length_map]; exact h), List.getD_eq_getElem?_getD, List.getElem?_map, List.getElem?_eq_getElem h, List.getD_eq_getElem?_getD, List.getElem?_eq_getElem h]
  rfl
theorem p_mapp_out {cd : sF} {z : Nat} {l : List Int32} {j : Nat} (h : j < z) : p_mapp cd z l j = cd j := p_app_out h
theorem p_T_mlaw {cd cd1 cd2 cd3 bg : sF} {c0 c1 c2 : List Int32} {t z1 z2 z3 : Nat} (h1 : ∀ j, cd1 j = p_mapp cd (170 * t + 0) c0 j) (h2 : ∀ j, cd2 j = p_mapp cd1 (170 * t + z1) c1 j) (h3 : ∀ j, cd3 j = p_mapp cd2 (170 * t + z2) c2 j) (e1 : z1 = c0.length) (e2 : z2 = c0.length + c1.length) (e3 : z3 = c0.length + c1.length + c2.length) : s_mlaw cd3 (upd (upd (upd (upd bg (4 * t + 0) (nI 0)) (4 * t + 1) (nI z1)) (4 * t + 2) (nI z2)) (4 * t + 3) (nI z3)) t (p_T c0 c1 c2) := by
  refine ⟨fun p hp => ?_, fun p hp j hj => ?_⟩
  · rcases (show p = 0 ∨ p = 1 ∨ p = 2 ∨ p = 3 by omega) with rfl | rfl | rfl | rfl
    · rw [pk_un (by omega), pk_un (by omega), pk_un (by omega), pk_us]
      rfl
    · rw [pk_un (by omega), pk_un (by omega), pk_us, e1]
      rfl
    · rw [pk_un (by omega), pk_us, e2]
      rfl
    · rw [pk_us, e3]
      rfl
  · rcases (show p = 0 ∨ p = 1 ∨ p = 2 by omega) with rfl | rfl | rfl
    · have hj : j < c0.length := hj
      show cd3 (170 * t + (0 + j)) = s_mop (c0.getD j 0)
      rw [h3, p_mapp_out (by omega), h2, p_mapp_out (by omega), h1, ← Nat.add_assoc, p_mapp_in hj]
    · have hj : j < c1.length := hj
      show cd3 (170 * t + (c0.length + j)) = s_mop (c1.getD j 0)
      rw [h3, p_mapp_out (by omega), h2, ← e1, ← Nat.add_assoc, p_mapp_in hj]
    · have hj : j < c2.length := hj
      show cd3 (170 * t + (c0.length + c1.length + j)) = s_mop (c2.getD j 0)
      rw [h3, ← e2, ← Nat.add_assoc, p_mapp_in hj]
theorem p_part_good {tp : sF} {n : Nat} (w : Int32) (a a' : Nat) (ok : Bool) (c : List Int32) (ha : a ≤ n) (hr : p_part tp n w a = (ok, a', c)) (hw : w ≠ 0 := by decide) : a ≤ a' ∧ a' ≤ n ∧ (ok = true → a < a' ∧ c.length ≤ a' - a ∧ p_dep c) := by
  by_cases h : p_tk tp n a = w
  · have g1 := p_nx_gt2 (show ¬ p_tk tp n a = 0 by rw [h]; exact hw)
    have g2 := p_nx_le (tp := tp) ha
    obtain ⟨⟨ok1, a1, c1⟩, h1⟩ : ∃ r, p_Or tp n 5 (p_nx tp n a) = r := ⟨_, rfl⟩
    obtain ⟨k1, k2, k3⟩ := p_Or_good 5 _ _ _ _ g2 h1
    cases ok1 with
    | false =>
      obtain ⟨e1, e2, e3⟩ := p_inj ((p_part_g h h1).symm.trans hr)
      rw [e1, e2]
      exact ⟨by omega, k2, fun e => absurd e (by decide)⟩
    | true =>
      by_cases h5 : p_tk tp n a1 = 59
      · obtain ⟨e1, e2, e3⟩ := p_inj ((p_part_t h h1 h5).symm.trans hr)
        have l1 := p_nx_gt2 (show ¬ p_tk tp n a1 = 0 by rw [h5]; decide)
        have l2 := p_nx_le (tp := tp) k2
        obtain ⟨j1, j2, j3⟩ := k3 rfl
        rw [e1, e2, e3]
        exact ⟨by omega, l2, fun _ => ⟨by omega, by omega, j3⟩⟩
      · obtain ⟨e1, e2, e3⟩ := p_inj ((p_part_s h h1 h5).symm.trans hr)
        rw [e1, e2]
        exact ⟨by omega, k2, fun e => absurd e (by decide)⟩
  · obtain ⟨e1, e2, e3⟩ := p_inj ((p_part_w h).symm.trans hr)
    rw [e1, e2]
    exact ⟨Nat.le_refl _, ha, fun e => absurd e (by decide)⟩
theorem p_lo_u {f g : sF} {lim i : Nat} {v : Int32} (h : ∀ j, j < lim → f j = g j) (hz : lim ≤ i) : ∀ j, j < lim → upd f i v j = g j := fun j hj => (pk_un (by omega)).trans (h j hj)
theorem p_lo_t {f g k : sF} {lim : Nat} (h1 : ∀ j, j < lim → f j = g j) (h2 : ∀ j, j < lim → g j = k j) : ∀ j, j < lim → f j = k j := fun j hj => (h1 j hj).trans (h2 j hj)
