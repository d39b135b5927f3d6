/-! ===== a whole text, by the Model ===== -/
theorem p_mapp_in {cd : sF} {z : Nat} {l : List Int32} {j : Nat} (h : j < l.length) : p_mapp cd z l (z + j) = s_mop (l.getD j 0) := by
  unfold p_mapp
  rw [p_app_in (by rw [List.length_map]; exact h), List.getD_eq_getElem?_getD, List.getElem?_map, List.getElem?_eq_getElem h, List.getD_eq_getElem?_getD, List.getElem?_eq_getElem h]
  rfl
theorem p_mapp_out {cd : sF} {z : Nat} {l : List Int32} {j : Nat} (h : j < z) : p_mapp cd z l j = cd j := p_app_out h
theorem p_T_mlaw {cd cd1 cd2 cd3 bg : sF} {c0 c1 c2 : List Int32} {t z1 z2 z3 : Nat} (h1 : ∀ j, cd1 j = p_mapp cd (170 * t + 0) c0 j) (h2 : ∀ j, cd2 j = p_mapp cd1 (170 * t + z1) c1 j) (h3 : ∀ j, cd3 j = p_mapp cd2 (170 * t + z2) c2 j) (e1 : z1 = c0.length) (e2 : z2 = c0.length + c1.length) (e3 : z3 = c0.length + c1.length + c2.length) : s_mlaw cd3 (upd (upd (upd (upd bg (4 * t + 0) (nI 0)) (4 * t + 1) (nI z1)) (4 * t + 2) (nI z2)) (4 * t + 3) (nI z3)) t (p_T c0 c1 c2) := by
  refine ⟨fun p hp => ?_, fun p hp j hj => ?_⟩
  · rcases (show p = 0 ∨ p = 1 ∨ p = 2 ∨ p = 3 by omega) with rfl | rfl | rfl | rfl
    · rw [pk_un (by omega), pk_un (by omega), pk_un (by omega), pk_us]
      rfl
    · rw [pk_un (by omega), pk_un (by omega), pk_us, e1]
      rfl
    · rw [pk_un (by omega), pk_us, e2]
      rfl
    · rw [pk_us, e3]
      rfl
  · rcases (show p = 0 ∨ p = 1 ∨ p = 2 by omega) with rfl | rfl | rfl
    · have hj : j < c0.length := hj
      show cd3 (170 * t + (0 + j)) = s_mop (c0.getD j 0)
      rw [h3, p_mapp_out (by omega), h2, p_mapp_out (by omega), h1, ← Nat.add_assoc, p_mapp_in hj]
    · have hj : j < c1.length := hj
      show cd3 (170 * t + (c0.length + j)) = s_mop (c1.getD j 0)
      rw [h3, p_mapp_out (by omega), h2, ← e1, ← Nat.add_assoc, p_mapp_in hj]
    · have hj : j < c2.length := hj
      show cd3 (170 * t + (c0.length + c1.length + j)) = s_mop (c2.getD j 0)
      rw [h3, ← e2, ← Nat.add_assoc, p_mapp_in hj]
