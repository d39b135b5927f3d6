/-! ===== operations put behind one another ===== -/
def p_app (cd : sF) (z : Nat) (l : List Int32) : sF := fun j => if z ≤ j ∧ j < z + l.length then l.getD (j - z) 0 else cd j
theorem p_inj {x ok : Bool} {y a9 : Nat} {w c : List Int32} (h : (x, y, w) = (ok, a9, c)) : ok = x ∧ a9 = y ∧ c = w := by
  cases h
  exact ⟨rfl, rfl, rfl⟩
theorem p_len {z zc : Nat} {c w : List Int32} (h : c = w) (hz : zc = z + w.length) : zc = z + c.length := by
  rw [h]
  exact hz
section PAPP
variable {cd cd1 cd2 : sF} {z z1 : Nat} {c1 c2 : List Int32} {v : Int32}
theorem p_app_0 : ∀ j, cd j = p_app cd z [] j := fun j => by
  unfold p_app
  rw [if_neg (by rw [List.length_nil]; omega)]
theorem p_app_s (h : ∀ j, cd1 j = p_app cd z c1 j) (hz : z1 = z + c1.length) : ∀ j, upd cd1 z1 v j = p_app cd z (c1 ++ [v]) j := fun j => by
  by_cases e : j = z1
  · rw [e, pk_us]
    unfold p_app
    rw [if_pos (by rw [List.length_append, List.length_singleton]; omega), List.getD_eq_getElem?_getD, List.getElem?_append_right (by omega), show z1 - z - c1.length = 0 by omega]
    rfl
  · rw [pk_un e, h j]
    unfold p_app
    by_cases q : z ≤ j ∧ j < z + c1.length
    · rw [if_pos q, if_pos (by rw [List.length_append, List.length_singleton]; omega), List.getD_eq_getElem?_getD, List.getD_eq_getElem?_getD, List.getElem?_append_left (by omega)]
    · rw [if_neg q, if_neg (by rw [List.length_append, List.length_singleton]; omega)]
theorem p_app_1 : ∀ j, upd cd z v j = p_app cd z [v] j := p_app_s (c1 := []) p_app_0 rfl
theorem p_app_2 (h : ∀ j, cd1 j = p_app cd z c1 j) (h2 : ∀ j, cd2 j = p_app cd1 z1 c2 j) (hz : z1 = z + c1.length) : ∀ j, cd2 j = p_app cd z (c1 ++ c2) j := fun j => by
  rw [h2 j]
  unfold p_app
  by_cases q : z1 ≤ j ∧ j < z1 + c2.length
  · rw [if_pos q, if_pos (by rw [List.length_append]; omega), List.getD_eq_getElem?_getD, List.getD_eq_getElem?_getD, List.getElem?_append_right (by omega), show j - z - c1.length = j - z1 by omega]
  · rw [if_neg q, h j]
    unfold p_app
    by_cases q2 : z ≤ j ∧ j < z + c1.length
    · rw [if_pos q2, if_pos (by rw [List.length_append]; omega), List.getD_eq_getElem?_getD, List.getD_eq_getElem?_getD, List.getElem?_append_left (by omega)]
    · rw [if_neg q2, if_neg (by rw [List.length_append]; omega)]
end PAPP
