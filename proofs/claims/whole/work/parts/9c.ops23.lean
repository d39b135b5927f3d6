/-! ===== a whole text ===== -/
def p_part (tp : sF) (n : Nat) (w : Int32) (a : Nat) : pR :=
  if p_tk tp n a = w then (if (p_Or tp n 5 (p_nx tp n a)).1 = true then (if p_tk tp n (p_Or tp n 5 (p_nx tp n a)).2.1 = 59 then (true, p_nx tp n (p_Or tp n 5 (p_nx tp n a)).2.1, (p_Or tp n 5 (p_nx tp n a)).2.2) else (false, (p_Or tp n 5 (p_nx tp n a)).2.1, (p_Or tp n 5 (p_nx tp n a)).2.2)) else p_Or tp n 5 (p_nx tp n a)) else (false, a, [])
def p_T (c0 c1 c2 : List Int32) : sT := fun p => if p = 0 then c0 else if p = 1 then c1 else c2
/-- came through, where, the parts -/
def p_txt (tp : sF) (n : Nat) : Bool × Nat × sT :=
  if (p_part tp n 4 0).1 = true then
    (if (p_part tp n 5 (p_part tp n 4 0).2.1).1 = true then
      (if (p_part tp n 6 (p_part tp n 5 (p_part tp n 4 0).2.1).2.1).1 = true then
        (decide (p_tk tp n (p_part tp n 6 (p_part tp n 5 (p_part tp n 4 0).2.1).2.1).2.1 = 0), (p_part tp n 6 (p_part tp n 5 (p_part tp n 4 0).2.1).2.1).2.1, p_T (p_part tp n 4 0).2.2 (p_part tp n 5 (p_part tp n 4 0).2.1).2.2 (p_part tp n 6 (p_part tp n 5 (p_part tp n 4 0).2.1).2.1).2.2)
      else (false, (p_part tp n 6 (p_part tp n 5 (p_part tp n 4 0).2.1).2.1).2.1, fun _ => []))
    else (false, (p_part tp n 5 (p_part tp n 4 0).2.1).2.1, fun _ => []))
  else (false, (p_part tp n 4 0).2.1, fun _ => [])
section PPT
variable {tp : sF} {n a a0 a1 a2 : Nat} {w : Int32} {c c0 c1 c2 : List Int32}
theorem p_part_w (h : ¬ p_tk tp n a = w) : p_part tp n w a = (false, a, []) := if_neg h
theorem p_part_t (h : p_tk tp n a = w) (hr : p_Or tp n 5 (p_nx tp n a) = (true, a1, c)) (h2 : p_tk tp n a1 = 59) : p_part tp n w a = (true, p_nx tp n a1, c) := by
  rw [p_part, if_pos h, hr, if_pos rfl]
  exact if_pos h2
theorem p_part_s (h : p_tk tp n a = w) (hr : p_Or tp n 5 (p_nx tp n a) = (true, a1, c)) (h2 : ¬ p_tk tp n a1 = 59) : p_part tp n w a = (false, a1, c) := by
  rw [p_part, if_pos h, hr, if_pos rfl]
  exact if_neg h2
theorem p_part_g (h : p_tk tp n a = w) (hr : p_Or tp n 5 (p_nx tp n a) = (false, a1, c)) : p_part tp n w a = (false, a1, c) := by
  rw [p_part, if_pos h, hr]
  exact if_neg (fun h9 => absurd (show false = true from h9) (by decide))
theorem p_ff {p : Prop} (h9 : (false : Bool) = true) : p := absurd h9 (by decide)
theorem p_txt_0 (h0 : p_part tp n 4 0 = (false, a, c)) : (p_txt tp n).1 = false ∧ (p_txt tp n).2.1 = a := by
  unfold p_txt
  rw [h0, if_neg (fun h9 => p_ff h9)]
  exact ⟨rfl, rfl⟩
theorem p_txt_1 (h0 : p_part tp n 4 0 = (true, a0, c0)) (h1 : p_part tp n 5 a0 = (false, a, c)) : (p_txt tp n).1 = false ∧ (p_txt tp n).2.1 = a := by
  unfold p_txt
  rw [h0, if_pos rfl, h1, if_neg (fun h9 => p_ff h9)]
  exact ⟨rfl, rfl⟩
theorem p_txt_2 (h0 : p_part tp n 4 0 = (true, a0, c0)) (h1 : p_part tp n 5 a0 = (true, a1, c1)) (h2 : p_part tp n 6 a1 = (false, a, c)) : (p_txt tp n).1 = false ∧ (p_txt tp n).2.1 = a := by
  unfold p_txt
  rw [h0, if_pos rfl, h1, if_pos rfl, h2, if_neg (fun h9 => p_ff h9)]
  exact ⟨rfl, rfl⟩
theorem p_txt_e (h0 : p_part tp n 4 0 = (true, a0, c0)) (h1 : p_part tp n 5 a0 = (true, a1, c1)) (h2 : p_part tp n 6 a1 = (true, a2, c2)) : p_txt tp n = (decide (p_tk tp n a2 = 0), a2, p_T c0 c1 c2) := by
  unfold p_txt
  rw [h0, if_pos rfl, h1, if_pos rfl, h2, if_pos rfl]
theorem p_txt_3 (h0 : p_part tp n 4 0 = (true, a0, c0)) (h1 : p_part tp n 5 a0 = (true, a1, c1)) (h2 : p_part tp n 6 a1 = (true, a2, c2)) (ht : ¬ p_tk tp n a2 = 0) : (p_txt tp n).1 = false ∧ (p_txt tp n).2.1 = a2 := by
  rw [p_txt_e h0 h1 h2]
  exact ⟨decide_eq_false ht, rfl⟩
theorem p_txt_t (h0 : p_part tp n 4 0 = (true, a0, c0)) (h1 : p_part tp n 5 a0 = (true, a1, c1)) (h2 : p_part tp n 6 a1 = (true, a2, c2)) (ht : p_tk tp n a2 = 0) : p_txt tp n = (true, a2, p_T c0 c1 c2) := by
  rw [p_txt_e h0 h1 h2, decide_eq_true ht]
end PPT
theorem p_T_ok {c0 c1 c2 : List Int32} (h0 : p_dep c0) (h1 : p_dep c1) (h2 : p_dep c2) (hl : c0.length + c1.length + c2.length ≤ 160) : s_ok (p_T c0 c1 c2) := by
  refine ⟨fun p hp => ?_, ?_⟩
  · rcases (show p = 0 ∨ p = 1 ∨ p = 2 by omega) with rfl | rfl | rfl
    · exact h0 0
    · exact h1 0
    · exact h2 0
  · exact hl
theorem p_app_in {cd : sF} {z : Nat} {l : List Int32} {j : Nat} (h : j < l.length) : p_app cd z l (z + j) = l.getD j 0 := by
  unfold p_app
  rw [if_pos (by omega), Nat.add_sub_cancel_left]
theorem p_app_out {cd : sF} {z : Nat} {l : List Int32} {j : Nat} (h : j < z) : p_app cd z l j = cd j := by
  unfold p_app
  rw [if_neg (by omega)]
theorem p_T_law {cd cd1 cd2 cd3 en : sF} {c0 c1 c2 : List Int32} {z1 z2 z3 : Nat} (h1 : ∀ j, cd1 j = p_app cd 0 c0 j) (h2 : ∀ j, cd2 j = p_app cd1 z1 c1 j) (h3 : ∀ j, cd3 j = p_app cd2 z2 c2 j) (e1 : z1 = c0.length) (e2 : z2 = c0.length + c1.length) (e3 : z3 = c0.length + c1.length + c2.length) : s_law cd3 (upd (upd (upd en 0 (nI z1)) 1 (nI z2)) 2 (nI z3)) (p_T c0 c1 c2) := by
  refine ⟨fun p hp => ?_, fun p hp j hj => ?_⟩
  · rcases (show p = 0 ∨ p = 1 ∨ p = 2 by omega) with rfl | rfl | rfl
    · rw [pk_un (by decide), pk_un (by decide), pk_us, e1]
      rfl
    · rw [pk_un (by decide), pk_us, e2]
      rfl
    · rw [pk_us, e3]
      rfl
  · rcases (show p = 0 ∨ p = 1 ∨ p = 2 by omega) with rfl | rfl | rfl
    · have hj : j < c0.length := hj
      show cd3 (0 + j) = c0.getD j 0
      rw [h3, p_app_out (by omega), h2, p_app_out (by omega), h1, p_app_in hj]
    · have hj : j < c1.length := hj
      show cd3 (c0.length + j) = c1.getD j 0
      rw [h3, p_app_out (by omega), h2, ← e1, p_app_in hj]
    · have hj : j < c2.length := hj
      show cd3 (c0.length + c1.length + j) = c2.getD j 0
      rw [h3, ← e2, p_app_in hj]
