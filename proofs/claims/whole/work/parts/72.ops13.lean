def o_nmin (a b : sF) : sF := fun c => s_min (a c) (b c)
def o_nbare (a b : sF) : sF := fun c => if a c = 0 then b c else 0
theorem q_sub4 (a b c d v : Int32) : (0 + v + b + c + d - (0 + a + b + c + d) = v - a) ∧ (0 + b + v + c + d - (0 + b + a + c + d) = v - a) ∧ (0 + b + c + v + d - (0 + b + c + a + d) = v - a) ∧ 0 + b + c + d + v - (0 + b + c + d + a) = v - a := by
  have e : ∀ x y z : Int32, x + z - (y + z) = x - y := fun x y z => by
    rw [Int32.sub_eq_add_neg, Int32.neg_add, Int32.sub_eq_add_neg, Int32.sub_eq_add_neg, Int32.add_assoc, Int32.add_comm (-y) (-z), ← Int32.add_assoc z, Int32.add_right_neg, Int32.zero_add]
  have f : ∀ x y z : Int32, z + x - (z + y) = x - y := fun x y z => by rw [Int32.add_comm z x, Int32.add_comm z y, e]
  refine ⟨?_, ?_, ?_, ?_⟩
  · rw [e, e, e, f]
  · rw [e, e, f]
  · rw [e, f]
  · rw [f]
theorem o_off4 (o : sF) {w : Nat} (hw : w < 4) (v : Int32) : s_sum (upd o w v) 4 - s_sum o 4 = v - o w := by
  have h4 : ∀ f : sF, s_sum f 4 = 0 + f 0 + f 1 + f 2 + f 3 := fun f => rfl
  rw [h4, h4]
  rcases (show w = 0 ∨ w = 1 ∨ w = 2 ∨ w = 3 by omega) with rfl | rfl | rfl | rfl
  · rw [pk_us, pk_un (by decide), pk_un (by decide), pk_un (by decide)]; exact (q_sub4 _ _ _ _ _).1
  · rw [pk_us, pk_un (by decide), pk_un (by decide), pk_un (by decide)]; exact (q_sub4 _ _ _ _ _).2.1
  · rw [pk_us, pk_un (by decide), pk_un (by decide), pk_un (by decide)]; exact (q_sub4 _ _ _ _ _).2.2.1
  · rw [pk_us, pk_un (by decide), pk_un (by decide), pk_un (by decide)]; exact (q_sub4 _ _ _ _ _).2.2.2
def o_tonight (G : sG) (n ws w : Int32) : Int32 := if 0 ≤ n ∧ n ≤ 14 then if 0 ≤ ws ∧ ws ≤ 39 then if 0 ≤ w ∧ w ≤ 2 then if w = 1 then (o_night G (o_n n) (o_n ws / 10) (nI (o_n ws % 10))).2.2 - (s_gone G (o_n n)).2.2.2.2.2.1 (o_n ws / 10) else s_sum ((if w = 2 then o_nmin else o_nbare) (o_sm (s_gone G (o_n n))) (fun c => (o_night G (o_n n) (o_n ws / 10) (nI (o_n ws % 10))).1 c + (o_night G (o_n n) (o_n ws / 10) (nI (o_n ws % 10))).2.1 c)) 36 else -7 else -7 else -5
