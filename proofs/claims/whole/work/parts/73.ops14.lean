theorem o_nmin_s {A B : sF} {c : Nat} : s_sum (o_nmin A B) (c + 1) = s_sum (o_nmin A B) c + (if B c < A c then B c else A c) := rfl
theorem o_nbare_t {A B : sF} {c : Nat} (h : A c = 0) : s_sum (o_nbare A B) (c + 1) = s_sum (o_nbare A B) c + B c := congrArg (s_sum (o_nbare A B) c + ·) (if_pos h)
theorem o_nbare_f {A B : sF} {c : Nat} (h : ¬ A c = 0) : s_sum (o_nbare A B) (c + 1) = s_sum (o_nbare A B) c := (congrArg (s_sum (o_nbare A B) c + ·) (if_neg h)).trans (Int32.add_zero _)
section TN
variable {G : sG} {n ws : Nat} {bl : sF × sF × Int32} {D W cv h o : sF} {f rt rk ct : Int32}
theorem o_tonight_1 (h1 : 0 ≤ nI n ∧ nI n ≤ 14) (h2 : 0 ≤ nI ws ∧ nI ws ≤ 39) (en : o_n (nI n) = n) (ew : o_n (nI ws) = ws) (hS : s_gone G n = (D, W, cv, h, f, o, rt, rk, ct)) (hb : bl = o_night G n (ws / 10) (nI (ws % 10))) (hw : ws / 10 < 4) : s_sum (upd o (ws / 10) bl.2.2) 4 - s_sum o 4 = o_tonight G (nI n) (nI ws) 1 := by
  unfold o_tonight
  rw [if_pos h1, if_pos h2, if_pos (by decide), if_pos rfl, en, ew, ← hb, hS, o_off4 o hw]
theorem o_tonight_2 (h1 : 0 ≤ nI n ∧ nI n ≤ 14) (h2 : 0 ≤ nI ws ∧ nI ws ≤ 39) (en : o_n (nI n) = n) (ew : o_n (nI ws) = ws) (hS : s_gone G n = (D, W, cv, h, f, o, rt, rk, ct)) (hb : bl = o_night G n (ws / 10) (nI (ws % 10))) {r : sF} {c : Nat} (hc : c = 36) : s_sum (o_nmin (fun j => if j < 36 then D j + W j else r j) (fun j => bl.1 j + bl.2.1 j)) c = o_tonight G (nI n) (nI ws) 2 := by
  unfold o_tonight
  rw [if_pos h1, if_pos h2, if_pos (by decide), if_neg (by decide), if_pos rfl, en, ew, ← hb, hS, hc]
  refine s_sum_cong fun j hj => ?_
  show s_min (if j < 36 then D j + W j else r j) _ = s_min (D j + W j) _
  rw [if_pos hj]
theorem o_tonight_0 (h1 : 0 ≤ nI n ∧ nI n ≤ 14) (h2 : 0 ≤ nI ws ∧ nI ws ≤ 39) (en : o_n (nI n) = n) (ew : o_n (nI ws) = ws) (hS : s_gone G n = (D, W, cv, h, f, o, rt, rk, ct)) (hb : bl = o_night G n (ws / 10) (nI (ws % 10))) {r : sF} {c : Nat} (hc : c = 36) : s_sum (o_nbare (fun j => if j < 36 then D j + W j else r j) (fun j => bl.1 j + bl.2.1 j)) c = o_tonight G (nI n) (nI ws) 0 := by
  unfold o_tonight
  rw [if_pos h1, if_pos h2, if_pos (by decide), if_neg (by decide), if_neg (by decide), en, ew, ← hb, hS, hc]
  refine s_sum_cong fun j hj => ?_
  show (if (if j < 36 then D j + W j else r j) = 0 then _ else 0) = (if D j + W j = 0 then _ else 0)
  rw [if_pos hj]
end TN
