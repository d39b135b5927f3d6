def o_ls (G : sG) (most : Int32) : Nat → Int32 × Int32
  | 0 => (-1, -1)
  | k + 1 => if o_fom (s_gone (o_rg G (nI (s_sat k))) 14).2.2.1 36 1 ≤ most ∧ ((o_ls G most k).1 = -1 ∨ (s_gone (o_rg G (nI (s_sat k))) 14).2.2.2.2.2.2.2.2 < (o_ls G most k).2) then (nI (s_sat k), (s_gone (o_rg G (nI (s_sat k))) 14).2.2.2.2.2.2.2.2) else o_ls G most k
section OLS
variable {G : sG} {most b pr : Int32} {k : Nat} {D W cv h o : sF} {f rt rk ct : Int32}
theorem o_ls_t (hS : s_gone (o_rg G (nI (s_sat k))) 14 = (D, W, cv, h, f, o, rt, rk, ct)) (hq : o_ls G most k = (b, pr)) (h1 : o_fom cv 36 1 ≤ most) (h2 : b = -1 ∨ ct < pr) : o_ls G most (k + 1) = (nI (s_sat k), ct) := by
  rw [o_ls, hS, hq]
  exact if_pos ⟨h1, h2⟩
theorem o_ls_f (hS : s_gone (o_rg G (nI (s_sat k))) 14 = (D, W, cv, h, f, o, rt, rk, ct)) (hq : o_ls G most k = (b, pr)) (h1 : ¬ (o_fom cv 36 1 ≤ most ∧ (b = -1 ∨ ct < pr))) : o_ls G most (k + 1) = (b, pr) := by
  rw [o_ls, hS, hq]
  exact if_neg h1
end OLS
def o_least (G : sG) (most w : Int32) : Int32 := if 0 ≤ most ∧ most ≤ 14 then if 0 ≤ w ∧ w ≤ 1 then if w = 0 then (o_ls G most 16).1 else (o_ls G most 16).2 else -2 else -2
theorem o_least_l {G : sG} {most w b pr : Int32} (h1 : 0 ≤ most ∧ most ≤ 14) (h2 : 0 ≤ w ∧ w ≤ 1) (hq : o_ls G most 16 = (b, pr)) : o_least G most w = if w = 0 then b else pr := by
  unfold o_least
  rw [if_pos h1, if_pos h2, hq]
