theorem o_where_m0 {G : sG} {n : Int32} {D W cv h o : sF} {f rt rk ct b l : Int32} {c : Nat} (hn : 0 ≤ n ∧ n ≤ 14) (hS : s_gone G (o_n n) = (D, W, cv, h, f, o, rt, rk, ct)) (hc : c = 36) (hq : o_mw (s_bh D W c) b l) : b = o_where G n 0 ∧ l = o_where G n 1 := by
  have h9 := o_where_l hn hS
  have h1 := s_bh_ne D W
  rw [hc] at hq
  generalize s_bh D W 36 = x at h9 h1 hq
  have h2 := o_mw_e hq h1
  rw [h2] at h9
  exact ⟨h9.1.symm, h9.2.1.symm⟩
theorem o_where_m2 {G : sG} {n : Int32} {D W cv h o : sF} {f rt rk ct b l : Int32} {c : Nat} (hn : 0 ≤ n ∧ n ≤ 14) (hS : s_gone G (o_n n) = (D, W, cv, h, f, o, rt, rk, ct)) (hc : c = 36) (hq : o_mw (s_bo D W c) b l) : b = o_where G n 2 ∧ l = o_where G n 3 := by
  have h9 := o_where_l hn hS
  have h1 := s_bo_ne D W
  rw [hc] at hq
  generalize s_bo D W 36 = x at h9 h1 hq
  have h2 := o_mw_e hq h1
  rw [h2] at h9
  exact ⟨h9.2.2.1.symm, h9.2.2.2.symm⟩
