/-! ===== what is asked of the days gone through ===== -/
theorem q_in3 {x : Int32} (h : 0 ≤ x ∧ x ≤ 2) : x = 0 ∨ x = 1 ∨ x = 2 := by
  obtain ⟨j, hj, rfl⟩ := q_w (n := 2) rfl (by decide) h
  rcases (show j = 0 ∨ j = 1 ∨ j = 2 by omega) with rfl | rfl | rfl
  · exact Or.inl rfl
  · exact Or.inr (Or.inl rfl)
  · exact Or.inr (Or.inr rfl)
theorem q_w1 {n : Int32} (h : 1 ≤ n ∧ n ≤ 14) : ∃ j, 1 ≤ j ∧ j ≤ 14 ∧ n = nI j := by
  obtain ⟨j, hj, rfl⟩ := q_w (n := 14) rfl (by decide) ⟨Int32.le_trans (by decide) h.1, h.2⟩
  refine ⟨j, ?_, hj, rfl⟩
  exact (nI_leI (a := 1) (by decide) (by omega)).mp h.1
def o_tn (G : sG) : Nat := G.2.2.2.2.2.1
def o_P (G : sG) : Nat → Bool := G.2.2.2.2.2.2.2.2.1
def o_lie (G : sG) (n c w : Int32) : Int32 := if 0 ≤ n ∧ n ≤ 14 then if 0 ≤ c ∧ c ≤ 35 then if 0 ≤ w ∧ w ≤ 2 then (if w = 2 then (s_gone G (o_n n)).2.2.1 (o_n c) else if w = 0 then (s_gone G (o_n n)).1 (o_n c) else (s_gone G (o_n n)).2.1 (o_n c)) else -7 else -5 else -5
def o_tot (h : Nat) (s : sS) (k : Nat) : Int32 := if k = 0 then s_sum (fun j => s.1 j + s.2.1 j) 36 else if k = 1 then s_sum s.2.2.2.1 h else if k = 2 then s.2.2.2.2.2.2.1 else if k = 3 then s.2.2.2.2.2.2.2.1 else if k = 4 then s.2.2.2.2.2.2.2.2 else s.2.2.2.2.2.1 (k - 5)
def o_sum (G : sG) (n w : Int32) : Int32 := if 0 ≤ n ∧ n ≤ 14 then if 0 ≤ w ∧ w ≤ 8 then o_tot 4 (s_gone G (o_n n)) (o_n w) else -7 else -5
def o_hang (G : sG) (n t : Int32) : Int32 := if 0 ≤ n ∧ n ≤ 14 then if 0 ≤ t ∧ t ≤ nI (o_tn G) - 1 then (s_gone G (o_n n)).2.2.2.1 (o_n t) else -5 else -5
def o_fom (f : sF) (z : Nat) (w : Int32) : Int32 := if w = 0 then nI (s_fm f (z - 1)) else f (s_fm f (z - 1))
def o_worst (G : sG) (n w : Int32) : Int32 := if 0 ≤ n ∧ n ≤ 14 then if 0 ≤ w ∧ w ≤ 1 then o_fom (s_gone G (o_n n)).2.2.1 36 w else -7 else -5
theorem s_fm_cong {f g : sF} : ∀ {k : Nat}, (∀ j, j ≤ k → f j = g j) → s_fm f k = s_fm g k
  | 0, _ => rfl
  | k + 1, h => by
    have e := s_fm_cong (k := k) (fun j hj => h j (by omega))
    unfold s_fm
    rw [e, h _ (by have := s_fm_le g k; omega), h (k + 1) (Nat.le_refl _)]
def o_sm (s : sS) : sF := fun j => s.1 j + s.2.1 j
theorem o_fom_cong {f g : sF} {z : Nat} {w : Int32} (hz : 1 ≤ z) (h : ∀ j, j < z → f j = g j) : o_fom f z w = o_fom g z w := by
  unfold o_fom
  have e := s_fm_cong (f := f) (g := g) (k := z - 1) (fun j hj => h j (by omega))
  rw [e, h _ (by have := s_fm_le g (z - 1); omega)]
def o_corner (G : sG) (n w : Int32) : Int32 := if 0 ≤ n ∧ n ≤ 14 then if 0 ≤ w ∧ w ≤ 1 then o_fom (o_sm (s_gone G (o_n n))) 36 w else -7 else -5
theorem o_cor_c {s : sS} {D W r : sF} {w : Int32} (hs : s.1 = D ∧ s.2.1 = W) : (if w = 0 then nI (s_fm (fun j => if j < 36 then D j + W j else r j) (36 - 1)) else (fun j => if j < 36 then D j + W j else r j) (s_fm (fun j => if j < 36 then D j + W j else r j) (36 - 1))) = o_fom (o_sm s) 36 w := by
  show o_fom (fun j => if j < 36 then D j + W j else r j) 36 w = _
  refine o_fom_cong (by decide) fun j hj => ?_
  rw [if_pos hj, ← hs.1, ← hs.2]
  rfl
def o_where (G : sG) (n w : Int32) : Int32 := if 0 ≤ n ∧ n ≤ 14 then if 0 ≤ w ∧ w ≤ 3 then if w = 0 then (s_bh (s_gone G (o_n n)).1 (s_gone G (o_n n)).2.1 36).1 else if w = 1 then (s_bh (s_gone G (o_n n)).1 (s_gone G (o_n n)).2.1 36).2 else if w = 2 then (s_bo (s_gone G (o_n n)).1 (s_gone G (o_n n)).2.1 36).1 else (s_bo (s_gone G (o_n n)).1 (s_gone G (o_n n)).2.1 36).2 else -7 else -5
def o_raking (G : sG) (n : Int32) : Int32 := if 0 ≤ n ∧ n ≤ 14 then s_cost (o_P G) (s_gone G (o_n n)).1 (s_gone G (o_n n)).2.1 else -5
def o_great (G : sG) (w : Int32) : Int32 := if 0 ≤ w ∧ w ≤ 1 then if w = 0 then if s_sum (s_fl G) 14 = 0 then -1 else o_fom (s_fl G) 14 w else o_fom (s_fl G) 14 w else -2
theorem s_sum_cong {f g : sF} : ∀ {n : Nat}, (∀ j, j < n → f j = g j) → s_sum f n = s_sum g n
  | 0, _ => rfl
  | n + 1, h => by
    show s_sum f n + f n = s_sum g n + g n
    rw [s_sum_cong (n := n) (fun j hj => h j (by omega)), h n (by omega)]
theorem o_gr_c {F f : sF} (h : ∀ j, F j = if j < 14 then f j else 0) : s_sum F 14 = s_sum f 14 ∧ ∀ w, o_fom F 14 w = o_fom f 14 w :=
  ⟨s_sum_cong fun j hj => by rw [h j, if_pos hj], fun w => o_fom_cong (by decide) fun j hj => by rw [h j, if_pos hj]⟩
def o_unfit (so : Int32) (nz : Nat) (s n le : Int32) : Int32 := if 0 ≤ s ∧ s ≤ 3 then if so = -1 then -11 else if nz = 36 then if le ≤ n ∧ n ≤ 14 then 0 else -7 else -2 else -2
def o_look (g : sF) (s : sS) : Int32 := s_ul (fun j => decide (g j ≠ s.1 j + s.2.1 j)) 36 0
def o_judge (G : sG) (so : Int32) (nz : Nat) (g : sF) (s n : Int32) : Int32 := if o_unfit so nz s n 0 = 0 then o_look g (s_gone G (o_n n)) else o_unfit so nz s n 0
def o_film (s n : Int32) : Int32 := if 0 ≤ s ∧ s ≤ 3 then if 0 ≤ n ∧ n ≤ 14 then 36 else -7 else -2
def o_film_so (so s n : Int32) : Int32 := if 0 ≤ s ∧ s ≤ 3 then if 0 ≤ n ∧ n ≤ 14 then 2 else so else so
def o_film_nz (nz : Nat) (s n : Int32) : Nat := if 0 ≤ s ∧ s ≤ 3 then if 0 ≤ n ∧ n ≤ 14 then 36 else nz else nz
def o_film_g (G : sG) (g : sF) (s n : Int32) : sF := if 0 ≤ s ∧ s ≤ 3 then if 0 ≤ n ∧ n ≤ 14 then (fun j => if j < 36 then o_sm (s_gone G (o_n n)) j else 0) else g else g
theorem o_where_l {G : sG} {n : Int32} {D W cv h o : sF} {f rt rk ct : Int32} (hn : 0 ≤ n ∧ n ≤ 14) (hS : s_gone G (o_n n) = (D, W, cv, h, f, o, rt, rk, ct)) : o_where G n 0 = (s_bh D W 36).1 ∧ o_where G n 1 = (s_bh D W 36).2 ∧ o_where G n 2 = (s_bo D W 36).1 ∧ o_where G n 3 = (s_bo D W 36).2 := by
  unfold o_where
  rw [hS]
  generalize s_bh D W 36 = x
  generalize s_bo D W 36 = y
  refine ⟨?_, ?_, ?_, ?_⟩ <;> rw [if_pos hn, if_pos (by decide)] <;> rfl
