/-! ===== what the calls answer (one function for both sides) ===== -/
def o_n (x : Int32) : Nat := x.toNatClampNeg
theorem o_n_nI {j : Nat} (h : j < 2 ^ 31) : o_n (nI j) = j := by
  unfold o_n
  rw [nI_clamp h]
theorem q_in4 {x : Int32} (h : 0 ≤ x ∧ x ≤ 3) : x = 0 ∨ x = 1 ∨ x = 2 ∨ x = 3 := by
  obtain ⟨j, hj, rfl⟩ := q_w (n := 3) rfl (by decide) h
  rcases (show j = 0 ∨ j = 1 ∨ j = 2 ∨ j = 3 by omega) with rfl | rfl | rfl | rfl
  · exact Or.inl rfl
  · exact Or.inr (Or.inl rfl)
  · exact Or.inr (Or.inr (Or.inl rfl))
  · exact Or.inr (Or.inr (Or.inr rfl))
def o_pick (w : Int32) (R0 R1 R2 R3 : sF) : sF := if w = 0 then R0 else if w = 1 then R1 else if w = 2 then R2 else R3
def o_sky (R0 R1 R2 R3 : sF) (d w v : Int32) : Int32 := if 0 ≤ d ∧ d ≤ 13 then if 0 ≤ w ∧ w ≤ 3 then if 0 ≤ v ∧ v ≤ (if w = 0 then 3 else if w = 1 then 9 else 1) then o_pick w R0 R1 R2 R3 (o_n d) else -7 else -7 else -5
def o_sky_k (k : Int32) (R : sF) (d w v : Int32) : sF := if 0 ≤ d ∧ d ≤ 13 then if 0 ≤ w ∧ w ≤ 3 then if 0 ≤ v ∧ v ≤ (if w = 0 then 3 else if w = 1 then 9 else 1) then if w = k then upd R (o_n d) v else R else R else R else R
def o_skyTold (R0 R1 R2 R3 : sF) (d w : Int32) : Int32 := if 0 ≤ d ∧ d ≤ 13 then if 0 ≤ w ∧ w ≤ 3 then o_pick w R0 R1 R2 R3 (o_n d) else -7 else -5
def o_count (w a b c d e : Int32) : Int32 := if w = 0 then a else if w = 1 then b else if w = 2 then c else if w = 3 then d else if w = 4 then e else -2
def o_force (t n was : Int32) : Int32 := if 0 ≤ t ∧ t ≤ n - 1 then was else -2
def o_force_n (t : Int32) (n was : Nat) : Nat := if 0 ≤ t ∧ t ≤ nI n - 1 then o_n t else was
theorem q_tree {tn : Nat} {t : Int32} (h4 : tn ≤ 4) (h : 0 ≤ t ∧ t ≤ nI tn - 1) : ∃ j, j < tn ∧ t = nI j := by
  rcases Nat.eq_zero_or_pos tn with h0 | h0
  · subst h0
    exact absurd (Int32.le_trans h.1 h.2) (by decide)
  · rw [show nI tn - 1 = nI (tn - 1) from q_isub rfl rfl (by omega)] at h
    obtain ⟨j, hj, e⟩ := q_w (n := tn - 1) rfl (by omega) h
    exact ⟨j, by omega, e⟩
def o_lay (kf : sF) (c k m : Int32) : Int32 := if 0 ≤ c ∧ c ≤ 35 then if (0 ≤ k ∧ k ≤ 5) ∧ 0 ≤ m ∧ m ≤ 99 then kf (o_n c) else -7 else -5
def o_lay_f (f : sF) (c k m v : Int32) : sF := if 0 ≤ c ∧ c ≤ 35 then if (0 ≤ k ∧ k ≤ 5) ∧ 0 ≤ m ∧ m ≤ 99 then upd f (o_n c) v else f else f
def o_cellTold (kf mf lf : sF) (c w : Int32) : Int32 := if 0 ≤ c ∧ c ≤ 35 then if w = 0 then kf (o_n c) else if w = 1 then mf (o_n c) else if w = 2 then lf (o_n c) else -7 else -5
def o_tree (tn : Nat) (c s l : Int32) : Int32 := if 0 ≤ c ∧ c ≤ 35 then if 0 ≤ s ∧ s ≤ 9 then if 0 ≤ l ∧ l ≤ 999 then if 4 ≤ tn then -4 else nI tn else -2 else -2 else -2
def o_tree_n (tn : Nat) (c s l : Int32) : Nat := if 0 ≤ c ∧ c ≤ 35 then if 0 ≤ s ∧ s ≤ 9 then if 0 ≤ l ∧ l ≤ 999 then if 4 ≤ tn then tn else tn + 1 else tn else tn else tn
def o_tree_f (f : sF) (tn : Nat) (c s l v : Int32) : sF := if 0 ≤ c ∧ c ≤ 35 then if 0 ≤ s ∧ s ≤ 9 then if 0 ≤ l ∧ l ≤ 999 then if 4 ≤ tn then f else upd f tn v else f else f else f
def o_treeTold (a b c : sF) (tn : Nat) (t w : Int32) : Int32 := if 0 ≤ t ∧ t ≤ nI tn - 1 then if w = 0 then a (o_n t) else if w = 1 then b (o_n t) else if w = 2 then c (o_n t) else -7 else -5
def o_strew (lf : sF) (c v : Int32) : Int32 := if 0 ≤ c ∧ c ≤ 35 then if 0 ≤ v ∧ v ≤ 999 then lf (o_n c) else -7 else -5
def o_strew_f (lf : sF) (c v : Int32) : sF := if 0 ≤ c ∧ c ≤ 35 then if 0 ≤ v ∧ v ≤ 999 then upd lf (o_n c) v else lf else lf
def o_rake (was v : Int32) : Int32 := if 0 ≤ v ∧ v ≤ 16383 then was else -2
def o_rake_v (was v : Int32) : Int32 := if 0 ≤ v ∧ v ≤ 16383 then v else was
def o_one (k f : Int32) : Bool := if f = 0 then true else if f = 1 then decide (k = 1 ∨ k = 3) else if f = 2 then decide (k = 2 ∨ k = 5) else decide (k = f)
theorem o_one_t {k f : Int32} (h : s_one k f) : o_one k f = true := by
  unfold s_one at h
  unfold o_one
  repeat' split
  all_goals simp_all
theorem o_one_f {k f : Int32} (h : ¬ s_one k f) : o_one k f = false := by
  unfold s_one at h
  unfold o_one
  repeat' split
  all_goals simp_all
def o_taken (kf tl : sF) (tn : Nat) (i k : Int32) : Int32 := if 0 ≤ k ∧ k ≤ 6 then if 0 ≤ i ∧ i ≤ 39 then if o_n i < 36 then if k = 6 then -13 else if o_one (kf (o_n i)) k then i else -13 else if 0 ≤ i - 36 ∧ i - 36 ≤ nI tn - 1 then if k = 6 then tl (o_n i - 36) else -13 else -11 else -12 else -2
def o_fell (tn : Nat) : Int32 := if tn = 0 then -3 else nI (tn - 1)
def o_fell_n (tn : Nat) : Nat := if tn = 0 then tn else tn - 1
def o_fell_h (tn p : Nat) (hi : Int32) : Int32 := if tn = 0 then hi else if p > tn - 1 then 0 else hi
def o_heap (was v : Int64) : Int64 := if lg_cmp v 1 < 0 then -4611686018427387904 else if lg_cmp v 68719476736 < 0 then was else -4611686018427387904
def o_heap_v (was v : Int64) : Int64 := if lg_cmp v 1 < 0 then was else if lg_cmp v 68719476736 < 0 then v else was
def o_feed (sz : Nat) (n a b c d e : Int32) : Int32 := if 1 ≤ n ∧ n ≤ 5 then if 0 ≤ a ∧ a ≤ 255 then if 0 ≤ b ∧ b ≤ 255 then if 0 ≤ c ∧ c ≤ 255 then if 0 ≤ d ∧ d ≤ 255 then if 0 ≤ e ∧ e ≤ 255 then if sz + o_n n > 160 then -4 else nI (sz + o_n n) else -2 else -2 else -2 else -2 else -2 else -2
def o_feed_n (sz : Nat) (n a b c d e : Int32) : Nat := if 1 ≤ n ∧ n ≤ 5 then if 0 ≤ a ∧ a ≤ 255 then if 0 ≤ b ∧ b ≤ 255 then if 0 ≤ c ∧ c ≤ 255 then if 0 ≤ d ∧ d ≤ 255 then if 0 ≤ e ∧ e ≤ 255 then if sz + o_n n > 160 then sz else sz + o_n n else sz else sz else sz else sz else sz else sz
def o_fd (tp : sF) (sz : Nat) (n a b c d e : Int32) : sF := if n = 1 then upd tp sz a else if n = 2 then upd (upd tp sz a) (sz + 1) b else if n = 3 then upd (upd (upd tp sz a) (sz + 1) b) (sz + 2) c else if n = 4 then upd (upd (upd (upd tp sz a) (sz + 1) b) (sz + 2) c) (sz + 3) d else upd (upd (upd (upd (upd tp sz a) (sz + 1) b) (sz + 2) c) (sz + 3) d) (sz + 4) e
def o_feed_f (tp : sF) (sz : Nat) (n a b c d e : Int32) : sF := if 1 ≤ n ∧ n ≤ 5 then if 0 ≤ a ∧ a ≤ 255 then if 0 ≤ b ∧ b ≤ 255 then if 0 ≤ c ∧ c ≤ 255 then if 0 ≤ d ∧ d ≤ 255 then if 0 ≤ e ∧ e ≤ 255 then if sz + o_n n > 160 then tp else o_fd tp sz n a b c d e else tp else tp else tp else tp else tp else tp
theorem q_in5 {x : Int32} (h : 1 ≤ x ∧ x ≤ 5) : x = 1 ∨ x = 2 ∨ x = 3 ∨ x = 4 ∨ x = 5 := by
  have h1 := h.1
  have h2 := h.2
  rw [Int32.le_iff_toInt_le] at h1 h2
  have e1 : (1 : Int32).toInt = 1 := rfl
  have e5 : (5 : Int32).toInt = 5 := rfl
  have h9 : x.toInt = 1 ∨ x.toInt = 2 ∨ x.toInt = 3 ∨ x.toInt = 4 ∨ x.toInt = 5 := by omega
  rcases h9 with h9 | h9 | h9 | h9 | h9
  · exact Or.inl (q_ti (by rw [h9]; rfl))
  · exact Or.inr (Or.inl (q_ti (by rw [h9]; rfl)))
  · exact Or.inr (Or.inr (Or.inl (q_ti (by rw [h9]; rfl))))
  · exact Or.inr (Or.inr (Or.inr (Or.inl (q_ti (by rw [h9]; rfl)))))
  · exact Or.inr (Or.inr (Or.inr (Or.inr (q_ti (by rw [h9]; rfl)))))
theorem q_in7 {x : Int32} (h : 0 ≤ x ∧ x ≤ 6) : x = 0 ∨ x = 1 ∨ x = 2 ∨ x = 3 ∨ x = 4 ∨ x = 5 ∨ x = 6 := by
  obtain ⟨j, hj, rfl⟩ := q_w (n := 6) rfl (by decide) h
  rcases (show j = 0 ∨ j = 1 ∨ j = 2 ∨ j = 3 ∨ j = 4 ∨ j = 5 ∨ j = 6 by omega) with rfl | rfl | rfl | rfl | rfl | rfl | rfl
  · exact Or.inl rfl
  · exact Or.inr (Or.inl rfl)
  · exact Or.inr (Or.inr (Or.inl rfl))
  · exact Or.inr (Or.inr (Or.inr (Or.inl rfl)))
  · exact Or.inr (Or.inr (Or.inr (Or.inr (Or.inl rfl))))
  · exact Or.inr (Or.inr (Or.inr (Or.inr (Or.inr (Or.inl rfl)))))
  · exact Or.inr (Or.inr (Or.inr (Or.inr (Or.inr (Or.inr rfl)))))
def o_msky (S : sF) (d w v : Int32) : Int32 := if 0 ≤ d ∧ d ≤ 13 then if 0 ≤ w ∧ w ≤ 3 then if 0 ≤ v ∧ v ≤ (if w = 0 then 3 else if w = 1 then 9 else 1) then S (4 * o_n d + o_n w) else -7 else -7 else -5
def o_msky_f (S : sF) (d w v : Int32) : sF := if 0 ≤ d ∧ d ≤ 13 then if 0 ≤ w ∧ w ≤ 3 then if 0 ≤ v ∧ v ≤ (if w = 0 then 3 else if w = 1 then 9 else 1) then upd S (4 * o_n d + o_n w) v else S else S else S
def o_mskyTold (S : sF) (d w : Int32) : Int32 := if 0 ≤ d ∧ d ≤ 13 then if 0 ≤ w ∧ w ≤ 3 then S (4 * o_n d + o_n w) else -7 else -5
theorem q_in6 {x : Int32} (h : 0 ≤ x ∧ x ≤ 5) : x = 0 ∨ x = 1 ∨ x = 2 ∨ x = 3 ∨ x = 4 ∨ x = 5 := by
  obtain ⟨j, hj, rfl⟩ := q_w (n := 5) rfl (by decide) h
  rcases (show j = 0 ∨ j = 1 ∨ j = 2 ∨ j = 3 ∨ j = 4 ∨ j = 5 by omega) with rfl | rfl | rfl | rfl | rfl | rfl
  · exact Or.inl rfl
  · exact Or.inr (Or.inl rfl)
  · exact Or.inr (Or.inr (Or.inl rfl))
  · exact Or.inr (Or.inr (Or.inr (Or.inl rfl)))
  · exact Or.inr (Or.inr (Or.inr (Or.inr (Or.inl rfl))))
  · exact Or.inr (Or.inr (Or.inr (Or.inr (Or.inr rfl))))
