def o_hu (G : sG) (c : Nat) (m : Int32) : sG := match G with
  | (T, kf, mf, ts, tk, tn, lv, tl, P, rg, wk, R1, R2, R3) => (T, upd kf c 3, upd mf c m, ts, tk, tn, lv, tl, P, rg, wk, R1, R2, R3)
theorem o_hu_mf {mf : sF} {c : Nat} {m : Int32} (g4 : ∀ j, j < 36 → 0 ≤ mf j ∧ mf j ≤ 99) (hm : 0 ≤ m ∧ m ≤ 99) : ∀ j, j < 36 → 0 ≤ upd mf c m j ∧ upd mf c m j ≤ 99 := fun j hj => by
  by_cases e : j = c
  · subst e; rw [pk_us]; exact hm
  · rw [pk_un e]; exact g4 j hj
theorem o_hu_good {G : sG} (h : s_good G) {c : Nat} {m : Int32} (hm : 0 ≤ m ∧ m ≤ 99) : s_good (o_hu G c m) := by
  obtain ⟨T, kf, mf, ts, tk, tn, lv, tl, P, rg, wk, R1, R2, R3⟩ := G
  obtain ⟨g1, g2, g3, g4, g5, g6, g7⟩ := h
  exact ⟨g1, g2, g3, o_hu_mf g4 hm, g5, g6, g7⟩
def o_hul (G : sG) (n : Nat) (m : Int32) : sF := fun c => o_sm (s_gone (o_hu G c m) n) c
def o_hurdle (G : sG) (n m p : Int32) : Int32 := if 0 ≤ n ∧ n ≤ 14 then if 0 ≤ m ∧ m ≤ 99 then if 0 ≤ p ∧ p ≤ 1 then o_fom (o_hul G (o_n n) m) 36 p else -7 else -7 else -5
theorem o_hurdle_l {G : sG} {n w : Nat} {m p : Int32} (h1 : 0 ≤ nI n ∧ nI n ≤ 14) (en : o_n (nI n) = n) (h2 : 0 ≤ m ∧ m ≤ 99) (h : 0 ≤ p ∧ p ≤ 1) {g r : sF} (hw : w = 36) (hg : ∀ j, g j = if j < w then o_hul G n m j else r j) : (if p = 0 then nI (s_fm g (36 - 1)) else g (s_fm g (36 - 1))) = o_hurdle G (nI n) m p := by
  unfold o_hurdle
  rw [if_pos h1, if_pos h2, if_pos h, en]
  exact o_fom_cong (f := g) (z := 36) (by decide) fun j hj => by rw [hg j, if_pos (by omega)]
