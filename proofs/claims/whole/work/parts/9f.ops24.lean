/-! ===== the Model's tokens ===== -/
section PSO
variable {tp : sF} {n a q k : Nat}
theorem p_so_end (h : n ≤ p_pl tp n a) : p_nx tp n a = p_pl tp n a ∧ p_so tp n a = 0 := by
  unfold p_so p_nx
  rw [if_pos h, if_pos h]
  exact ⟨rfl, rfl⟩
theorem p_so_dg (h : p_pl tp n a < n) (d : p_dg (tp (p_pl tp n a)) = true) : p_so tp n a = if 4 < p_sk p_dg tp n (p_pl tp n a) - p_pl tp n a then 4 else 1 := by
  unfold p_so
  rw [if_neg (by omega), if_pos d, (p_tk_dg h d).1]
theorem p_so_le (h : p_pl tp n a < n) (d : ¬ p_dg (tp (p_pl tp n a)) = true) (l : p_le (tp (p_pl tp n a)) = true) : p_so tp n a = 2 := by
  unfold p_so
  rw [if_neg (by omega), if_neg d, if_pos l]
theorem p_so_sg (h : p_pl tp n a < n) (d : ¬ p_dg (tp (p_pl tp n a)) = true) (l : ¬ p_le (tp (p_pl tp n a)) = true) : p_so tp n a = if p_sg (tp (p_pl tp n a)) = true then 3 else 4 := by
  unfold p_so
  rw [if_neg (by omega), if_neg d, if_neg l]
theorem p_num_m {v : Int32} (h : v = p_num tp q (min k 4)) (hk : k < 4) : 10 * v + tp (q + k) - 48 = p_num tp q (min (k + 1) 4) := by
  rw [show min (k + 1) 4 = k + 1 by omega, p_num, h, show min k 4 = k by omega, Int32.mul_comm]
theorem p_num_n {v : Int32} (h : v = p_num tp q (min k 4)) (hk : 4 ≤ k) : v = p_num tp q (min (k + 1) 4) := by
  rw [h, show min (k + 1) 4 = min k 4 by omega]
/-! the Model's sorts against the class's tokens -/
theorem p_so_1 : p_so tp n a = 1 ↔ p_tk tp n a = 2 := by
  constructor
  · intro h
    unfold p_so at h
    unfold p_tk
    by_cases e : n ≤ p_pl tp n a
    · rw [if_pos e] at h; exact absurd h (by decide)
    · rw [if_neg e] at h ⊢
      by_cases d : p_dg (tp (p_pl tp n a)) = true
      · rw [if_pos d] at h ⊢
        by_cases k : 4 < p_nx tp n a - p_pl tp n a
        · rw [if_pos k] at h; exact absurd h (by decide)
        · rw [if_neg k]
      · rw [if_neg d] at h
        by_cases l : p_le (tp (p_pl tp n a)) = true
        · rw [if_pos l] at h; exact absurd h (by decide)
        · rw [if_neg l] at h
          by_cases g : p_sg (tp (p_pl tp n a)) = true
          · rw [if_pos g] at h; exact absurd h (by decide)
          · rw [if_neg g] at h; exact absurd h (by decide)
  · intro h
    obtain ⟨h1, h2, h3⟩ := p_tk_2 h
    unfold p_so
    rw [if_neg (by omega), if_pos h2, if_neg (by omega)]
theorem p_so_0 : p_so tp n a = 0 ↔ p_tk tp n a = 0 := by
  constructor
  · intro h
    unfold p_so at h
    unfold p_tk
    by_cases e : n ≤ p_pl tp n a
    · rw [if_pos e]
    · rw [if_neg e] at h
      exfalso
      revert h
      repeat' split
      all_goals decide
  · intro h
    by_cases e : n ≤ p_pl tp n a
    · exact (p_so_end e).2
    · exfalso
      unfold p_tk at h
      rw [if_neg e] at h
      by_cases d : p_dg (tp (p_pl tp n a)) = true
      · rw [if_pos d] at h
        by_cases k : 4 < p_nx tp n a - p_pl tp n a
        · rw [if_pos k] at h; exact absurd h (by decide)
        · rw [if_neg k] at h; exact absurd h (by decide)
      · rw [if_neg d] at h
        by_cases l : p_le (tp (p_pl tp n a)) = true
        · rw [if_pos l] at h
          unfold p_wd at h
          revert h
          rcases p_wix_rng (p_w tp (p_pl tp n a) (p_nx tp n a)) with e9 | e9 | e9 | e9 | e9 | e9 | e9 | e9 | e9 | e9 | e9 | e9 | e9 <;> rw [e9] <;> decide
        · rw [if_neg l] at h
          by_cases g : p_sg (tp (p_pl tp n a)) = true
          · rw [if_pos g] at h
            rw [h] at g
            exact absurd g (by decide)
          · rw [if_neg g] at h; exact absurd h (by decide)
/-- a sign -/
theorem p_so_3 {w : Int32} (hw : p_sg w = true) : (p_so tp n a = 3 ∧ tp (p_pl tp n a) = w) ↔ p_tk tp n a = w := by
  constructor
  · rintro ⟨h, e⟩
    unfold p_so at h
    unfold p_tk
    by_cases e9 : n ≤ p_pl tp n a
    · rw [if_pos e9] at h; exact absurd h (by decide)
    · rw [if_neg e9] at h ⊢
      by_cases d : p_dg (tp (p_pl tp n a)) = true
      · rw [if_pos d] at h
        exfalso
        revert h
        split <;> decide
      · rw [if_neg d] at h ⊢
        by_cases l : p_le (tp (p_pl tp n a)) = true
        · rw [if_pos l] at h; exact absurd h (by decide)
        · rw [if_neg l] at h ⊢
          by_cases g : p_sg (tp (p_pl tp n a)) = true
          · rw [if_pos g, e]
          · rw [if_neg g] at h; exact absurd h (by decide)
  · intro h
    have hne : ∀ v : Int32, p_tk tp n a = v → p_sg v = false → False := fun v h1 h2 => by
      rw [← h1, h, hw] at h2
      exact absurd h2 (by decide)
    have h0 : p_pl tp n a < n := p_tk_lt (fun e => hne 0 e (by decide))
    unfold p_tk at h hne
    rw [if_neg (by omega)] at h hne
    unfold p_so
    rw [if_neg (by omega)]
    by_cases d : p_dg (tp (p_pl tp n a)) = true
    · rw [if_pos d] at h hne
      exfalso
      by_cases k : 4 < p_nx tp n a - p_pl tp n a
      · exact hne 1 (if_pos k) (by decide)
      · exact hne 2 (if_neg k) (by decide)
    · rw [if_neg d] at h hne ⊢
      by_cases l : p_le (tp (p_pl tp n a)) = true
      · rw [if_pos l] at h hne
        exfalso
        unfold p_wd at hne
        revert hne
        rcases p_wix_rng (p_w tp (p_pl tp n a) (p_nx tp n a)) with e9 | e9 | e9 | e9 | e9 | e9 | e9 | e9 | e9 | e9 | e9 | e9 | e9 <;> rw [e9] <;> (intro hne; exact hne _ rfl (by decide))
      · rw [if_neg l] at h hne ⊢
        by_cases g : p_sg (tp (p_pl tp n a)) = true
        · rw [if_pos g] at h ⊢
          exact ⟨rfl, h⟩
        · rw [if_neg g] at hne
          exact (hne 1 rfl (by decide)).elim
/-- a word -/
theorem p_so_2w : p_so tp n a = 2 ↔ (p_pl tp n a < n ∧ ¬ p_dg (tp (p_pl tp n a)) = true ∧ p_le (tp (p_pl tp n a)) = true) := by
  constructor
  · intro h
    unfold p_so at h
    by_cases e : n ≤ p_pl tp n a
    · rw [if_pos e] at h; exact absurd h (by decide)
    · rw [if_neg e] at h
      by_cases d : p_dg (tp (p_pl tp n a)) = true
      · rw [if_pos d] at h
        exfalso
        revert h
        split <;> decide
      · rw [if_neg d] at h
        by_cases l : p_le (tp (p_pl tp n a)) = true
        · exact ⟨by omega, d, l⟩
        · rw [if_neg l] at h
          exfalso
          revert h
          split <;> decide
  · rintro ⟨h1, h2, h3⟩
    exact p_so_le h1 h2 h3
theorem p_tk_word (h : p_so tp n a = 2) : p_tk tp n a = if p_wd tp n a = -1 then 1 else if p_wd tp n a < 6 then 4 + p_wd tp n a else 3 := by
  obtain ⟨h1, h2, h3⟩ := p_so_2w.mp h
  exact (p_tk_le h1 h2 h3).2.2.1
theorem p_tk_w0 {w : Int32} (h : p_tk tp n a = w) (h1 : w = 3 ∨ 4 ≤ w ∧ w ≤ 9) : p_so tp n a = 2 := by
  have hn : ∀ v : Int32, p_tk tp n a = v → ¬ (v = 3 ∨ 4 ≤ v ∧ v ≤ 9) → False := fun v e h9 => h9 (by rw [← e, h]; exact h1)
  have h0 : p_pl tp n a < n := p_tk_lt (fun e => hn 0 e (by decide))
  unfold p_tk at hn
  rw [if_neg (by omega)] at hn
  unfold p_so
  rw [if_neg (by omega)]
  by_cases d : p_dg (tp (p_pl tp n a)) = true
  · rw [if_pos d] at hn
    exfalso
    by_cases k : 4 < p_nx tp n a - p_pl tp n a
    · exact hn 1 (if_pos k) (by decide)
    · exact hn 2 (if_neg k) (by decide)
  · rw [if_neg d] at hn ⊢
    by_cases l : p_le (tp (p_pl tp n a)) = true
    · rw [if_pos l]
    · rw [if_neg l] at hn
      exfalso
      by_cases g : p_sg (tp (p_pl tp n a)) = true
      · rw [if_pos g] at hn
        refine hn _ rfl ?_
        unfold p_sg at g
        rcases of_decide_eq_true g with e | e | e | e | e | e | e | e <;> rw [e] <;> decide
      · rw [if_neg g] at hn
        exact hn 1 rfl (by decide)
end PSO
/-- the words' numbers: literal i of the Model against the class's -/
def p_key (i : Nat) : Int32 := if i = 12 then 0 else if i = 13 then 1 else if i = 14 then 2 else if i = 9 then 3 else if i = 10 then 4 else if i = 11 then 5 else (i : Nat).toInt32 + 3
