/-! ===== the Model's rows copied, trees by a row ===== -/
theorem o_copy_r {f : sF} {so so2 : Int32} {nz nz2 : Nat} {s i t j n : Int32} (h1 : 0 ≤ s ∧ s ≤ 3) (h2 : 0 ≤ t ∧ t ≤ 3) (h3 : ¬ so = -1) (h4 : ¬ so2 = -1) (h5 : so = so2) (hx : ¬ (¬ n < 0 ∧ (0 ≤ i ∧ i ≤ nI nz - n) ∧ 0 ≤ j ∧ j ≤ nI nz2 - n)) : (-12, f) = (o_copy so nz so2 nz2 s i t j n, o_mcopy_g f so so2 nz nz2 s i t j n) := by
  unfold o_copy o_mcopy_g
  rw [if_pos h1, if_pos h2, if_neg h3, if_neg h4, if_pos h5, if_pos h1, if_pos h2, if_neg h3, if_neg h4, if_pos h5]
  by_cases a : n < 0
  · rw [if_pos a, if_pos a]
  · rw [if_neg a, if_neg a]
    by_cases b : 0 ≤ i ∧ i ≤ nI nz - n
    · rw [if_pos b, if_pos b, if_neg (fun c => hx ⟨a, b, c⟩), if_neg (fun c => hx ⟨a, b, c⟩)]
    · rw [if_neg b, if_neg b]
theorem o_copy_k {f : sF} {so so2 : Int32} {nz nz2 : Nat} {s t i j n a b z : Nat} (h1 : 0 ≤ nI s ∧ nI s ≤ 3) (h2 : 0 ≤ nI t ∧ nI t ≤ 3) (h3 : ¬ so = -1) (h4 : ¬ so2 = -1) (h5 : so = so2) (hn : ¬ nI n < 0) (ha : 0 ≤ nI i ∧ nI i ≤ nI nz - nI n) (hb : 0 ≤ nI j ∧ nI j ≤ nI nz2 - nI n) (es : s < 4) (et : t < 4) (ei : i ≤ 40) (ej : j ≤ 40) (en : n ≤ 40) (ea : a = 40 * s + i) (eb : b = 40 * t + j) (ez : z = n) : (nI n, o_mcp f a b z) = (o_copy so nz so2 nz2 (nI s) (nI i) (nI t) (nI j) (nI n), o_mcopy_g f so so2 nz nz2 (nI s) (nI i) (nI t) (nI j) (nI n)) := by
  unfold o_copy o_mcopy_g
  rw [if_pos h1, if_pos h2, if_neg h3, if_neg h4, if_pos h5, if_pos h1, if_pos h2, if_neg h3, if_neg h4, if_pos h5, if_neg hn, if_neg hn, if_pos ha, if_pos ha, if_pos hb, if_pos hb, o_n_nI (by omega), o_n_nI (by omega), o_n_nI (by omega), o_n_nI (by omega), o_n_nI (by omega), ea, eb, ez]
theorem q_at3n {nz k : Nat} {at9 : Int32} (h40 : nz ≤ 40) (hk : k ≤ 4) (h0 : k = 0 ∨ 0 ≤ at9.toInt) : (0 ≤ at9 ∧ at9 ≤ nI nz - 3 * nI k - 3) ↔ ¬ lg_cmp (at9.toInt64 + 3 * (nI k).toInt64) 0 < 0 ∧ lg_cmp (at9.toInt64 + 3 * (nI k).toInt64 + 2) (nI nz).toInt64 < 0 := by
  rw [q_at3i h40 hk, q_cmpl_lt, q_cmpl_lt, q_at3l hk, q_at3l2 hk, q_lsz h40]
  have e0 : (0 : Int64).toInt = 0 := rfl
  rw [e0]
  omega
theorem q_at3c {p k : Nat} (hk : k ≤ 4) (hp : p ≤ 40) : ((nI p).toInt64 + 3 * (nI k).toInt64).toInt32 = nI (p + 3 * k) := by
  rw [nI_l (by omega), nI_l (by omega), show (3 : Int64) = lN 3 from rfl, lN_mul, lN_add, lN_i]
