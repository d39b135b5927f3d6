/-! ===== plain facts ===== -/
abbrev tY (cI cM cW cS : ClassId) : List (ClassId × FieldType) := [(cI, .int), (cM, .array .int), (cW, .object "LeavesBeforeWind$Law"), (cS, .object "LeavesBeforeWind$Sheet")]
theorem q_iadd {x y : Int32} {a b : Nat} (h1 : x = nI a) (h2 : y = nI b) : x + y = nI (a + b) := by rw [h1, h2]; exact nI_add a b
theorem q_add {x y : Int32} {a b : Nat} (h1 : x = nI a) (h2 : y = nI b) : x + y = nI (a + b) := q_iadd h1 h2
theorem q_imul {x y : Int32} {a b : Nat} (h1 : x = nI a) (h2 : y = nI b) : x * y = nI (a * b) := by rw [h1, h2]; exact pk_mul a b
theorem q_isub {x y : Int32} {a b : Nat} (h1 : x = nI a) (h2 : y = nI b) (h : b ≤ a) : x - y = nI (a - b) := by rw [h1, h2]; exact pk_sub h
theorem q_idiv {x y : Int32} {a b : Nat} (h1 : x = nI a) (h2 : y = nI b) (ha : a < 2 ^ 31) (h0 : 0 < b) (hb : b < 2 ^ 31) : x / y = nI (a / b) := by rw [h1, h2]; exact pk_div ha h0 hb
theorem q_irem {x y : Int32} {a b : Nat} (h1 : x = nI a) (h2 : y = nI b) (ha : a < 2 ^ 31) (h0 : 0 < b) (hb : b < 2 ^ 31) : x - x / y * y = nI (a % b) := by rw [h1, h2]; exact pk_rem ha h0 hb
theorem q_cl {x : Int32} {a : Nat} (h : x = nI a) (ha : a < 2 ^ 31) : x.toNatClampNeg = a := by rw [h]; exact nI_clamp ha
theorem q_ix {x : Int32} {a N : Nat} (h : x = nI a) (ha : a < N) (hN : N < 2 ^ 31) : vp_in x N := by rw [h]; exact vp_in_nI ha hN
section QR
variable {x y : Int32} {a b : Nat}
theorem q_lt_t (h1 : x = nI a) (h2 : y = nI b) (ha : a < 2 ^ 31) (hb : b < 2 ^ 31) (h : x < y) : a < b := by rw [h1, h2] at h; exact (nI_ltI ha hb).mp h
theorem q_lt_f (h1 : x = nI a) (h2 : y = nI b) (ha : a < 2 ^ 31) (hb : b < 2 ^ 31) (h : ¬ x < y) : a ≥ b := by rw [h1, h2] at h; exact Nat.not_lt.mp (fun q => h ((nI_ltI ha hb).mpr q))
theorem q_ge_t (h1 : x = nI a) (h2 : y = nI b) (ha : a < 2 ^ 31) (hb : b < 2 ^ 31) (h : y ≤ x) : a ≥ b := by rw [h1, h2] at h; exact (nI_leI hb ha).mp h
theorem q_ge_f (h1 : x = nI a) (h2 : y = nI b) (ha : a < 2 ^ 31) (hb : b < 2 ^ 31) (h : ¬ y ≤ x) : a < b := by rw [h1, h2] at h; exact Nat.not_le.mp (fun q => h ((nI_leI hb ha).mpr q))
theorem q_gt_t (h1 : x = nI a) (h2 : y = nI b) (ha : a < 2 ^ 31) (hb : b < 2 ^ 31) (h : y < x) : a > b := by rw [h1, h2] at h; exact (nI_ltI hb ha).mp h
theorem q_gt_f (h1 : x = nI a) (h2 : y = nI b) (ha : a < 2 ^ 31) (hb : b < 2 ^ 31) (h : ¬ y < x) : a ≤ b := by rw [h1, h2] at h; exact Nat.not_lt.mp (fun q => h ((nI_ltI hb ha).mpr q))
theorem q_le_t (h1 : x = nI a) (h2 : y = nI b) (ha : a < 2 ^ 31) (hb : b < 2 ^ 31) (h : x ≤ y) : a ≤ b := by rw [h1, h2] at h; exact (nI_leI ha hb).mp h
theorem q_le_f (h1 : x = nI a) (h2 : y = nI b) (ha : a < 2 ^ 31) (hb : b < 2 ^ 31) (h : ¬ x ≤ y) : a > b := by rw [h1, h2] at h; exact Nat.not_le.mp (fun q => h ((nI_leI ha hb).mpr q))
theorem q_eq_t (h1 : x = nI a) (h2 : y = nI b) (ha : a < 2 ^ 31) (hb : b < 2 ^ 31) (h : x = y) : a = b := by rw [h1, h2] at h; exact (nI_eq ha hb).mp h
theorem q_eq_f (h1 : x = nI a) (h2 : y = nI b) (ha : a < 2 ^ 31) (hb : b < 2 ^ 31) (h : ¬ x = y) : a ≠ b := by rw [h1, h2] at h; exact fun q => h ((nI_eq ha hb).mpr q)
theorem q_ne_t (h1 : x = nI a) (h2 : y = nI b) (ha : a < 2 ^ 31) (hb : b < 2 ^ 31) (h : ¬ x = y) : a ≠ b := q_eq_f h1 h2 ha hb h
theorem q_ne_f (h1 : x = nI a) (h2 : y = nI b) (ha : a < 2 ^ 31) (hb : b < 2 ^ 31) (h : x = y) : a = b := q_eq_t h1 h2 ha hb h
end QR
theorem q_ti {x z : Int32} (h : x.toInt = z.toInt) : x = z := Int32.toInt_inj.mp h
theorem q_sw (x : Int32) (lo hi : Int) : (x.toInt < lo ∨ hi < x.toInt) ∨ (lo ≤ x.toInt ∧ x.toInt ≤ hi) := by omega
/-- a number told within bounds is a natural one -/
theorem q_w {x M : Int32} {n : Nat} (hM : M = nI n) (hn : n < 2 ^ 31) (h : 0 ≤ x ∧ x ≤ M) : ∃ j : Nat, j ≤ n ∧ x = nI j := by
  have h1 : ¬ x < 0 := by
    have h2 := h.1
    rw [Int32.le_iff_toInt_le] at h2
    rw [Int32.lt_iff_toInt_lt]
    omega
  have h3 : M.toInt = n := by rw [hM]; exact nI_toInt hn
  exact nI_of2 h3 h1 h.2
/-! ===== what raking costs ===== -/
def s_far (c e : Int32) : Int32 := (if 0 ≤ c / 6 - e / 6 then c / 6 - e / 6 else 0 - (c / 6 - e / 6)) + (if 0 ≤ c - c / 6 * 6 - (e - e / 6 * 6) then c - c / 6 * 6 - (e - e / 6 * 6) else 0 - (c - c / 6 * 6 - (e - e / 6 * 6)))
/-- the heaps' cells below n in rising order -/
def s_heaps (P : Nat → Bool) : Nat → List Nat
  | 0 => []
  | n + 1 => if P n then s_heaps P n ++ [n] else s_heaps P n
/-- the nearest of the first k of a list at f -/
def s_near (f : Nat → Int32) (c : Int32) : Nat → Int32
  | 0 => f 0
  | k + 1 => if s_far c (f (k + 1)) < s_far c (s_near f c k) then f (k + 1) else s_near f c k
theorem s_heaps_t {P : Nat → Bool} {i : Nat} (h : P i = true) : s_heaps P (i + 1) = s_heaps P i ++ [i] := by simp [s_heaps, h]
theorem s_heaps_f {P : Nat → Bool} {i : Nat} (h : P i = false) : s_heaps P (i + 1) = s_heaps P i := by simp [s_heaps, h]
theorem s_heaps_le (P : Nat → Bool) : ∀ i, (s_heaps P i).length ≤ i
  | 0 => Nat.le_refl 0
  | i + 1 => by
    have ih := s_heaps_le P i
    cases h : P i with
    | true => rw [s_heaps_t h, List.length_append, List.length_singleton]; omega
    | false => rw [s_heaps_f h]; omega
theorem q_app {f : Nat → Int32} {l : List Nat} {m i : Nat} (hf : ∀ j, j < m → f j = nI (l.getD j 0)) (hm : m = l.length) : ∀ j, j < m + 1 → upd f m (nI i) j = nI ((l ++ [i]).getD j 0) := by
  intro j hj
  by_cases e : j = m
  · subst e
    rw [pk_us, hm, List.getD_eq_getElem?_getD, List.getElem?_append_right (Nat.le_refl _), Nat.sub_self]
    rfl
  · rw [pk_un e, hf j (by omega), List.getD_eq_getElem?_getD, List.getD_eq_getElem?_getD, List.getElem?_append_left (by omega)]
/-- a bit of a set, as the class looks at it -/
def s_b1 (z : Int64) (c : Nat) : Bool := decide (lg_cmp ((z.toUInt64 >>> ((nI c).toInt64.toUInt64 &&& Int64.toUInt64 63)).toInt64 &&& 1) 1 = 0)
theorem q_wi {v a b : Int32} (h1 : ¬ v < a) (h2 : ¬ b < v) : a ≤ v ∧ v ≤ b := by
  rw [Int32.lt_iff_toInt_lt] at h1 h2
  rw [Int32.le_iff_toInt_le, Int32.le_iff_toInt_le]
  omega
theorem q_wo1 {v a b : Int32} (h1 : v < a) : ¬ (a ≤ v ∧ v ≤ b) := by
  rw [Int32.lt_iff_toInt_lt] at h1
  rw [Int32.le_iff_toInt_le, Int32.le_iff_toInt_le]
  omega
theorem q_wo2 {v a b : Int32} (h1 : b < v) : ¬ (a ≤ v ∧ v ≤ b) := by
  rw [Int32.lt_iff_toInt_lt] at h1
  rw [Int32.le_iff_toInt_le, Int32.le_iff_toInt_le]
  omega
/-- Long.bitCount, as it is told -/
def s_u (x : Int64) (k : Int32) : Int64 := (x.toUInt64 >>> (k.toInt64.toUInt64 &&& Int64.toUInt64 63)).toInt64
theorem q_near_t {f : Nat → Int32} {c b r r2 : Int32} {k : Nat} (hk : 1 ≤ k) (hb : b = s_near f c (k - 1)) (h1 : r = s_far c (f k)) (h2 : r2 = s_far c b) (h : ¬ r2 ≤ r) : f k = s_near f c (k + 1 - 1) := by
  obtain ⟨j, rfl⟩ : ∃ j, k = j + 1 := ⟨k - 1, by omega⟩
  show f (j + 1) = s_near f c (j + 1)
  rw [show j + 1 - 1 = j from rfl] at hb
  rw [s_near, ← hb, ← h1, ← h2, if_pos (Int32.not_le.mp h)]
theorem q_near_f {f : Nat → Int32} {c b r r2 : Int32} {k : Nat} (hk : 1 ≤ k) (hb : b = s_near f c (k - 1)) (h1 : r = s_far c (f k)) (h2 : r2 = s_far c b) (h : r2 ≤ r) : b = s_near f c (k + 1 - 1) := by
  obtain ⟨j, rfl⟩ : ∃ j, k = j + 1 := ⟨k - 1, by omega⟩
  show b = s_near f c (j + 1)
  rw [show j + 1 - 1 = j from rfl] at hb
  rw [s_near, ← hb, ← h1, ← h2, if_neg (Int32.not_lt.mpr h)]
theorem q_ne_ti {x z : Int32} (h : ¬ x = z) {k : Int} (hk : z.toInt = k) : ¬ k = x.toInt := fun e => h (q_ti (by rw [hk, e]))
abbrev nIf (tk : Nat → Nat) : Nat → Int32 := fun t => nI (tk t)
