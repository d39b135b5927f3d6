/-! ===== the Model's codes ===== -/
def s_mop (op : Int32) : Int32 := if -6 ≤ op then op else if op = -8 then -13 else if op = -7 then -19 else if op = -9 then -16 else if op = -10 then -17 else if op = -11 then -18 else if op = -12 then -14 else if op = -13 then -15 else if op = -14 then -12 else -11
def s_mlaw (mc bg : sF) (t : Nat) (T : sT) : Prop := (∀ p, p < 4 → bg (4 * t + p) = nI (s_off T p)) ∧ ∀ p, p < 3 → ∀ j, j < (T p).length → mc (170 * t + (s_off T p + j)) = s_mop ((T p).getD j 0)
theorem s_mop_hi {op : Int32} (h : -6 ≤ op) : s_mop op = op := if_pos h
theorem s_mop_lo {op : Int32} (h : ¬ -6 ≤ op) : s_mop op ≤ -7 := by
  unfold s_mop
  rw [if_neg h]
  repeat' split
  all_goals decide
theorem s_mop_num {op : Int32} (h : 0 ≤ s_mop op) : -6 ≤ op ∧ 0 ≤ op ∧ s_mop op = op := by
  by_cases h6 : -6 ≤ op
  · have e := s_mop_hi h6
    exact ⟨h6, by rw [e] at h; exact h, e⟩
  · have h7 := Int32.le_trans h (s_mop_lo h6)
    exact absurd h7 (by decide)
theorem s_mop_name {op : Int32} (h0 : s_mop op < 0) (h : ¬ s_mop op ≤ -7) : -6 ≤ op ∧ ¬ 0 ≤ op ∧ s_mop op = op := by
  by_cases h6 : -6 ≤ op
  · have e := s_mop_hi h6
    exact ⟨h6, by rw [e] at h0; exact Int32.not_le.mpr h0, e⟩
  · exact absurd (s_mop_lo h6) h
theorem s_mop_op {op : Int32} (h : s_mop op ≤ -7) : ¬ -6 ≤ op := by
  intro h6
  rw [s_mop_hi h6] at h
  have := Int32.le_trans h6 h
  exact absurd this (by decide)
theorem s_dp_1 {d : Nat} {op : Int32} (h : ∃ d', s_dp (some d) op = some d') (h6 : ¬ -6 ≤ op) : 1 ≤ d := by
  by_cases h8 : -8 ≤ op
  · exact (s_dp_un h h6 h8).1
  · have := (s_dp_bi h h6 h8).1
    omega
theorem q_names {op : Int32} (h6 : -6 ≤ op) (h0 : ¬ 0 ≤ op) : op = -1 ∨ op = -2 ∨ op = -3 ∨ op = -4 ∨ op = -5 ∨ op = -6 := by
  rw [Int32.le_iff_toInt_le] at h6 h0
  have e6 : (-6 : Int32).toInt = -6 := rfl
  have e0 : (0 : Int32).toInt = 0 := rfl
  rw [e6] at h6
  rw [e0] at h0
  have h9 : op.toInt = -1 ∨ op.toInt = -2 ∨ op.toInt = -3 ∨ op.toInt = -4 ∨ op.toInt = -5 ∨ op.toInt = -6 := by omega
  rcases h9 with h9 | h9 | h9 | h9 | h9 | h9
  · exact Or.inl (q_ti (by rw [h9]; rfl))
  · exact Or.inr (Or.inl (q_ti (by rw [h9]; rfl)))
  · exact Or.inr (Or.inr (Or.inl (q_ti (by rw [h9]; rfl))))
  · exact Or.inr (Or.inr (Or.inr (Or.inl (q_ti (by rw [h9]; rfl)))))
  · exact Or.inr (Or.inr (Or.inr (Or.inr (Or.inl (q_ti (by rw [h9]; rfl))))))
  · exact Or.inr (Or.inr (Or.inr (Or.inr (Or.inr (q_ti (by rw [h9]; rfl))))))
theorem s_nm_name {op le so fr we ts my : Int32} (h6 : -6 ≤ op) (h0 : ¬ 0 ≤ op) : s_nm le so fr we ts my (-1 - op).toNatClampNeg = if op = -1 then le else if op = -2 then so else if op = -3 then fr else if op = -4 then we else if op = -5 then ts else my := by
  rcases q_names h6 h0 with rfl | rfl | rfl | rfl | rfl | rfl <;> rfl
theorem s_mop_13 {op : Int32} (h6 : ¬ -6 ≤ op) : s_mop op = -13 ↔ op = -8 := by
  unfold s_mop
  rw [if_neg h6]
  by_cases h : op = -8
  · simp [h]
  · simp only [h, if_false, iff_false]
    repeat' split
    all_goals decide
theorem s_mop_19 {op : Int32} (h6 : ¬ -6 ≤ op) : s_mop op = -19 ↔ op = -7 := by
  unfold s_mop
  rw [if_neg h6]
  by_cases h8 : op = -8
  · subst h8; decide
  · rw [if_neg h8]
    by_cases h : op = -7
    · simp [h]
    · simp only [h, if_false, iff_false]
      repeat' split
      all_goals decide
theorem q_m8 {op : Int32} (h6 : ¬ -6 ≤ op) (h8 : ¬ op = -8) (h7 : ¬ op = -7) : ¬ -8 ≤ op := by
  intro h
  rw [Int32.le_iff_toInt_le] at h6 h
  have e6 : (-6 : Int32).toInt = -6 := rfl
  have e8 : (-8 : Int32).toInt = -8 := rfl
  rw [e6] at h6
  rw [e8] at h
  have h9 : op.toInt = -8 ∨ op.toInt = -7 := by omega
  rcases h9 with h9 | h9
  · exact h8 (q_ti (by rw [h9]; rfl))
  · exact h7 (q_ti (by rw [h9]; rfl))
theorem s_join_m {op : Int32} (h6 : ¬ -6 ≤ op) (h8 : ¬ op = -8) (h7 : ¬ op = -7) (v w : Int32) : s_join op v w = if s_mop op = -16 then v + w else if s_mop op = -17 then v - w else if s_mop op = -18 then v * w else if s_mop op = -14 then s_tru (v < w) else if s_mop op = -15 then s_tru (v = w) else if s_mop op = -12 then s_tru (v ≠ 0 ∧ w ≠ 0) else s_tru (v ≠ 0 ∨ w ≠ 0) := by
  unfold s_mop s_join
  simp only [h6, h8, h7, if_false]
  by_cases k9 : op = -9
  · simp [k9]
  by_cases k10 : op = -10
  · simp [k10]
  by_cases k11 : op = -11
  · simp [k11]
  by_cases k12 : op = -12
  · simp [k12]
  by_cases k13 : op = -13
  · simp [k13]
  by_cases k14 : op = -14
  · simp [k14]
  simp [k9, k10, k11, k12, k13, k14]
theorem s_mop_18 {op : Int32} (h6 : ¬ -6 ≤ op) (h8 : ¬ op = -8) (h7 : ¬ op = -7) (h : ¬ s_mop op = -17 ∧ ¬ s_mop op = -16 ∧ ¬ s_mop op = -15 ∧ ¬ s_mop op = -14 ∧ ¬ s_mop op = -12 ∧ ¬ s_mop op = -11) : s_mop op = -18 := by
  revert h
  unfold s_mop
  rw [if_neg h6, if_neg h8, if_neg h7]
  repeat' split
  all_goals decide
theorem s_mv_z {T : sT} {kd mo : sF} {w : Nat} {so fr we : Int32} {X D W : sF} {c : Nat} (h : X c = 0) : s_mv T kd mo w so fr we X D W c = 0 := if_pos h
theorem s_mv_n {T : sT} {kd mo : sF} {w : Nat} {so fr we : Int32} {X D W : sF} {c : Nat} (h : ¬ X c = 0) : s_mv T kd mo w so fr we X D W c = s_cm kd mo (s_on w c) (s_goff (kd c) (mo c) (X c * s_says T 1 (s_nm 0 so fr we 0 (D c + W c)) / 100)) := by
  unfold s_mv
  rw [if_neg h, s_pt, if_neg h]
/-- a bit of a set, as the Model looks at it -/
def s_bb2 (z : Int64) (c : Nat) : Bool := decide (lg_cmp ((z >>> ((nI c).toInt64 &&& 63)) &&& 1) 1 = 0)
theorem s_nr_t {P : Nat → Bool} {c : Int32} {e : Nat} (hp : P e = true) (h : s_nr P c e < 0 ∨ s_far c (nI e) < s_far c (s_nr P c e)) : s_nr P c (e + 1) = nI e := by rw [s_nr, if_pos ⟨hp, h⟩]
theorem s_nr_f {P : Nat → Bool} {c : Int32} {e : Nat} (hp : P e = false) : s_nr P c (e + 1) = s_nr P c e := by rw [s_nr, if_neg (by rw [hp]; simp)]
theorem s_nr_g {P : Nat → Bool} {c : Int32} {e : Nat} (h1 : ¬ s_nr P c e < 0) (h2 : s_far c (s_nr P c e) ≤ s_far c (nI e)) : s_nr P c (e + 1) = s_nr P c e := by rw [s_nr, if_neg (fun h => h.2.elim h1 (Int32.not_lt.mpr h2))]
theorem s_acc_sum (f : Int32) (k : sF) : ∀ n, s_acc f k n = f + s_sum k n
  | 0 => (Int32.add_zero f).symm
  | n + 1 => by
    show s_acc f k n + k n = f + (s_sum k n + k n)
    rw [s_acc_sum f k n, Int32.add_assoc]
theorem s_rt_0 {T : sT} {so fr we : Int32} {X D W : sF} {c : Nat} (h : X c = 0) : s_rt T so fr we X D W c = 0 := if_pos h
theorem s_rt_m {T : sT} {so fr we : Int32} {X D W : sF} {c : Nat} : s_rt T so fr we X D W c = X c * s_says T 2 (s_nm 0 so fr we 0 (D c + W c)) / 100 := by
  unfold s_rt s_pt
  by_cases h : X c = 0
  · rw [if_pos h, h, Int32.zero_mul]
    decide
  · rw [if_neg h]
theorem s_rots_s {rD rW : sF} {r : Int32} {n : Nat} : s_rots rD rW r (n + 1) = s_rots rD rW r n + (rD n + rW n) := by
  show s_rots rD rW r n + rD n + rW n = _
  rw [Int32.add_assoc]
/-- the Model's row of the sky -/
def s_sky (wk : Nat → Nat) (R1 R2 R3 : sF) : sF := fun i => if i % 4 = 0 then nI (wk (i / 4)) else if i % 4 = 1 then R1 (i / 4) else if i % 4 = 2 then R2 (i / 4) else R3 (i / 4)
section SKY
variable {wk : Nat → Nat} {R1 R2 R3 : sF} {d : Nat}
theorem s_sky_0 : s_sky wk R1 R2 R3 (4 * d) = nI (wk d) := by
  unfold s_sky
  rw [show 4 * d % 4 = 0 by omega, show 4 * d / 4 = d by omega]
  rfl
theorem s_sky_1 : s_sky wk R1 R2 R3 (4 * d + 1) = R1 d := by
  unfold s_sky
  rw [show (4 * d + 1) % 4 = 1 by omega, show (4 * d + 1) / 4 = d by omega]
  rfl
theorem s_sky_2 : s_sky wk R1 R2 R3 (4 * d + 2) = R2 d := by
  unfold s_sky
  rw [show (4 * d + 2) % 4 = 2 by omega, show (4 * d + 2) / 4 = d by omega]
  rfl
theorem s_sky_3 : s_sky wk R1 R2 R3 (4 * d + 3) = R3 d := by
  unfold s_sky
  rw [show (4 * d + 3) % 4 = 3 by omega, show (4 * d + 3) / 4 = d by omega]
  rfl
end SKY
theorem q_and1 (x : Int32) : x &&& 1 = 0 ∨ x &&& 1 = 1 := by
  obtain ⟨j, hj, e⟩ := pk_andE x (m := 1) 1 rfl
  rcases (show j = 0 ∨ j = 1 by omega) with rfl | rfl
  · exact Or.inl e
  · exact Or.inr e
theorem s_rk_t {rg : Int32} {d : Nat} (h : ¬ (rg >>> (nI d &&& 31)) &&& 1 = 0) : s_rk rg d := (q_and1 _).resolve_left h
theorem s_rk_f {rg : Int32} {d : Nat} (h : (rg >>> (nI d &&& 31)) &&& 1 = 0) : ¬ s_rk rg d := fun h2 => absurd (h.symm.trans h2) (by decide)
theorem s_cv_f {kf D W cv : sF} {c : Nat} (h : D c + W c = 0) : s_cv kf D W cv c = cv c := by
  unfold s_cv
  rw [if_neg]
  rw [h]
  exact fun h9 => absurd h9.2 (by decide)
def s_gb (G : sG) (d : Nat) (s : sS) : sF × sF × Int32 := match G with
  | (T, kf, mf, ts, tk, tn, _, _, _, _, wk, R1, R2, R3) => s_b T kf mf (wk d) (R1 d) (R2 d) (R3 d) ts tk tn s.2.2.2.1 s.1 s.2.1 (s.2.2.2.2.2.1 (wk d))
def s_hz3 (G : sG) : Prop := ∀ d, d < 14 → ∀ c, c < 36 → (s_gb G d (s_gone G d)).1 c + (s_gb G d (s_gone G d)).2.1 c = 0 → (s_gb G d (s_gone G d)).1 c = 0 ∧ (s_gb G d (s_gone G d)).2.1 c = 0
