/-! ===== what the Model's queries want ===== -/
theorem s_sum_z {f : sF} {m : Nat} (h : ∀ j, m ≤ j → f j = 0) : ∀ n, s_sum f (m + n) = s_sum f m
  | 0 => rfl
  | n + 1 => by
    show s_sum f (m + n) + f (m + n) = _
    rw [h (m + n) (by omega), Int32.add_zero, s_sum_z h n]
theorem g_day3 (G : sG) (d : Nat) (s : sS) (t : Nat) (h : o_tn G ≤ t) (ih : s.2.2.2.1 t = 0) : (s_day G d s).2.2.2.1 t = 0 := by
  obtain ⟨T, kf, mf, ts, tk, tn, lv, tl, P, rg, wk, R1, R2, R3⟩ := G
  obtain ⟨D, W, cv, hh, f0, o, rt, rk, ct⟩ := s
  have h9 : ¬ t < tn := Nat.not_lt.mpr h
  have e : ∀ k : sF, s_left tn k hh t = 0 := fun k => by
    unfold s_left
    rw [if_neg h9]
    exact ih
  by_cases hr : s_rk rg d
  · rw [s_day_t hr]
    exact e _
  · rw [s_day_f hr]
    exact e _
theorem g_hang0 {G : sG} {t : Nat} (h : o_tn G ≤ t) : ∀ d, (s_gone G d).2.2.2.1 t = 0
  | 0 => by
    obtain ⟨T, kf, mf, ts, tk, tn, lv, tl, P, rg, wk, R1, R2, R3⟩ := G
    have h9 : ¬ t < tn := Nat.not_lt.mpr h
    show (if t < tn then tl t else 0) = 0
    rw [if_neg h9]
  | d + 1 => by
    have e : s_gone G (d + 1) = s_day G d (s_gone G d) := rfl
    rw [e]
    exact g_day3 G d _ t h (g_hang0 h d)
section MQ
variable {G : sG} {d : Nat} {D W cv h o hg : sF} {f rt rk ct : Int32}
theorem o_tot_m (hS : s_gone G d = (D, W, cv, h, f, o, rt, rk, ct)) (hH : ∀ t, t < o_tn G → hg t = h t) (h4 : o_tn G ≤ 4) (k : Nat) : (if k = 0 then s_sum (fun j => D j + W j) 36 else if k = 1 then s_sum hg (o_tn G) else if k = 2 then rt else if k = 3 then rk else if k = 4 then ct else o (k - 5)) = o_tot 4 (D, W, cv, h, f, o, rt, rk, ct) k := by
  have e0 : ∀ t, o_tn G ≤ t → h t = 0 := fun t ht => by
    have := g_hang0 ht d
    rw [hS] at this
    exact this
  have e1 : s_sum hg (o_tn G) = s_sum h 4 := by
    rw [s_sum_cong (g := h) hH, show 4 = o_tn G + (4 - o_tn G) by omega, s_sum_z e0]
  rw [e1]
  rfl
end MQ
/-- the first of most falling, day by day -/
def o_gm (f : sF) : Nat → Int32 × Int32
  | 0 => (-1, 0)
  | d + 1 => if f d ≤ (o_gm f d).2 then o_gm f d else (nI d, f d)
theorem o_gm_all {f : sF} {z : Nat → Nat} {n : Nat} (hn : n < 2 ^ 31) (hf : ∀ j, j < n → f j = nI (z j)) (hz : ∀ j, j < n → z j < 2 ^ 31) : ∀ d, d ≤ n → ((∀ j, j < d → z j = 0) ∧ o_gm f d = (-1, 0)) ∨ (1 ≤ d ∧ 0 < z (s_fm f (d - 1)) ∧ o_gm f d = (nI (s_fm f (d - 1)), f (s_fm f (d - 1))))
  | 0, _ => Or.inl ⟨fun j hj => absurd hj (Nat.not_lt_zero j), rfl⟩
  | d + 1, hd => by
    rcases o_gm_all hn hf hz d (by omega) with ⟨h1, h2⟩ | ⟨h1, h2, h3⟩
    · by_cases h0 : z d = 0
      · left
        refine ⟨fun j hj => ?_, ?_⟩
        · by_cases e : j = d
          · rw [e]; exact h0
          · exact h1 j (by omega)
        · rw [o_gm, h2, if_pos (by rw [hf d (by omega), h0]; decide)]
      · right
        have e : s_fm f (d + 1 - 1) = d := by
          rw [Nat.add_sub_cancel]
          rcases Nat.eq_zero_or_pos d with hd0 | hd0
          · subst hd0; rfl
          · obtain ⟨e9, rfl⟩ : ∃ e9, d = e9 + 1 := ⟨d - 1, by omega⟩
            have hle := s_fm_le f e9
            rw [s_fm, if_pos]
            have hl9 : s_fm f e9 < n := by omega
            have hl8 : e9 + 1 < n := by omega
            rw [hf _ hl9, h1 _ (show s_fm f e9 < e9 + 1 by omega), hf _ hl8]
            exact (nI_ltI (by decide) (hz _ hl8)).mpr (by omega)
        refine ⟨by omega, by rw [e]; omega, ?_⟩
        rw [e, o_gm, h2, if_neg]
        rw [hf d (by omega)]
        intro h9
        have := (nI_leI (b := 0) (hz d (by omega)) (by decide)).mp h9
        omega
    · right
      obtain ⟨e9, rfl⟩ : ∃ e9, d = e9 + 1 := ⟨d - 1, by omega⟩
      rw [Nat.add_sub_cancel] at h2 h3 ⊢
      have hle := s_fm_le f e9
      by_cases hc : f (s_fm f e9) < f (e9 + 1)
      · have e : s_fm f (e9 + 1) = e9 + 1 := by rw [s_fm, if_pos hc]
        rw [e]
        refine ⟨by omega, ?_, ?_⟩
        · have hl9 : s_fm f e9 < n := by omega
          have hl8 : e9 + 1 < n := by omega
          rw [hf _ hl9, hf _ hl8] at hc
          have := (nI_ltI (hz _ hl9) (hz _ hl8)).mp hc
          omega
        · rw [o_gm, h3, if_neg (Int32.not_le.mpr hc)]
      · have e : s_fm f (e9 + 1) = s_fm f e9 := by rw [s_fm, if_neg hc]
        rw [e]
        exact ⟨by omega, h2, by rw [o_gm, h3, if_pos (Int32.not_lt.mp hc)]⟩
theorem g_day4 {T : sT} {kf mf ts lv tl R1 R2 R3 : sF} {tk wk : Nat → Nat} {tn d : Nat} {P : Nat → Bool} {rg : Int32} (s : sS) : (s_day (T, kf, mf, ts, tk, tn, lv, tl, P, rg, wk, R1, R2, R3) d s).2.2.2.2.1 = s_acc 0 (s_k T (R1 d) (R2 d) (R3 d) ts s.2.2.2.1) tn := by
  obtain ⟨D, W, cv, hh, f0, o, rt, rk, ct⟩ := s
  by_cases hr : s_rk rg d
  · rw [s_day_t hr]
  · rw [s_day_f hr]
theorem b_fl {G : sG} (hg : s_good G) {d : Nat} (hd : d < 14) : ∃ k, s_fl G d = nI k ∧ k ≤ 39960 := by
  obtain ⟨T, kf, mf, ts, tk, tn, lv, tl, P, rg, wk, R1, R2, R3⟩ := G
  obtain ⟨g1, g2, g3, g4, g5, g6, g7⟩ := hg
  obtain ⟨lz, tz, h1, h2, h3⟩ := b_start g1 g6 g7
  obtain ⟨dz, wz, hz, oz, r, k, a, hi⟩ := b_all (G := (T, kf, mf, ts, tk, tn, lv, tl, P, rg, wk, R1, R2, R3)) rfl g2 g3 g4 h1 h2 (by omega) d (by omega)
  obtain ⟨i1, i2, i3, i4, i5, i6, i7, i8, i9⟩ := hi
  have e0 : s_fl (T, kf, mf, ts, tk, tn, lv, tl, P, rg, wk, R1, R2, R3) d = s_acc 0 (s_k T (R1 d) (R2 d) (R3 d) ts (s_gone (T, kf, mf, ts, tk, tn, lv, tl, P, rg, wk, R1, R2, R3) d).2.2.2.1) tn := g_day4 _
  obtain ⟨kz, m6, m7⟩ := b_k T (R1 d) (R2 d) (R3 d) ts i3 (fun t ht => by have := fb_sm_one hz ht; omega)
  have e9 := b_acc (f := 0) (a := 0) nI_0.symm m6 tn (Nat.le_refl tn)
  have e8 := fb_sm_le m7
  refine ⟨fb_sm kz tn, ?_, by omega⟩
  rw [e0, e9, Nat.zero_add]
theorem o_great_m {G : sG} (hg : s_good G) {w a b : Int32} (hw : 0 ≤ w ∧ w ≤ 1) (hq : o_gm (s_fl G) 14 = (a, b)) : (if w = 0 then a else b) = o_great G w := by
  obtain ⟨z, hz⟩ := b_fun (n := 14) (P := fun j k => s_fl G j = nI k ∧ k ≤ 39960) (fun j hj => b_fl hg hj)
  have hf : ∀ j, j < 14 → s_fl G j = nI (z j) := fun j hj => (hz j hj).1
  have hz2 : ∀ j, j < 14 → z j ≤ 39960 := fun j hj => (hz j hj).2
  have hs : s_sum (s_fl G) 14 = nI (fb_sm z 14) := b_sum hf 14 (Nat.le_refl 14)
  have hsb := fb_sm_bound (f := z) (c := 39960) (n := 14) hz2
  unfold o_great
  rw [if_pos hw, hs]
  rcases o_gm_all (by decide) hf (fun j hj => by have := hz2 j hj; omega) 14 (Nat.le_refl 14) with ⟨h1, h2⟩ | ⟨h1, h2, h3⟩
  · have h0 : fb_sm z 14 = 0 := by
      have := fb_sm_bound (f := z) (c := 0) (n := 14) (fun j hj => by rw [h1 j hj]; exact Nat.le_refl 0)
      omega
    have hab := h2.symm.trans hq
    rw [Prod.mk.injEq] at hab
    rw [h0, if_pos (show nI 0 = 0 from nI_0), ← hab.1, ← hab.2]
    by_cases q : w = 0
    · rw [if_pos q, if_pos q]
    · rw [if_neg q, if_neg q]
      unfold o_fom
      rw [if_neg q]
      have hle := s_fm_le (s_fl G) (14 - 1)
      have hlt : s_fm (s_fl G) (14 - 1) < 14 := by omega
      rw [hf _ hlt, h1 _ hlt]
      exact nI_0.symm
  · have hle := s_fm_le (s_fl G) (14 - 1)
    have h0 : ¬ nI (fb_sm z 14) = 0 := by
      have h5 := fb_sm_one z (show s_fm (s_fl G) (14 - 1) < 14 by omega)
      intro h9
      have := (nI_eq (a := fb_sm z 14) (b := 0) (by omega) (by decide)).mp (h9.trans nI_0.symm)
      omega
    have hab := h3.symm.trans hq
    rw [Prod.mk.injEq] at hab
    rw [if_neg h0, ← hab.1, ← hab.2]
    unfold o_fom
    by_cases q : w = 0
    · rw [if_pos q, if_pos q]
    · rw [if_neg q, if_neg q]
theorem o_gm_f {f : sF} {d : Nat} {a b : Int32} (hq : o_gm f d = (a, b)) (h : f d ≤ b) : o_gm f (d + 1) = (a, b) := by rw [o_gm, hq]; exact if_pos h
theorem o_gm_t {f : sF} {d : Nat} {a b : Int32} (hq : o_gm f d = (a, b)) (h : ¬ f d ≤ b) : o_gm f (d + 1) = (nI d, f d) := by rw [o_gm, hq]; exact if_neg h
/-! the greatest is the bound of all -/
theorem s_fm_max (f : sF) : ∀ k j, j ≤ k → f j ≤ f (s_fm f k)
  | 0, j, hj => by rw [show j = 0 by omega]; exact Int32.le_refl _
  | k + 1, j, hj => by
    unfold s_fm
    by_cases h : f (s_fm f k) < f (k + 1)
    · rw [if_pos h]
      by_cases e : j = k + 1
      · rw [e]; exact Int32.le_refl _
      · exact Int32.le_trans (s_fm_max f k j (by omega)) (Int32.le_of_lt h)
    · rw [if_neg h]
      by_cases e : j = k + 1
      · rw [e]; exact Int32.not_lt.mp h
      · exact s_fm_max f k j (by omega)
theorem o_bare {cv : sF} {most : Int32} : o_fom cv 36 1 ≤ most ↔ ∀ j, j < 36 → cv j ≤ most := by
  have e : o_fom cv 36 1 = cv (s_fm cv 35) := by
    unfold o_fom
    rw [if_neg (by decide)]
  rw [e]
  constructor
  · exact fun h j hj => Int32.le_trans (s_fm_max cv 35 j (by omega)) h
  · exact fun h => h _ (by have := s_fm_le cv 35; omega)
theorem q_sat2 : ∀ k, k < 16 → ((((nI k &&& 1) <<< ((3 : Int32) &&& 31)) ||| (((nI k >>> ((1 : Int32) &&& 31)) &&& 1) <<< ((6 : Int32) &&& 31))) ||| (((nI k >>> ((2 : Int32) &&& 31)) &&& 1) <<< ((10 : Int32) &&& 31))) ||| (((nI k >>> ((3 : Int32) &&& 31)) &&& 1) <<< ((13 : Int32) &&& 31)) = nI (s_sat k) := by decide +kernel
theorem s_sat_lt (k : Nat) : s_sat k < 2 ^ 31 := by
  unfold s_sat
  omega
/-! sets of heaps -/
theorem lN_self (z : Int64) : z = lN z.toUInt64.toNat := by
  apply Int64.toBitVec_inj.mp
  show z.toBitVec = BitVec.ofNat 64 z.toBitVec.toNat
  apply BitVec.eq_of_toNat_eq
  rw [BitVec.toNat_ofNat]
  exact (Nat.mod_eq_of_lt z.toBitVec.isLt).symm
theorem s_smod : ∀ c, c < 36 → (((nI c).toInt64 &&& 63).toBitVec.smod 64).toNat = c := by decide +kernel
theorem pq_shr {a d : Nat} {D : Int64} (hD : (D.toBitVec.smod 64).toNat = d) (h : a < 2 ^ 62) : lN a >>> D = lN (a / 2 ^ d) := by
  apply Int64.toBitVec_inj.mp
  show (BitVec.ofNat 64 a).sshiftRight (D.toBitVec.smod 64).toNat = BitVec.ofNat 64 (a / 2 ^ d)
  rw [hD, BitVec.sshiftRight_eq_of_msb_false (by
    rw [BitVec.msb_eq_false_iff_two_mul_lt, BitVec.toNat_ofNat]
    omega)]
  apply BitVec.eq_of_toNat_eq
  have hd : a / 2 ^ d ≤ a := Nat.div_le_self _ _
  rw [BitVec.toNat_ushiftRight, BitVec.toNat_ofNat, BitVec.toNat_ofNat, Nat.mod_eq_of_lt (show a < 2 ^ 64 by omega), Nat.mod_eq_of_lt (show a / 2 ^ d < 2 ^ 64 by omega), Nat.shiftRight_eq_div_pow]
theorem s_usm : ∀ c, c < 36 → (nI c).toInt64.toUInt64 &&& Int64.toUInt64 63 = UInt64.ofNat c := by decide +kernel
theorem wq_shr {n k : Nat} (hn : n < 2 ^ 62) (hk : k < 36) : ((lN n).toUInt64 >>> ((nI k).toInt64.toUInt64 &&& Int64.toUInt64 63)).toInt64 = lN (n / 2 ^ k) := by
  rw [s_usm k hk]
  apply Int64.toBitVec_inj.mp
  show (UInt64.ofNat n >>> UInt64.ofNat k).toBitVec = BitVec.ofNat 64 (n / 2 ^ k)
  apply BitVec.eq_of_toNat_eq
  have hd : n / 2 ^ k ≤ n := Nat.div_le_self _ _
  show (UInt64.ofNat n >>> UInt64.ofNat k).toNat = _
  rw [UInt64.toNat_shiftRight]
  show (BitVec.ofNat 64 n).toNat >>> ((BitVec.ofNat 64 k).toNat % 64) = _
  rw [BitVec.toNat_ofNat, BitVec.toNat_ofNat, BitVec.toNat_ofNat, Nat.mod_eq_of_lt (show n < 2 ^ 64 by omega), Nat.mod_eq_of_lt (show k < 2 ^ 64 by omega), Nat.mod_eq_of_lt (show k < 64 by omega), Nat.mod_eq_of_lt (show n / 2 ^ k < 2 ^ 64 by omega), Nat.shiftRight_eq_div_pow]
theorem s_bb_eq {z : Int64} (h : z.toUInt64.toNat < 2 ^ 62) : ∀ e, e < 36 → s_bb2 z e = s_b1 z e := fun e he => by
  have hz := lN_self z
  generalize z.toUInt64.toNat = a at h hz
  subst hz
  unfold s_bb2 s_b1
  rw [pq_shr (s_smod e he) h, wq_shr h he]
theorem s_bit_small : ∀ c, c < 36 → ∀ e, e < 36 → (s_bit c ||| s_bit e).toUInt64.toNat < 2 ^ 62 := by decide +kernel
theorem s_bit_pp {c e : Nat} (hc : c < 36) (he : e < 36) : ∀ k, k < 36 → s_bb2 (s_bit c ||| s_bit e) k = s_b1 (s_bit c ||| s_bit e) k := s_bb_eq (s_bit_small c hc e he)
theorem s_bit_dup (c : Nat) : s_bit c ||| s_bit c = s_bit c := Int64.or_self
