/-! ===== the Model's searches against the class's ===== -/
def o_mw (p : Int32 × Int32) (b l : Int32) : Prop := p.1 = b ∧ (b = -1 ∨ (0 ≤ b ∧ p.2 = l))
section OMW
variable {p p' : Int32 × Int32} {b l k v : Int32}
theorem o_mw_t1 (hp : p' = if p.1 = -1 ∨ k < p.2 then (v, k) else p) (hq : o_mw p b l) (hv : 0 ≤ v) (h : b < 0) : o_mw p' v k := by
  have hb : b = -1 := hq.2.resolve_right (fun h9 => absurd h9.1 (Int32.not_le.mpr h))
  rw [hp, if_pos (Or.inl (hq.1.trans hb))]
  exact ⟨rfl, Or.inr ⟨hv, rfl⟩⟩
theorem o_mw_t2 (hp : p' = if p.1 = -1 ∨ k < p.2 then (v, k) else p) (hq : o_mw p b l) (hv : 0 ≤ v) (h0 : ¬ b < 0) (h : k < l) : o_mw p' v k := by
  have hb : p.2 = l := (hq.2.resolve_left (fun h9 => h0 (by rw [h9]; decide))).2
  rw [hp, if_pos (Or.inr (by rw [hb]; exact h))]
  exact ⟨rfl, Or.inr ⟨hv, rfl⟩⟩
theorem o_mw_f (hp : p' = if p.1 = -1 ∨ k < p.2 then (v, k) else p) (hq : o_mw p b l) (h0 : ¬ b < 0) (h : ¬ k < l) : o_mw p' b l := by
  have hn : ¬ b = -1 := fun h9 => h0 (by rw [h9]; decide)
  have hb : p.2 = l := (hq.2.resolve_left hn).2
  rw [hp, if_neg (fun h9 => h9.elim (fun h8 => hn (hq.1.symm.trans h8)) (fun h8 => h (by rw [← hb]; exact h8)))]
  exact hq
theorem o_mw_e (hq : o_mw p b l) (hn : ¬ p.1 = -1) : p = (b, l) := by
  obtain ⟨x, y⟩ := p
  have h1 : x = b := hq.1
  have h2 : y = l := (hq.2.resolve_left (fun h9 => hn (h1.trans h9))).2
  rw [h1, h2]
theorem o_mw_ne (hp : p' = if p.1 = -1 ∨ k < p.2 then (v, k) else p) (hv : ¬ v = -1) : ¬ p'.1 = -1 := by
  rw [hp]
  by_cases h : p.1 = -1 ∨ k < p.2
  · rw [if_pos h]; exact hv
  · rw [if_neg h]; exact fun h9 => h (Or.inl h9)
end OMW
theorem nI_nm1 {a : Nat} (h : a < 2 ^ 31) : ¬ nI a = -1 := fun e => by
  have h1 := nI_toInt h
  rw [e] at h1
  have h2 : (-1 : Int32).toInt = -1 := rfl
  omega
theorem nI_ge0 {a : Nat} (h : a < 2 ^ 31) : 0 ≤ nI a := Int32.not_lt.mp (nI_pos h)
theorem s_bh_step (D W : sF) (n : Nat) : s_bh D W (n + 1) = if (s_bh D W n).1 = -1 ∨ s_cost (s_b1 (s_bit n)) D W < (s_bh D W n).2 then (nI n, s_cost (s_b1 (s_bit n)) D W) else s_bh D W n := rfl
theorem s_bi_step (D W : sF) (c : Nat) (s : Int32 × Int32) (m : Nat) : s_bi D W c s (m + 1) = if (s_bi D W c s m).1 = -1 ∨ s_cost (s_b1 (s_bit c ||| s_bit (c + 1 + m))) D W < (s_bi D W c s m).2 then (nI (100 * c + (c + 1 + m)), s_cost (s_b1 (s_bit c ||| s_bit (c + 1 + m))) D W) else s_bi D W c s m := rfl
theorem s_bh_ne (D W : sF) : ¬ (s_bh D W 36).1 = -1 := o_mw_ne (s_bh_step D W 35) (nI_nm1 (by decide))
theorem s_bo_step (D W : sF) (c : Nat) : s_bo D W (c + 1) = s_bi D W c (s_bo D W c) (36 - (c + 1)) := rfl
theorem s_bo_ne (D W : sF) : ¬ (s_bo D W 36).1 = -1 := by
  rw [s_bo_step, s_bo_step]
  exact o_mw_ne (s_bi_step D W 34 _ 0) (nI_nm1 (by decide))
theorem o_ls_m (G : sG) (most : Int32) : ∀ k, (o_ls G most k).1 = -1 ∨ 0 ≤ (o_ls G most k).1
  | 0 => Or.inl rfl
  | k + 1 => by
    rw [o_ls]
    split
    · exact Or.inr (nI_ge0 (s_sat_lt k))
    · exact o_ls_m G most k
section OLM
variable {G : sG} {most b pr : Int32} {k : Nat} {D W cv h o : sF} {f rt rk ct : Int32}
theorem o_ls_mt1 (hS : s_gone (o_rg G (nI (s_sat k))) 14 = (D, W, cv, h, f, o, rt, rk, ct)) (hq : o_ls G most k = (b, pr)) (h1 : ∀ j, j < 36 → cv j ≤ most) (h2 : b < 0) : o_ls G most (k + 1) = (nI (s_sat k), ct) := by
  refine o_ls_t hS hq (o_bare.mpr h1) (Or.inl ?_)
  have h9 := o_ls_m G most k
  rw [hq] at h9
  exact h9.resolve_right (Int32.not_le.mpr h2)
theorem o_ls_mt2 (hS : s_gone (o_rg G (nI (s_sat k))) 14 = (D, W, cv, h, f, o, rt, rk, ct)) (hq : o_ls G most k = (b, pr)) (h1 : ∀ j, j < 36 → cv j ≤ most) (h2 : ct < pr) : o_ls G most (k + 1) = (nI (s_sat k), ct) := o_ls_t hS hq (o_bare.mpr h1) (Or.inr h2)
theorem o_ls_mf1 (hS : s_gone (o_rg G (nI (s_sat k))) 14 = (D, W, cv, h, f, o, rt, rk, ct)) (hq : o_ls G most k = (b, pr)) (h1 : ¬ ∀ j, j < 36 → cv j ≤ most) : o_ls G most (k + 1) = (b, pr) := o_ls_f hS hq (fun h9 => h1 (o_bare.mp h9.1))
theorem o_ls_mf2 (hS : s_gone (o_rg G (nI (s_sat k))) 14 = (D, W, cv, h, f, o, rt, rk, ct)) (hq : o_ls G most k = (b, pr)) (h0 : ¬ b < 0) (h2 : ¬ ct < pr) : o_ls G most (k + 1) = (b, pr) := o_ls_f hS hq (fun h9 => h9.2.elim (fun h8 => h0 (by rw [h8]; decide)) h2)
end OLM
theorem s_min_c (x y : Int32) : (if y < x then y else x) = s_min y x := by
  unfold s_min
  by_cases h : y < x
  · rw [if_pos h, if_neg (Int32.not_lt.mpr (Int32.le_of_lt h))]
  · rw [if_neg h]
    by_cases h2 : x < y
    · rw [if_pos h2]
    · rw [if_neg h2]
      exact Int32.le_antisymm (Int32.not_lt.mp h) (Int32.not_lt.mp h2)
theorem o_nmin_m {A B : sF} {c : Nat} : s_sum (o_nmin A B) (c + 1) = s_sum (o_nmin A B) c + (if A c < B c then A c else B c) := by
  rw [s_min_c]
  rfl
/-- the first greatest, from below nought -/
def o_gn (f : sF) (b0 : Int32) : Nat → Int32 × Int32
  | 0 => (b0, -1)
  | d + 1 => if f d ≤ (o_gn f b0 d).2 then o_gn f b0 d else (nI d, f d)
theorem o_gn_all {f : sF} {b0 : Int32} {n : Nat} (hf : ∀ j, j < n → 0 ≤ f j) : ∀ d, d < n → o_gn f b0 (d + 1) = (nI (s_fm f d), f (s_fm f d))
  | 0, h => by
    show (if f 0 ≤ -1 then (b0, -1) else (nI 0, f 0)) = _
    rw [if_neg (fun h9 => absurd (Int32.le_trans (hf 0 h) h9) (by decide))]
    rfl
  | d + 1, h => by
    rw [o_gn, o_gn_all hf d (by omega)]
    show (if f (d + 1) ≤ f (s_fm f d) then _ else _) = _
    by_cases hc : f (s_fm f d) < f (d + 1)
    · rw [if_neg (Int32.not_le.mpr hc), s_fm, if_pos hc]
    · rw [if_pos (Int32.not_lt.mp hc), s_fm, if_neg hc]
theorem o_gn_e {f : sF} {b0 a b w : Int32} {n : Nat} (hf : ∀ j, j < n + 1 → 0 ≤ f j) (hq : o_gn f b0 (n + 1) = (a, b)) : (if w = 0 then a else b) = o_fom f (n + 1) w := by
  have h := (o_gn_all hf n (Nat.lt_succ_self n)).symm.trans hq
  rw [Prod.mk.injEq] at h
  rw [← h.1, ← h.2]
  rfl
theorem o_gn_f {f : sF} {b0 a b : Int32} {d : Nat} (hq : o_gn f b0 d = (a, b)) (h : f d ≤ b) : o_gn f b0 (d + 1) = (a, b) := by rw [o_gn, hq]; exact if_pos h
theorem o_gn_t {f : sF} {b0 a b : Int32} {d : Nat} (hq : o_gn f b0 d = (a, b)) (h : ¬ f d ≤ b) : o_gn f b0 (d + 1) = (nI d, f d) := by rw [o_gn, hq]; exact if_neg h
theorem o_hul_ge {G : sG} (hg : s_good G) {n : Nat} (hn : n ≤ 14) {m : Int32} (hm : 0 ≤ m ∧ m ≤ 99) : ∀ j, j < 36 → 0 ≤ o_hul G n m j := fun j hj => by
  obtain ⟨a, h1, h2⟩ := b_lying (G := o_hu G j m) (o_hu_good hg hm) hn hj
  unfold o_hul
  rw [h1]
  exact nI_ge0 (by omega)
theorem o_aw_ge {G : sG} (hg : s_good G) : ∀ j, j < 4 → 0 ≤ o_aw G j := fun j hj => by
  obtain ⟨a, b, h1, h2, h3, h4⟩ := b_share (G := o_wy G j) (o_wy_good hg hj) (Nat.le_refl 14) hj
  unfold o_aw
  rw [h1]
  exact nI_ge0 (by omega)
theorem q_back {f : sF} {c : Nat} {v : Int32} : ∀ i, i < 36 → upd (upd f c v) c (f c) i = f i := fun i _ => by
  by_cases e : i = c
  · subst e; rw [pk_us]
  · rw [pk_un e, pk_un e]
theorem o_hurdle_m {G : sG} (hg : s_good G) {n : Nat} {m p a b : Int32} (h1 : 0 ≤ nI n ∧ nI n ≤ 14) (hn : n ≤ 14) (en : o_n (nI n) = n) (h2 : 0 ≤ m ∧ m ≤ 99) (h : 0 ≤ p ∧ p ≤ 1) (hq : o_gn (o_hul G n m) (-1) 36 = (a, b)) : (if p = 0 then a else b) = o_hurdle G (nI n) m p := by
  unfold o_hurdle
  rw [if_pos h1, if_pos h2, if_pos h, en]
  exact o_gn_e (n := 35) (o_hul_ge hg hn h2) hq
theorem o_away_m {G : sG} (hg : s_good G) {p a b : Int32} (h : 0 ≤ p ∧ p ≤ 1) (hq : o_gn (o_aw G) 0 4 = (a, b)) : (if p = 0 then a else b) = o_away G p := by
  unfold o_away
  rw [if_pos h]
  exact o_gn_e (n := 3) (o_aw_ge hg) hq
/-! lowest terms, by longs -/
theorem q_gcdL {z y g : Nat} (h : Nat.gcd z y = g) (h0 : 0 < y) : Nat.gcd y (z % y) = g := q_gcd h h0
theorem lN_ne0 {a : Nat} (h : a < 2 ^ 63) (h0 : a ≠ 0) : ¬ lN a = 0 := fun e => by
  have h1 : (lN a).toUInt64.toNat = a := by
    show (BitVec.ofNat 64 a).toNat = a
    rw [BitVec.toNat_ofNat]
    omega
  rw [e] at h1
  exact h0 h1.symm
theorem lg_cmp0 {a : Nat} (h : a < 2 ^ 63) : lg_cmp (lN a) 0 = 0 ↔ a = 0 := by
  rw [lg_cmp_eq]
  constructor
  · intro e
    by_cases h0 : a = 0
    · exact h0
    · exact absurd e (lN_ne0 h h0)
  · intro e; subst e; rfl
