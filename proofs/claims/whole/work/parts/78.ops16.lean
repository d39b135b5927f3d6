/-! ===== rows copied, trees by a row, plots, what a law is asked ===== -/
theorem q_tsub {x y : Int32} (h1 : -2147483648 ≤ x.toInt - y.toInt) (h2 : x.toInt - y.toInt < 2147483648) : (x - y).toInt = x.toInt - y.toInt := by
  rw [Int32.toInt_sub]
  exact Int.bmod_eq_of_le (by omega) (by omega)
theorem q_nIof {x : Int32} (h : 0 ≤ x.toInt) : x = nI x.toInt.toNat := q_ti (by
  have := fb9_rng x
  rw [nI_toInt (by omega)]
  omega)
theorem q_le0 {x : Int32} : 0 ≤ x ↔ 0 ≤ x.toInt := by
  rw [Int32.le_iff_toInt_le]
  exact Iff.rfl
theorem q_lt0 {x : Int32} : x < 0 ↔ x.toInt < 0 := by
  rw [Int32.lt_iff_toInt_lt]
  exact Iff.rfl
theorem q_spani {nz : Nat} {n i : Int32} (h40 : nz ≤ 40) (hn : ¬ n < 0) : (0 ≤ i ∧ i ≤ nI nz - n) ↔ 0 ≤ i.toInt ∧ i.toInt + n.toInt ≤ nz := by
  have hn2 : ¬ n.toInt < 0 := fun h => hn (q_lt0.mpr h)
  have hb := fb9_rng n
  have hz : (nI nz).toInt = nz := nI_toInt (by omega)
  rw [q_le0, Int32.le_iff_toInt_le, q_tsub (by omega) (by omega), hz]
  omega
theorem q_span {nz : Nat} {n i : Int32} (h40 : nz ≤ 40) (hn : ¬ n < 0) (h : 0 ≤ i ∧ i ≤ nI nz - n) : ∃ a z, i = nI a ∧ n = nI z ∧ a + z ≤ nz := by
  have h2 := (q_spani h40 hn).mp h
  have hn2 : ¬ n.toInt < 0 := fun h => hn (q_lt0.mpr h)
  exact ⟨i.toInt.toNat, n.toInt.toNat, q_nIof h2.1, q_nIof (by omega), by omega⟩
theorem q_span2 {nz z : Nat} {i : Int32} (h40 : nz ≤ 40) (hz : z ≤ 40) (h : 0 ≤ i ∧ i ≤ nI nz - nI z) : ∃ a, i = nI a ∧ a + z ≤ nz := by
  have hn : ¬ nI z < 0 := nI_pos (by omega)
  have h2 := (q_spani h40 hn).mp h
  have h3 : (nI z).toInt = z := nI_toInt (by omega)
  exact ⟨i.toInt.toNat, q_nIof h2.1, by omega⟩
def o_copy (so : Int32) (nz : Nat) (so2 : Int32) (nz2 : Nat) (s i other j n : Int32) : Int32 := if 0 ≤ s ∧ s ≤ 3 then if 0 ≤ other ∧ other ≤ 3 then if so = -1 then -11 else if so2 = -1 then -11 else if so = so2 then if n < 0 then -12 else if 0 ≤ i ∧ i ≤ nI nz - n then if 0 ≤ j ∧ j ≤ nI nz2 - n then n else -12 else -12 else -13 else -2 else -2
def o_copy_g (f g : sF) (so : Int32) (nz : Nat) (so2 : Int32) (nz2 : Nat) (s i other j n : Int32) : sF := if 0 ≤ s ∧ s ≤ 3 then if 0 ≤ other ∧ other ≤ 3 then if so = -1 then g else if so2 = -1 then g else if so = so2 then if n < 0 then g else if 0 ≤ i ∧ i ≤ nI nz - n then if 0 ≤ j ∧ j ≤ nI nz2 - n then va_cpy f g (o_n i) (o_n j) (o_n n) else g else g else g else g else g
theorem q_at3i {nz k : Nat} {at9 : Int32} (h40 : nz ≤ 40) (hk : k ≤ 4) : (0 ≤ at9 ∧ at9 ≤ nI nz - 3 * nI k - 3) ↔ 0 ≤ at9.toInt ∧ at9.toInt + 3 * k + 3 ≤ nz := by
  have h3 : (3 : Int32) * nI k = nI (3 * k) := q_imul (a := 3) rfl rfl
  have e3 : (3 : Int32).toInt = 3 := rfl
  have hz : (nI nz).toInt = nz := nI_toInt (by omega)
  have hk3 : (nI (3 * k)).toInt = ((3 * k : Nat) : Int) := nI_toInt (by omega)
  have h4 : (nI nz - nI (3 * k)).toInt = nz - ((3 * k : Nat) : Int) := by rw [q_tsub (by omega) (by omega), hz, hk3]
  rw [q_le0, Int32.le_iff_toInt_le, h3, q_tsub (by omega) (by omega), h4, e3]
  omega
theorem q_at3 {nz k : Nat} {at9 : Int32} (h40 : nz ≤ 40) (hk : k ≤ 4) (h : 0 ≤ at9 ∧ at9 ≤ nI nz - 3 * nI k - 3) : ∃ p, at9 = nI p ∧ p + 3 * k + 3 ≤ nz := by
  have h2 := (q_at3i h40 hk).mp h
  exact ⟨at9.toInt.toNat, q_nIof h2.1, by omega⟩
abbrev sTB : Type := Nat × sF × sF × sF × Nat
def o_tst (g : sF) (i : Nat) (q : sTB) : sTB := (o_tree_n q.1 (g i) (g (i + 1)) (g (i + 2)), o_tree_f q.2.1 q.1 (g i) (g (i + 1)) (g (i + 2)) (g i), o_tree_f q.2.2.1 q.1 (g i) (g (i + 1)) (g (i + 2)) (g (i + 1)), o_tree_f q.2.2.2.1 q.1 (g i) (g (i + 1)) (g (i + 2)) (g (i + 2)), if o_tree q.1 (g i) (g (i + 1)) (g (i + 2)) < 0 then q.2.2.2.2 else q.2.2.2.2 + 1)
def o_tbl (g : sF) (nz : Nat) (at9 : Int32) : Nat → Nat → sTB → Int32 × sTB
  | 0, _, q => (nI q.2.2.2.2, q)
  | f + 1, k, q => if 0 ≤ at9 ∧ at9 ≤ nI nz - 3 * nI k - 3 then o_tbl g nz at9 f (k + 1) (o_tst g (o_n at9 + 3 * k) q) else (-12, q)
def o_treesBy (g : sF) (so : Int32) (nz : Nat) (q : sTB) (s t at9 n : Int32) : Int32 × sTB := if 0 ≤ s ∧ s ≤ 3 then if 0 ≤ t ∧ t ≤ 2 then if 0 ≤ n ∧ n ≤ 4 then if so = -1 then (-11, q) else if so = t then o_tbl g nz at9 (o_n n) 0 q else (-13, q) else (-2, q) else (-2, q) else (-2, q)
section TBL
variable {g a b c : sF} {nz nn k p n1 e1 e2 : Nat} {at9 : Int32}
theorem o_tbl_s (hk : k < nn) (hv : 0 ≤ at9 ∧ at9 ≤ nI nz - 3 * nI k - 3) (e : at9 = nI p) (hp : p < 2 ^ 31) (he : e2 = if o_tree n1 (g (p + 3 * k)) (g (p + 3 * k + 1)) (g (p + 3 * k + 2)) < 0 then e1 else e1 + 1) : o_tbl g nz at9 (nn - (k + 1)) (k + 1) (o_tree_n n1 (g (p + 3 * k)) (g (p + 3 * k + 1)) (g (p + 3 * k + 2)), o_tree_f a n1 (g (p + 3 * k)) (g (p + 3 * k + 1)) (g (p + 3 * k + 2)) (g (p + 3 * k)), o_tree_f b n1 (g (p + 3 * k)) (g (p + 3 * k + 1)) (g (p + 3 * k + 2)) (g (p + 3 * k + 1)), o_tree_f c n1 (g (p + 3 * k)) (g (p + 3 * k + 1)) (g (p + 3 * k + 2)) (g (p + 3 * k + 2)), e2) = o_tbl g nz at9 (nn - k) k (n1, a, b, c, e1) := by
  have ho : o_n at9 = p := by rw [e]; exact o_n_nI hp
  rw [show nn - k = nn - (k + 1) + 1 by omega, o_tbl, if_pos hv, ho, he]
  rfl
theorem o_tbl_x (hk : k < nn) (hv : ¬ (0 ≤ at9 ∧ at9 ≤ nI nz - 3 * nI k - 3)) {q : sTB} : o_tbl g nz at9 (nn - k) k q = (-12, q) := by
  rw [show nn - k = nn - (k + 1) + 1 by omega, o_tbl, if_neg hv]
theorem o_tbl_e (hk : k = nn) {q : sTB} : o_tbl g nz at9 (nn - k) k q = (nI q.2.2.2.2, q) := by
  rw [hk, Nat.sub_self, o_tbl]
end TBL
theorem o_tree_n_le {tn : Nat} {c s l : Int32} (h : tn ≤ 4) : o_tree_n tn c s l ≤ 4 := by
  unfold o_tree_n
  repeat' split
  all_goals omega
theorem o_treesBy_l {g : sF} {so : Int32} {nz : Nat} {q : sTB} {s t at9 : Int32} {nn : Nat} (h1 : 0 ≤ s ∧ s ≤ 3) (h2 : 0 ≤ t ∧ t ≤ 2) (h3 : 0 ≤ nI nn ∧ nI nn ≤ 4) (h4 : ¬ so = -1) (h5 : so = t) (hn : nn ≤ 4) : o_treesBy g so nz q s t at9 (nI nn) = o_tbl g nz at9 nn 0 q := by
  unfold o_treesBy
  rw [if_pos h1, if_pos h2, if_pos h3, if_neg h4, if_pos h5, o_n_nI (by omega)]
def o_pl (f : sF) (v : Int32) (y0 ty x0 tx : Nat) : sF := fun j => if (y0 ≤ j / 6 ∧ j / 6 < ty) ∧ x0 ≤ j % 6 ∧ j % 6 < tx then v else f j
def o_pi (f : sF) (v : Int32) (y0 y x0 tx x9 : Nat) : sF := fun j => if ((y0 ≤ j / 6 ∧ j / 6 < y) ∧ x0 ≤ j % 6 ∧ j % 6 < tx) ∨ (j / 6 = y ∧ x0 ≤ j % 6 ∧ j % 6 < x9) then v else f j
section PLT
variable {f : sF} {v : Int32} {y0 y x0 tx x9 : Nat}
theorem o_pl_0 : f = o_pl f v y0 y0 x0 tx := by
  funext j
  unfold o_pl
  rw [if_neg (by omega)]
theorem o_pi_0 : o_pl f v y0 y x0 tx = o_pi f v y0 y x0 tx x0 := by
  funext j
  unfold o_pl o_pi
  by_cases h : (y0 ≤ j / 6 ∧ j / 6 < y) ∧ x0 ≤ j % 6 ∧ j % 6 < tx
  · rw [if_pos h, if_pos (Or.inl h)]
  · rw [if_neg h, if_neg (by omega)]
theorem o_pi_s (hx : x0 ≤ x9) (h6 : x9 < 6) : upd (o_pi f v y0 y x0 tx x9) (6 * y + x9) v = o_pi f v y0 y x0 tx (x9 + 1) := by
  funext j
  by_cases e : j = 6 * y + x9
  · rw [e, pk_us]
    unfold o_pi
    rw [if_pos (Or.inr (by omega))]
  · rw [pk_un e]
    unfold o_pi
    by_cases h : ((y0 ≤ j / 6 ∧ j / 6 < y) ∧ x0 ≤ j % 6 ∧ j % 6 < tx) ∨ (j / 6 = y ∧ x0 ≤ j % 6 ∧ j % 6 < x9)
    · rw [if_pos h, if_pos (by omega)]
    · rw [if_neg h, if_neg (by omega)]
theorem o_pi_e (hy : y0 ≤ y) (hx : x9 = tx) : o_pi f v y0 y x0 tx x9 = o_pl f v y0 (y + 1) x0 tx := by
  funext j
  unfold o_pi o_pl
  by_cases h : ((y0 ≤ j / 6 ∧ j / 6 < y) ∧ x0 ≤ j % 6 ∧ j % 6 < tx) ∨ (j / 6 = y ∧ x0 ≤ j % 6 ∧ j % 6 < x9)
  · rw [if_pos h, if_pos (by omega)]
  · rw [if_neg h, if_neg (by omega)]
end PLT
theorem q_w16 {x : Int32} (h : 1 ≤ x ∧ x ≤ 6) : ∃ a, 1 ≤ a ∧ a ≤ 6 ∧ x = nI a := by
  obtain ⟨j, hj, rfl⟩ := q_w (n := 6) rfl (by decide) ⟨Int32.le_trans (by decide) h.1, h.2⟩
  refine ⟨j, ?_, hj, rfl⟩
  exact (nI_leI (a := 1) (by decide) (by omega)).mp h.1
theorem q_min6 {y : Nat} (h : y < 2 ^ 31) : (if nI y < 6 then nI y else 6) = nI (min 6 y) := by
  by_cases q : y < 6
  · have h9 : nI y < 6 := (nI_ltI (b := 6) h (by decide)).mpr q
    rw [if_pos h9, show min 6 y = y by omega]
  · have h9 : ¬ nI y < 6 := fun h9 => q ((nI_ltI (b := 6) h (by decide)).mp h9)
    rw [if_neg h9, show min 6 y = 6 by omega]
    rfl
theorem q_cnt {y y0 w l : Nat} (hy : y0 ≤ y) (h : l = (y - y0) * w + w) : l = (y + 1 - y0) * w := by
  rw [h, show y + 1 - y0 = (y - y0) + 1 by omega, Nat.succ_mul]
def o_plot (c sh k m : Int32) : Int32 := if 0 ≤ c ∧ c ≤ 35 then if 1 ≤ sh / 10 ∧ sh / 10 ≤ 6 then if 1 ≤ sh - sh / 10 * 10 ∧ sh - sh / 10 * 10 ≤ 6 then if (0 ≤ k ∧ k ≤ 5) ∧ 0 ≤ m ∧ m ≤ 99 then nI ((min 6 (o_n c / 6 + o_n (sh / 10)) - o_n c / 6) * (min 6 (o_n c % 6 + o_n (sh - sh / 10 * 10)) - o_n c % 6)) else -7 else -2 else -2 else -2
def o_plot_f (f : sF) (c sh k m v : Int32) : sF := if 0 ≤ c ∧ c ≤ 35 then if 1 ≤ sh / 10 ∧ sh / 10 ≤ 6 then if 1 ≤ sh - sh / 10 * 10 ∧ sh - sh / 10 * 10 ≤ 6 then if (0 ≤ k ∧ k ≤ 5) ∧ 0 ≤ m ∧ m ≤ 99 then o_pl f v (o_n c / 6) (min 6 (o_n c / 6 + o_n (sh / 10))) (o_n c % 6) (min 6 (o_n c % 6 + o_n (sh - sh / 10 * 10))) else f else f else f else f
theorem o_plot_l {kf mf : sF} {c : Nat} {sh k m : Int32} {a b l ty tx : Nat} (hc : c ≤ 35) (h1 : 1 ≤ sh / 10 ∧ sh / 10 ≤ 6) (h2 : 1 ≤ sh - sh / 10 * 10 ∧ sh - sh / 10 * 10 ≤ 6) (h3 : (0 ≤ k ∧ k ≤ 5) ∧ 0 ≤ m ∧ m ≤ 99) (ea : sh / 10 = nI a) (eb : sh - sh / 10 * 10 = nI b) (ha : a ≤ 6) (hb : b ≤ 6) (hty : ty = min 6 (c / 6 + a)) (htx : tx = min 6 (c % 6 + b)) (hl : l = (ty - c / 6) * (tx - c % 6)) : (nI l, o_pl kf k (c / 6) ty (c % 6) tx, o_pl mf m (c / 6) ty (c % 6) tx) = (o_plot (nI c) sh k m, o_plot_f kf (nI c) sh k m k, o_plot_f mf (nI c) sh k m m) := by
  have h0 : 0 ≤ nI c ∧ nI c ≤ 35 := ⟨Int32.not_lt.mp (nI_pos (by omega)), (nI_leI (b := 35) (by omega) (by decide)).mpr hc⟩
  have ec : o_n (nI c) = c := o_n_nI (by omega)
  have oa : o_n (sh / 10) = a := by rw [ea]; exact o_n_nI (by omega)
  have ob : o_n (sh - sh / 10 * 10) = b := by rw [eb]; exact o_n_nI (by omega)
  unfold o_plot o_plot_f
  rw [if_pos h0, if_pos h1, if_pos h2, if_pos h3, if_pos h0, if_pos h1, if_pos h2, if_pos h3, if_pos h0, if_pos h1, if_pos h2, if_pos h3, ec, oa, ob, ← hty, ← htx, hl]
def o_asks (T : sT) (p h sf ws m : Int32) : Int32 := if 0 ≤ p ∧ p ≤ 2 then if 0 ≤ h ∧ h ≤ 9999 then if 0 ≤ m ∧ m ≤ 9999 then if 0 ≤ sf ∧ sf ≤ 91 then if 1 < sf - sf / 10 * 10 then -2 else if 0 ≤ ws ∧ ws ≤ 19 then s_says T (o_n p) (s_nm h (sf / 10) (sf - sf / 10 * 10) (ws / 10) (ws - ws / 10 * 10) m) else -2 else -2 else -2 else -2 else -2
