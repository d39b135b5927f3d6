/-! ===== the Model's sky, sheets, longs ===== -/
section MSK
variable {wk : Nat → Nat} {R1 R2 R3 g : sF} {d w : Nat}
theorem s_sky_ne (h : ∀ j, j % 4 ≠ 0 → g j = s_sky wk R1 R2 R3 j) {wk2 : Nat → Nat} {j : Nat} (hj : j % 4 ≠ 0) : g j = s_sky wk2 R1 R2 R3 j := by
  rw [h j hj]
  unfold s_sky
  rw [if_neg hj, if_neg hj]
theorem s_sky_way (h : ∀ j, j % 4 ≠ 0 → g j = s_sky wk R1 R2 R3 j) {f : sF} (hf : ∀ j, f j = if j % 4 = 0 ∧ j / 4 < d then nI w else g j) (hd : d = 14) : ∀ j, j < 56 → f j = s_sky (fun _ => w) R1 R2 R3 j := fun j hj => by
  rw [hf j]
  by_cases e : j % 4 = 0
  · rw [if_pos ⟨e, by omega⟩]
    unfold s_sky
    rw [if_pos e]
  · rw [if_neg (fun h9 => e h9.1)]
    exact s_sky_ne h e
theorem s_sky_up {f : sF} (hf : ∀ j, f j = if j % 4 = 0 ∧ j / 4 < d then nI w else g j) : ∀ j, upd f (4 * d) (nI w) j = if j % 4 = 0 ∧ j / 4 < d + 1 then nI w else g j := fun j => by
  by_cases e : j = 4 * d
  · rw [e, pk_us, if_pos (by omega)]
  · rw [pk_un e, hf j]
    by_cases q : j % 4 = 0 ∧ j / 4 < d
    · rw [if_pos q, if_pos (by omega)]
    · rw [if_neg q, if_neg (by omega)]
theorem s_sky_up0 : ∀ j, g j = if j % 4 = 0 ∧ j / 4 < 0 then nI w else g j := fun j => by rw [if_neg (by omega)]
theorem s_sky_away : ∀ j, j % 4 ≠ 0 → s_sky (fun _ => w) R1 R2 R3 j = s_sky wk R1 R2 R3 j := fun j hj => by
  unfold s_sky
  rw [if_neg hj, if_neg hj]
/-- one day's way -/
theorem s_sky_one (h : ∀ j, j ≠ 4 * d → g j = s_sky wk R1 R2 R3 j) : ∀ j, j < 56 → upd g (4 * d) (nI w) j = s_sky (b_nu wk d w) R1 R2 R3 j := fun j _ => by
  by_cases e : j = 4 * d
  · rw [e, pk_us, s_sky_0]
    unfold b_nu
    rw [if_pos rfl]
  · rw [pk_un e, h j e]
    unfold s_sky b_nu
    by_cases q : j % 4 = 0
    · rw [if_pos q, if_pos q, if_neg (show ¬ j / 4 = d by omega)]
    · rw [if_neg q, if_neg q]
theorem s_sky_rest : ∀ j, j ≠ 4 * d → s_sky (b_nu wk d w) R1 R2 R3 j = s_sky wk R1 R2 R3 j := fun j e => by
  unfold s_sky b_nu
  by_cases q : j % 4 = 0
  · rw [if_pos q, if_pos q, if_neg (show ¬ j / 4 = d by omega)]
  · rw [if_neg q, if_neg q]
theorem s_sky_back (h : ∀ j, j ≠ 4 * d → g j = s_sky wk R1 R2 R3 j) : ∀ j, j < 56 → upd g (4 * d) (nI (wk d)) j = s_sky wk R1 R2 R3 j := fun j _ => by
  by_cases e : j = 4 * d
  · rw [e, pk_us, s_sky_0]
  · rw [pk_un e, h j e]
/-! drawn -/
def o_sd (sd d : Nat) (g : sF) : sF := fun j => if j / 4 < d ∧ j % 4 = 0 then nI (s_lw sd (j / 4)) else if j / 4 < d ∧ j % 4 = 1 then nI (s_ls sd (j / 4)) else g j
theorem o_sd_0 {sd : Nat} : ∀ j, g j = o_sd sd 0 g j := fun j => by
  unfold o_sd
  rw [if_neg (by omega), if_neg (by omega)]
theorem o_sd_s {sd : Nat} {f : sF} (hf : ∀ j, f j = o_sd sd d g j) : ∀ j, upd (upd f (4 * d) (nIf (s_lw sd) d)) (4 * d + 1) (nIf (s_ls sd) d) j = o_sd sd (d + 1) g j := fun j => by
  by_cases e1 : j = 4 * d + 1
  · rw [e1, pk_us]
    unfold o_sd
    rw [if_neg (by omega), if_pos (by omega), show (4 * d + 1) / 4 = d by omega]
  · rw [pk_un e1]
    by_cases e0 : j = 4 * d
    · rw [e0, pk_us]
      unfold o_sd
      rw [if_pos (by omega), show 4 * d / 4 = d by omega]
    · rw [pk_un e0, hf j]
      unfold o_sd
      by_cases q0 : j / 4 < d ∧ j % 4 = 0
      · rw [if_pos q0, if_pos (show j / 4 < d + 1 ∧ j % 4 = 0 by omega)]
      · rw [if_neg q0, if_neg (show ¬ (j / 4 < d + 1 ∧ j % 4 = 0) by omega)]
        by_cases q1 : j / 4 < d ∧ j % 4 = 1
        · rw [if_pos q1, if_pos (show j / 4 < d + 1 ∧ j % 4 = 1 by omega)]
        · rw [if_neg q1, if_neg (show ¬ (j / 4 < d + 1 ∧ j % 4 = 1) by omega)]
theorem o_sd_e {sd : Nat} {f : sF} (hf : ∀ j, f j = o_sd sd d (s_sky wk R1 R2 R3) j) (hd : d = 14) : ∀ j, j < 56 → f j = s_sky (s_lw sd) (nIf (s_ls sd)) R2 R3 j := fun j hj => by
  rw [hf j]
  unfold o_sd s_sky
  by_cases q0 : j % 4 = 0
  · rw [if_pos (by omega), if_pos q0]
  · rw [if_neg (by omega), if_neg q0]
    by_cases q1 : j % 4 = 1
    · rw [if_pos (show j / 4 < d ∧ j % 4 = 1 by omega), if_neg q0, if_pos q1]
    · rw [if_neg (by omega), if_neg q1, if_neg q0, if_neg q1]
end MSK
/-! looks -/
def o_row (f : sF) (j : Nat) : sF := fun c => f (40 * j + c)
theorem s_ul_s {P : Nat → Bool} {c : Nat} (hc : c < 36) (h : P c = false) (hq : s_ul P (36 - c) c = s_ul P 36 0) : s_ul P (36 - (c + 1)) (c + 1) = s_ul P 36 0 := by
  rw [← hq, show 36 - c = (36 - (c + 1)) + 1 by omega, s_ul, if_neg (by rw [h]; decide)]
theorem s_ul_t {P : Nat → Bool} {c : Nat} (hc : c < 36) (h : P c = true) (hq : s_ul P (36 - c) c = s_ul P 36 0) : nI c = s_ul P 36 0 := by
  rw [← hq, show 36 - c = (36 - (c + 1)) + 1 by omega, s_ul, if_pos h]
theorem s_ul_e {P : Nat → Bool} {c : Nat} (hc : c = 36) (hq : s_ul P (36 - c) c = s_ul P 36 0) : -1 = s_ul P 36 0 := by
  rw [← hq, show 36 - c = 0 by omega]
  rfl
theorem s_ul_neg (P : Nat → Bool) : ∀ m i, i + m < 2 ^ 31 → (s_ul P m i = -1 ∨ 0 ≤ s_ul P m i)
  | 0, _, _ => Or.inl rfl
  | m + 1, i, h => by
    rw [s_ul]
    by_cases q : P i = true
    · rw [if_pos q]; exact Or.inr (nI_ge0 (by omega))
    · rw [if_neg q]; exact s_ul_neg P m (i + 1) (by omega)
theorem o_look_neg {g : sF} {s : sS} {u : Int32} (hu : u = o_look g s) : u < 0 ↔ u = -1 := by
  have h := s_ul_neg (fun j => decide (g j ≠ s.1 j + s.2.1 j)) 36 0 (by decide)
  have hu2 : u = s_ul (fun j => decide (g j ≠ s.1 j + s.2.1 j)) 36 0 := hu
  rw [← hu2] at h
  constructor
  · exact fun h9 => h.resolve_right (Int32.not_le.mpr h9)
  · intro e; rw [e]; decide
section OLW2
variable {G : sG} {TT : Nat → sT} {g : sF} {n t : Nat} {u : Int32}
theorem o_lwm_t (hu : u = o_look g (s_gone (o_lt G (TT t)) n)) (hl : u < 0) : o_lwb G TT g n t ||| (1 <<< (nI t &&& 31)) = o_lwb G TT g n (t + 1) := by
  rw [o_lwb]
  exact (if_pos (hu.symm.trans ((o_look_neg hu).mp hl))).symm
theorem o_lwm_f (hu : u = o_look g (s_gone (o_lt G (TT t)) n)) (hl : ¬ u < 0) : o_lwb G TT g n t = o_lwb G TT g n (t + 1) := by
  rw [o_lwb]
  exact (if_neg (fun e => hl ((o_look_neg hu).mpr (hu.trans e)))).symm
theorem o_wnm_t (hu : u = o_look g (s_gone (o_wd G (n - 1) t) n)) (hl : u < 0) : o_wnb G g n t ||| (1 <<< (nI t &&& 31)) = o_wnb G g n (t + 1) := by
  rw [o_wnb]
  exact (if_pos (hu.symm.trans ((o_look_neg hu).mp hl))).symm
theorem o_wnm_f (hu : u = o_look g (s_gone (o_wd G (n - 1) t) n)) (hl : ¬ u < 0) : o_wnb G g n t = o_wnb G g n (t + 1) := by
  rw [o_wnb]
  exact (if_neg (fun e => hl ((o_look_neg hu).mpr (hu.trans e)))).symm
end OLW2
def o_mfl (G : sG) (n : Nat) (f : sF) (j i : Nat) : sF := fun q => if 40 * j ≤ q ∧ q < 40 * j + i then (if q - 40 * j < 36 then o_sm (s_gone G n) (q - 40 * j) else 0) else f q
section MFL
variable {G : sG} {n j i : Nat} {f g : sF} {D W cv h o : sF} {fe rt rk ct : Int32}
theorem o_mfl_0 : ∀ q, f q = o_mfl G n f j 0 q := fun q => by
  unfold o_mfl
  rw [if_neg (by omega)]
theorem o_mfl_s (hg : ∀ q, g q = o_mfl G n f j i q) {v : Int32} (hv : v = if i < 36 then o_sm (s_gone G n) i else 0) : ∀ q, upd g (40 * j + i) v q = o_mfl G n f j (i + 1) q := fun q => by
  by_cases e : q = 40 * j + i
  · rw [e, pk_us]
    unfold o_mfl
    rw [if_pos (show 40 * j ≤ 40 * j + i ∧ 40 * j + i < 40 * j + (i + 1) by omega), show 40 * j + i - 40 * j = i by omega]
    exact hv
  · rw [pk_un e, hg q]
    unfold o_mfl
    by_cases k : 40 * j ≤ q ∧ q < 40 * j + i
    · rw [if_pos k, if_pos (show 40 * j ≤ q ∧ q < 40 * j + (i + 1) by omega)]
    · rw [if_neg k, if_neg (show ¬ (40 * j ≤ q ∧ q < 40 * j + (i + 1)) by omega)]
end MFL
def o_mfilm_so (f : sF) (s n : Int32) : sF := if 0 ≤ s ∧ s ≤ 3 then if 0 ≤ n ∧ n ≤ 14 then upd f (o_n s) 2 else f else f
def o_mfilm_sz (f : sF) (s n : Int32) : sF := if 0 ≤ s ∧ s ≤ 3 then if 0 ≤ n ∧ n ≤ 14 then upd f (o_n s) 36 else f else f
def o_mfilm_g (G : sG) (f : sF) (s n : Int32) : sF := if 0 ≤ s ∧ s ≤ 3 then if 0 ≤ n ∧ n ≤ 14 then o_mfl G (o_n n) f (o_n s) 40 else f else f
/-! plots -/
theorem o_lay_ft {f : sF} {c : Nat} {k m v : Int32} (hc : c < 36) (hk : (0 ≤ k ∧ k ≤ 5) ∧ 0 ≤ m ∧ m ≤ 99) : o_lay_f f (nI c) k m v = upd f c v := by
  unfold o_lay_f
  rw [if_pos ⟨nI_ge0 (by omega), (nI_leI (b := 35) (by omega) (by decide)).mpr (by omega)⟩, if_pos hk, o_n_nI (by omega)]
/-! longs of ints -/
theorem q_tl (x : Int32) : x.toInt64.toInt = x.toInt := Int32.toInt_toInt64 x
theorem q_ladd {x y : Int64} (h1 : -9223372036854775808 ≤ x.toInt + y.toInt) (h2 : x.toInt + y.toInt < 9223372036854775808) : (x + y).toInt = x.toInt + y.toInt := by
  rw [Int64.toInt_add]
  exact Int.bmod_eq_of_le (by omega) (by omega)
theorem q_cmpl_gt {x y : Int64} : 0 < lg_cmp x y ↔ y.toInt < x.toInt := by
  rw [lg_cmp_gt, Int64.lt_iff_toInt_lt]
theorem q_cmpl_le {x y : Int64} : lg_cmp x y ≤ 0 ↔ x.toInt ≤ y.toInt := by
  rw [lg_cmp_le, Int64.le_iff_toInt_le]
theorem q_cmpl_lt {x y : Int64} : lg_cmp x y < 0 ↔ x.toInt < y.toInt := by
  rw [lg_cmp_lt, Int64.lt_iff_toInt_lt]
theorem q_lsum {i n : Int32} : (i.toInt64 + n.toInt64).toInt = i.toInt + n.toInt := by
  have h1 := fb9_rng i
  have h2 := fb9_rng n
  rw [q_ladd (by rw [q_tl, q_tl]; omega) (by rw [q_tl, q_tl]; omega), q_tl, q_tl]
theorem q_lsz {z : Nat} (h : z ≤ 40) : (nI z).toInt64.toInt = z := by
  rw [q_tl, nI_toInt (by omega)]
/-- the Model's copy is refused -/
theorem o_copy_x {nz nz2 : Nat} {i j n : Int32} (h40 : nz ≤ 40) (h42 : nz2 ≤ 40) (h : i < 0 ∨ j < 0 ∨ n < 0 ∨ 0 < lg_cmp (i.toInt64 + n.toInt64) (nI nz).toInt64 ∨ 0 < lg_cmp (j.toInt64 + n.toInt64) (nI nz2).toInt64) : ¬ (¬ n < 0 ∧ (0 ≤ i ∧ i ≤ nI nz - n) ∧ 0 ≤ j ∧ j ≤ nI nz2 - n) := fun ⟨h1, h2, h3⟩ => by
  have e1 := (q_spani h40 h1).mp h2
  have e2 := (q_spani h42 h1).mp h3
  rw [q_lt0, q_lt0, q_lt0, q_cmpl_gt, q_cmpl_gt, q_lsum, q_lsum, q_lsz h40, q_lsz h42] at h
  rw [q_lt0] at h1
  omega
theorem o_copy_y {nz nz2 : Nat} {i j n : Int32} (h40 : nz ≤ 40) (h42 : nz2 ≤ 40) (hi : ¬ i < 0) (hj : ¬ j < 0) (hn : ¬ n < 0) (h1 : ¬ 0 < lg_cmp (i.toInt64 + n.toInt64) (nI nz).toInt64) (h2 : lg_cmp (j.toInt64 + n.toInt64) (nI nz2).toInt64 ≤ 0) : (0 ≤ i ∧ i ≤ nI nz - n) ∧ 0 ≤ j ∧ j ≤ nI nz2 - n := by
  rw [q_cmpl_gt, q_lsum, q_lsz h40] at h1
  rw [q_cmpl_le, q_lsum, q_lsz h42] at h2
  rw [q_lt0] at hi hj
  exact ⟨(q_spani h40 hn).mpr (by omega), (q_spani h42 hn).mpr (by omega)⟩
def o_mcp (f : sF) (a b z : Nat) : sF := fun q => if b ≤ q ∧ q < b + z then f (a + (q - b)) else f q
def o_mcopy_g (f : sF) (so so2 : Int32) (nz nz2 : Nat) (s i t j n : Int32) : sF := if 0 ≤ s ∧ s ≤ 3 then if 0 ≤ t ∧ t ≤ 3 then if so = -1 then f else if so2 = -1 then f else if so = so2 then if n < 0 then f else if 0 ≤ i ∧ i ≤ nI nz - n then if 0 ≤ j ∧ j ≤ nI nz2 - n then o_mcp f (40 * o_n s + o_n i) (40 * o_n t + o_n j) (o_n n) else f else f else f else f else f
section MCP
variable {f g sp : sF} {a b z k : Nat}
theorem o_mcp_0 : ∀ q, f q = if b ≤ q ∧ q < b + 0 then f (a + (q - b)) else f q := fun q => by rw [if_neg (by omega)]
theorem o_mcp_s (hg : ∀ q, g q = if b ≤ q ∧ q < b + k then f (a + (q - b)) else f q) {v : Int32} (hv : v = f (a + k)) : ∀ q, upd g (b + k) v q = if b ≤ q ∧ q < b + (k + 1) then f (a + (q - b)) else f q := fun q => by
  by_cases e : q = b + k
  · rw [e, pk_us, if_pos (by omega), hv, show b + k - b = k by omega]
  · rw [pk_un e, hg q]
    by_cases h : b ≤ q ∧ q < b + k
    · rw [if_pos h, if_pos (by omega)]
    · rw [if_neg h, if_neg (by omega)]
end MCP
/-- trees by a row: the Model's bounds, by longs -/
theorem q_lmul3 {k : Nat} (hk : k ≤ 4) : ((3 : Int64) * (nI k).toInt64).toInt = 3 * k := by
  rcases (show k = 0 ∨ k = 1 ∨ k = 2 ∨ k = 3 ∨ k = 4 by omega) with rfl | rfl | rfl | rfl | rfl <;> decide
theorem q_at3l {at9 : Int32} {k : Nat} (hk : k ≤ 4) : (at9.toInt64 + 3 * (nI k).toInt64).toInt = at9.toInt + 3 * k := by
  have h := fb9_rng at9
  rw [q_ladd (by rw [q_tl, q_lmul3 hk]; omega) (by rw [q_tl, q_lmul3 hk]; omega), q_tl, q_lmul3 hk]
theorem q_at3l2 {at9 : Int32} {k : Nat} (hk : k ≤ 4) : (at9.toInt64 + 3 * (nI k).toInt64 + 2).toInt = at9.toInt + 3 * k + 2 := by
  have h := fb9_rng at9
  have e2 : (2 : Int64).toInt = 2 := rfl
  rw [q_ladd (by rw [q_at3l hk, e2]; omega) (by rw [q_at3l hk, e2]; omega), q_at3l hk, e2]
theorem q_at3m {nz k : Nat} {at9 : Int32} (h40 : nz ≤ 40) (hk : k ≤ 4) : (0 ≤ at9 ∧ at9 ≤ nI nz - 3 * nI k - 3) ↔ ¬ lg_cmp (at9.toInt64 + 3 * (nI k).toInt64) 0 < 0 ∧ lg_cmp (at9.toInt64 + 3 * (nI k).toInt64 + 2) (nI nz).toInt64 < 0 ∧ 0 ≤ at9.toInt := by
  rw [q_at3i h40 hk, q_cmpl_lt, q_cmpl_lt, q_at3l hk, q_at3l2 hk, q_lsz h40]
  have e0 : (0 : Int64).toInt = 0 := rfl
  rw [e0]
  omega
