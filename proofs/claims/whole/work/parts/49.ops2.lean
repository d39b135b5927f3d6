def o_cells (a b c : sF) : sF := fun q => if q < 36 then a q else if q < 72 then b (q - 36) else c (q - 72)
def o_cel (a b c old : sF) (n : Nat) : sF := fun q => if q < n then a q else if 36 ≤ q ∧ q < 36 + n then b (q - 36) else if 72 ≤ q ∧ q < 72 + n then c (q - 72) else old q
theorem q_cells_0 {a b c old : sF} : ∀ j, old j = o_cel a b c old 0 j := fun j => by
  unfold o_cel
  rw [if_neg (by omega), if_neg (by omega), if_neg (by omega)]
theorem q_cells_s {a b c old g : sF} {n : Nat} (hn : n < 36) (h : ∀ j, g j = o_cel a b c old n j) : ∀ j, upd (upd (upd g n (a n)) (36 + n) (b n)) (72 + n) (c n) j = o_cel a b c old (n + 1) j := fun j => by
  unfold o_cel
  by_cases e3 : j = 72 + n
  · subst e3
    rw [pk_us, if_neg (by omega), if_neg (by omega), if_pos (by omega), show 72 + n - 72 = n by omega]
  · rw [pk_un e3]
    by_cases e2 : j = 36 + n
    · subst e2
      rw [pk_us, if_neg (by omega), if_pos (by omega), show 36 + n - 36 = n by omega]
    · rw [pk_un e2]
      by_cases e1 : j = n
      · subst e1
        rw [pk_us, if_pos (by omega)]
      · rw [pk_un e1, h j]
        unfold o_cel
        by_cases k1 : j < n
        · rw [if_pos k1, if_pos (show j < n + 1 by omega)]
        · rw [if_neg k1, if_neg (show ¬ j < n + 1 by omega)]
          by_cases k2 : 36 ≤ j ∧ j < 36 + n
          · rw [if_pos k2, if_pos (show 36 ≤ j ∧ j < 36 + (n + 1) by omega)]
          · rw [if_neg k2, if_neg (show ¬ (36 ≤ j ∧ j < 36 + (n + 1)) by omega)]
            by_cases k3 : 72 ≤ j ∧ j < 72 + n
            · rw [if_pos k3, if_pos (show 72 ≤ j ∧ j < 72 + (n + 1) by omega)]
            · rw [if_neg k3, if_neg (show ¬ (72 ≤ j ∧ j < 72 + (n + 1)) by omega)]
theorem q_cells_e {a b c old g : sF} (h : ∀ j, g j = o_cel a b c old 36 j) : ∀ j, j < 108 → g j = o_cells a b c j := fun j hj => by
  rw [h j]
  unfold o_cel o_cells
  by_cases k1 : j < 36
  · rw [if_pos k1, if_pos k1]
  · rw [if_neg k1, if_neg k1]
    by_cases k2 : j < 72
    · rw [if_pos (show 36 ≤ j ∧ j < 36 + 36 by omega), if_pos k2]
    · rw [if_neg (show ¬ (36 ≤ j ∧ j < 36 + 36) by omega), if_pos (show 72 ≤ j ∧ j < 72 + 36 by omega), if_neg k2]
theorem q_cells_1 {a b c : sF} {n : Nat} (h : n < 36) : o_cells a b c n = a n := if_pos h
theorem q_cells_2 {a b c : sF} {n : Nat} (h : n < 36) : o_cells a b c (36 + n) = b n := by
  unfold o_cells
  rw [if_neg (by omega), if_pos (by omega), show 36 + n - 36 = n by omega]
theorem q_cells_3 {a b c : sF} {n : Nat} (h : n < 36) : o_cells a b c (72 + n) = c n := by
  unfold o_cells
  rw [if_neg (by omega), if_neg (by omega), show 72 + n - 72 = n by omega]
def o_sheet (s t n : Int32) : Int32 := if 0 ≤ s ∧ s ≤ 3 then if -1 ≤ t ∧ t ≤ 2 then if t = -1 then 1 else if n ≤ 40 then if 0 ≤ n then 1 else -14 else -2 else -2 else -2
def o_sheet_so (so s t n : Int32) : Int32 := if 0 ≤ s ∧ s ≤ 3 then if -1 ≤ t ∧ t ≤ 2 then if t = -1 then t else if n ≤ 40 then if 0 ≤ n then t else so else so else so else so
def o_sheet_sz (sz s t n : Int32) : Int32 := if 0 ≤ s ∧ s ≤ 3 then if -1 ≤ t ∧ t ≤ 2 then if t = -1 then 0 else if n ≤ 40 then if 0 ≤ n then n else sz else sz else sz else sz
def o_sheet_g (g : sF) (s t n : Int32) : sF := if 0 ≤ s ∧ s ≤ 3 then if -1 ≤ t ∧ t ≤ 2 then if t = -1 then (fun _ => 0) else if n ≤ 40 then if 0 ≤ n then (fun _ => 0) else g else g else g else g
theorem q_size {nz : Nat} {i : Int32} (h4 : nz ≤ 40) (h : 0 ≤ i ∧ i ≤ nI nz - 1) : ∃ j, j < nz ∧ i = nI j := by
  rcases Nat.eq_zero_or_pos nz with h0 | h0
  · subst h0
    exact absurd (Int32.le_trans h.1 h.2) (by decide)
  · rw [show nI nz - 1 = nI (nz - 1) from q_isub rfl rfl (by omega)] at h
    obtain ⟨j, hj, e⟩ := q_w (n := nz - 1) rfl (by omega) h
    exact ⟨j, by omega, e⟩
def o_cell (so : Int32) (nz : Nat) (s i v : Int32) : Int32 := if 0 ≤ s ∧ s ≤ 3 then if so = -1 then -11 else if 0 ≤ i ∧ i ≤ nI nz - 1 then 1 else -12 else -2
def o_cell_g (g : sF) (so : Int32) (nz : Nat) (s i v : Int32) : sF := if 0 ≤ s ∧ s ≤ 3 then if so = -1 then g else if 0 ≤ i ∧ i ≤ nI nz - 1 then upd g (o_n i) (s_cut so v) else g else g
def o_msheet_so (f : sF) (s t n : Int32) : sF := if 0 ≤ s ∧ s ≤ 3 then if -1 ≤ t ∧ t ≤ 2 then if t = -1 then upd f (o_n s) (-1) else if n ≤ 40 then if 0 ≤ n then upd f (o_n s) t else f else f else f else f
def o_msheet_sz (f : sF) (s t n : Int32) : sF := if 0 ≤ s ∧ s ≤ 3 then if -1 ≤ t ∧ t ≤ 2 then if t = -1 then f else if n ≤ 40 then if 0 ≤ n then upd f (o_n s) n else f else f else f else f
def o_wipe (g : sF) (j i : Nat) : sF := fun q => if 40 * j ≤ q ∧ q < 40 * j + i then 0 else g q
theorem q_wipe_0 {g : sF} {j : Nat} : ∀ q, g q = o_wipe g j 0 q := fun q => by
  unfold o_wipe
  rw [if_neg (by omega)]
theorem q_wipe_s {g f : sF} {j i : Nat} (h : ∀ q, f q = o_wipe g j i q) : ∀ q, upd f (40 * j + i) 0 q = o_wipe g j (i + 1) q := fun q => by
  unfold o_wipe
  by_cases e : q = 40 * j + i
  · subst e
    rw [pk_us, if_pos (by omega)]
  · rw [pk_un e, h q]
    unfold o_wipe
    by_cases k : 40 * j ≤ q ∧ q < 40 * j + i
    · rw [if_pos k, if_pos (show 40 * j ≤ q ∧ q < 40 * j + (i + 1) by omega)]
    · rw [if_neg k, if_neg (show ¬ (40 * j ≤ q ∧ q < 40 * j + (i + 1)) by omega)]
def o_msheet_g (g : sF) (s t n : Int32) : sF := if 0 ≤ s ∧ s ≤ 3 then if -1 ≤ t ∧ t ≤ 2 then if t = -1 then g else if n ≤ 40 then if 0 ≤ n then o_wipe g (o_n s) 40 else g else g else g else g
def o_mcell_g (g : sF) (so : Int32) (nz : Nat) (s i v : Int32) : sF := if 0 ≤ s ∧ s ≤ 3 then if so = -1 then g else if 0 ≤ i ∧ i ≤ nI nz - 1 then upd g (40 * o_n s + o_n i) (s_cut so v) else g else g
