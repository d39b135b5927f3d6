/-! ===== what a law says ===== -/
/-- left strong frost wet sort many -/
def s_nm (le so fr we ts my : Int32) : Nat → Int32 := fun j => if j = 0 then le else if j = 1 then so else if j = 2 then fr else if j = 3 then we else if j = 4 then ts else my
def s_tru (b : Prop) [Decidable b] : Int32 := if b then 1 else 0
def s_turn (op v : Int32) : Int32 := if op = -7 then -v else s_tru (v = 0)
def s_join (op v w : Int32) : Int32 := if op = -9 then v + w else if op = -10 then v - w else if op = -11 then v * w else if op = -12 then s_tru (v < w) else if op = -13 then s_tru (v = w) else if op = -14 then s_tru (v ≠ 0 ∧ w ≠ 0) else s_tru (v ≠ 0 ∨ w ≠ 0)
abbrev sF : Type := Nat → Int32
def s_st (nm : sF) (s : sF × Nat) (op : Int32) : sF × Nat :=
  if -6 ≤ op then (upd s.1 s.2 (if 0 ≤ op then op else nm (-1 - op).toNatClampNeg), s.2 + 1)
  else if -8 ≤ op then (upd s.1 (s.2 - 1) (s_turn op (s.1 (s.2 - 1))), s.2)
  else (upd s.1 (s.2 - 1 - 1) (s_join op (s.1 (s.2 - 1 - 1)) (s.1 (s.2 - 1))), s.2 - 1)
def s_dp (d : Option Nat) (op : Int32) : Option Nat := match d with
  | none => none
  | some d => if -6 ≤ op then some (d + 1) else if -8 ≤ op then (if 1 ≤ d then some d else none) else if -15 ≤ op then (if 2 ≤ d then some (d - 1) else none) else none
def s_run (nm : sF) (l : List Int32) (s : sF × Nat) : sF × Nat := l.foldl (s_st nm) s
def s_val (nm : sF) (l : List Int32) : Int32 := (s_run nm l (fun _ => 0, 0)).1 0
abbrev sT : Type := Nat → List Int32
def s_off (T : sT) (p : Nat) : Nat := if p = 0 then 0 else if p = 1 then (T 0).length else if p = 2 then (T 0).length + (T 1).length else (T 0).length + (T 1).length + (T 2).length
def s_most (p : Nat) : Int32 := if p = 0 then 999 else 100
def s_clamp (m v : Int32) : Int32 := if 0 < (if v < m then v else m) then (if v < m then v else m) else 0
def s_says (T : sT) (p : Nat) (nm : sF) : Int32 := s_clamp (s_most p) (s_val nm (T p))
/-- a text that can be asked -/
def s_ok (T : sT) : Prop := (∀ p, p < 3 → (T p).foldl s_dp (some 0) = some 1) ∧ s_off T 3 ≤ 160
/-- the class' rows hold a text -/
def s_law (cd en : sF) (T : sT) : Prop := (∀ p, p < 3 → en p = nI (s_off T (p + 1))) ∧ ∀ p, p < 3 → ∀ j, j < (T p).length → cd (s_off T p + j) = (T p).getD j 0
/-! ===== a day ===== -/
def s_min (x y : Int32) : Int32 := if y < x then y else x
/-- of some of a cell as many by 100 as the law says -/
def s_pt (T : sT) (p : Nat) (so fr we some many : Int32) : Int32 := if some = 0 then 0 else some * s_says T p (s_nm 0 so fr we 0 many) / 100
def s_goff (kd mo z : Int32) : Int32 := if kd = 1 then z / 2 else if kd = 3 then s_min (z / 2) mo else if kd = 4 then (if z - mo < 0 then 0 else z - mo) else z
def s_come (kd mo z : Int32) : Int32 := if kd = 2 then 0 else if kd = 5 then s_min z mo else z
/-- the cell one on by a way -/
def s_on (w c : Nat) : Option Nat := if w = 0 then (if c < 30 then some (c + 6) else none) else if w = 1 then (if c % 6 < 5 then some (c + 1) else none) else if w = 2 then (if 5 < c then some (c - 6) else none) else (if 0 < c % 6 then some (c - 1) else none)
def s_cm (kd mo : sF) (t : Option Nat) (z : Int32) : Int32 := match t with
  | none => z
  | some t => s_come (kd t) (mo t) z
/-- how many blow off a cell, dry or wet -/
def s_mv (T : sT) (kd mo : sF) (w : Nat) (so fr we : Int32) (X D W : sF) (c : Nat) : Int32 :=
  if X c = 0 then 0 else s_cm kd mo (s_on w c) (s_goff (kd c) (mo c) (s_pt T 1 so fr we (X c) (D c + W c)))
def s_to (X : sF) (c : Nat) (t : Option Nat) (g : Int32) : sF := match t with
  | none => upd X c (X c - g)
  | some t => upd (upd X c (X c - g)) t (X t + g)
def s_bl (w : Nat) (gD gW D W : sF) (o : Int32) : Nat → sF × sF × Int32
  | 0 => (D, W, o)
  | n + 1 => let q := s_bl w gD gW D W o n; (s_to q.1 n (s_on w n) (gD n), s_to q.2.1 n (s_on w n) (gW n), if s_on w n = none then q.2.2 + (gD n + gW n) else q.2.2)
def s_blow (T : sT) (kd mo : sF) (w : Nat) (so fr : Int32) (D W : sF) (o : Int32) : sF × sF × Int32 := s_bl w (s_mv T kd mo w so fr 0 D D W) (s_mv T kd mo w so fr 1 W D W) D W o 36
def s_go (rn : Int32) (D W : sF) : sF := fun c => if rn = 1 then -(D c) else W c / 2
/-- how many fall of a tree -/
def s_k (T : sT) (so fr rn : Int32) (ts h : sF) (t : Nat) : Int32 := s_min (h t) (s_says T 0 (s_nm (h t) so fr rn (ts t) 0))
def s_acc (f : Int32) (k : sF) : Nat → Int32
  | 0 => f
  | n + 1 => s_acc f k n + k n
def s_drop (tk : Nat → Nat) (k x : sF) : Nat → sF
  | 0 => x
  | n + 1 => upd (s_drop tk k x n) (tk n) (s_drop tk k x n (tk n) + k n)
def s_dropD (rn : Int32) (tk : Nat → Nat) (k x : sF) (n : Nat) : sF := if rn = 1 then x else s_drop tk k x n
def s_dropW (rn : Int32) (tk : Nat → Nat) (k x : sF) (n : Nat) : sF := if rn = 1 then s_drop tk k x n else x
def s_left (n : Nat) (k h : sF) : sF := fun t => if t < n then h t - k t else h t
/-- how many rot -/
def s_rt (T : sT) (so fr we : Int32) (X D W : sF) (c : Nat) : Int32 := s_pt T 2 so fr we (X c) (D c + W c)
def s_sum (f : sF) : Nat → Int32
  | 0 => 0
  | n + 1 => s_sum f n + f n
def s_rots (rD rW : sF) (r : Int32) : Nat → Int32
  | 0 => r
  | n + 1 => s_rots rD rW r n + rD n + rW n
/-- a set's bit below 36, whichever way it is looked at -/
def s_nr (P : Nat → Bool) (c : Int32) : Nat → Int32
  | 0 => -1
  | e + 1 => if P e = true ∧ (s_nr P c e < 0 ∨ s_far c (nI e) < s_far c (s_nr P c e)) then nI e else s_nr P c e
def s_cs (P : Nat → Bool) (D W : sF) : Nat → Int32 × Int64
  | 0 => (0, 0)
  | n + 1 => let q := s_cs P D W n; if D n + 4 * W n = 0 then q else (q.1 + (D n + 4 * W n) * s_far (nI n) (s_nr P (nI n) 36), q.2 ||| (1 <<< ((s_nr P (nI n) 36).toInt64 &&& 63)))
/-! facts about asking -/
theorem s_off_succ (T : sT) {p : Nat} (hp : p < 3) : s_off T (p + 1) = s_off T p + (T p).length := by
  rcases (show p = 0 ∨ p = 1 ∨ p = 2 by omega) with rfl | rfl | rfl <;> simp [s_off]
theorem s_off_le (T : sT) {p : Nat} (hp : p < 3) : s_off T (p + 1) ≤ s_off T 3 := by
  rcases (show p = 0 ∨ p = 1 ∨ p = 2 by omega) with rfl | rfl | rfl <;> simp [s_off] <;> omega
theorem s_take {l : List Int32} {t : Nat} {op : Int32} (ht : t < l.length) (hop : op = l.getD t 0) : l.take (t + 1) = l.take t ++ [op] := by
  rw [List.take_succ, hop, List.getD_eq_getElem?_getD, List.getElem?_eq_getElem ht]
  rfl
theorem s_run_succ (nm : sF) (s : sF × Nat) {l : List Int32} {t : Nat} {op : Int32} (ht : t < l.length) (hop : op = l.getD t 0) : s_run nm (l.take (t + 1)) s = s_st nm (s_run nm (l.take t) s) op := by
  unfold s_run
  rw [s_take ht hop, List.foldl_append]
  rfl
theorem s_dpl_succ (s : Option Nat) {l : List Int32} {t : Nat} {op : Int32} (ht : t < l.length) (hop : op = l.getD t 0) : (l.take (t + 1)).foldl s_dp s = s_dp ((l.take t).foldl s_dp s) op := by
  rw [s_take ht hop, List.foldl_append]
  rfl
theorem s_dp_none : ∀ l : List Int32, l.foldl s_dp none = none
  | [] => rfl
  | a :: l => s_dp_none l
theorem s_dp_some {l : List Int32} {d : Nat} (h : l.foldl s_dp (some 0) = some d) (t : Nat) : ∃ e, (l.take t).foldl s_dp (some 0) = some e := by
  cases h2 : (l.take t).foldl s_dp (some 0) with
  | some e => exact ⟨e, rfl⟩
  | none =>
    rw [← List.take_append_drop t l, List.foldl_append, h2, s_dp_none] at h
    cases h
theorem s_dp_next {l : List Int32} {e t d : Nat} {op : Int32} (h : l.foldl s_dp (some 0) = some e) (ht : t < l.length) (hop : op = l.getD t 0) (hd : (l.take t).foldl s_dp (some 0) = some d) : ∃ d', s_dp (some d) op = some d' := by
  obtain ⟨d', h2⟩ := s_dp_some h (t + 1)
  rw [s_dpl_succ _ ht hop, hd] at h2
  exact ⟨d', h2⟩
theorem s_dp_un {d : Nat} {op : Int32} (h : ∃ d', s_dp (some d) op = some d') (h6 : ¬ -6 ≤ op) (h8 : -8 ≤ op) : 1 ≤ d ∧ s_dp (some d) op = some d := by
  obtain ⟨d', h⟩ := h
  by_cases q : 1 ≤ d
  · exact ⟨q, by simp [s_dp, h6, h8, q]⟩
  · simp [s_dp, h6, h8, q] at h
theorem s_dp_bi {d : Nat} {op : Int32} (h : ∃ d', s_dp (some d) op = some d') (h6 : ¬ -6 ≤ op) (h8 : ¬ -8 ≤ op) : 2 ≤ d ∧ s_dp (some d) op = some (d - 1) := by
  obtain ⟨d', h⟩ := h
  by_cases q : 2 ≤ d
  · by_cases q5 : -15 ≤ op
    · exact ⟨q, by simp [s_dp, h6, h8, q, q5]⟩
    · simp [s_dp, h6, h8, q5] at h
  · by_cases q5 : -15 ≤ op
    · simp [s_dp, h6, h8, q, q5] at h
    · simp [s_dp, h6, h8, q5] at h
theorem q_dec {d : Nat} (h : 1 ≤ d) : nI d + Int32.ofInt (-1) = nI (d - 1) := by
  obtain ⟨j, rfl⟩ : ∃ j, d = j + 1 := ⟨d - 1, by omega⟩
  exact pk_m1 j
theorem fb2_sub {op : Int32} (h1 : -6 ≤ op) (h2 : ¬ 0 ≤ op) : (-1 - op).toInt = -1 - op.toInt := by
  rw [Int32.le_iff_toInt_le] at h1 h2
  have e6 : (-6 : Int32).toInt = -6 := rfl
  have e0 : (0 : Int32).toInt = 0 := rfl
  have e1 : (-1 : Int32).toInt = -1 := rfl
  rw [e6] at h1
  rw [e0] at h2
  rw [Int32.toInt_sub, e1]
  exact Int.bmod_eq_of_le (by omega) (by omega)
/-- the place of a name -/
theorem q_nmix {op : Int32} (h1 : -6 ≤ op) (h2 : ¬ 0 ≤ op) : -1 - op = nI (-1 - op).toNatClampNeg ∧ (-1 - op).toNatClampNeg < 6 := by
  have h3 : (-1 - op).toInt = -1 - op.toInt := fb2_sub h1 h2
  rw [Int32.le_iff_toInt_le] at h1 h2
  have e6 : (-6 : Int32).toInt = -6 := rfl
  have e0 : (0 : Int32).toInt = 0 := rfl
  rw [e6] at h1
  rw [e0] at h2
  obtain ⟨j, hj, e⟩ := vp_in_of (n := 6) (x := -1 - op) (vp_in_iff.mpr ⟨by omega, by omega⟩) (by decide)
  rw [e, nI_clamp (by omega)]
  exact ⟨rfl, hj⟩
/-- what stands below the depth alone matters -/
theorem s_run_eq (nm : sF) : ∀ (l : List Int32) (f g : sF) (d : Nat), (∀ j, j < d → f j = g j) → (∀ e, l.foldl s_dp (some d) = some e → (s_run nm l (f, d)).2 = e ∧ (s_run nm l (g, d)).2 = e ∧ ∀ j, j < e → (s_run nm l (f, d)).1 j = (s_run nm l (g, d)).1 j)
  | [], f, g, d, h, e, he => by
    cases he
    exact ⟨rfl, rfl, h⟩
  | op :: l, f, g, d, h, e, he => by
    rw [List.foldl_cons] at he
    have hd : ∃ d', s_dp (some d) op = some d' := by
      cases hq : s_dp (some d) op with
      | some x => exact ⟨x, rfl⟩
      | none => rw [hq, s_dp_none] at he; cases he
    show (s_run nm l (s_st nm (f, d) op)).2 = e ∧ (s_run nm l (s_st nm (g, d) op)).2 = e ∧ ∀ j, j < e → (s_run nm l (s_st nm (f, d) op)).1 j = (s_run nm l (s_st nm (g, d) op)).1 j
    by_cases h6 : -6 ≤ op
    · have e1 : s_dp (some d) op = some (d + 1) := by simp [s_dp, h6]
      rw [e1] at he
      simp only [s_st, h6, if_true]
      refine s_run_eq nm l _ _ (d + 1) (fun j hj => ?_) e he
      by_cases q : j = d
      · subst q; rw [pk_us, pk_us]
      · rw [pk_un q, pk_un q]; exact h j (by omega)
    · by_cases h8 : -8 ≤ op
      · obtain ⟨h1, e1⟩ := s_dp_un hd h6 h8
        rw [e1] at he
        simp only [s_st, h6, h8, if_true, if_false]
        refine s_run_eq nm l _ _ d (fun j hj => ?_) e he
        rw [h (d - 1) (by omega)]
        by_cases q : j = d - 1
        · subst q; rw [pk_us, pk_us]
        · rw [pk_un q, pk_un q]; exact h j (by omega)
      · obtain ⟨h1, e1⟩ := s_dp_bi hd h6 h8
        rw [e1] at he
        simp only [s_st, h6, h8, if_false]
        refine s_run_eq nm l _ _ (d - 1) (fun j hj => ?_) e he
        rw [h (d - 1) (by omega), h (d - 1 - 1) (by omega)]
        by_cases q : j = d - 1 - 1
        · subst q; rw [pk_us, pk_us]
        · rw [pk_un q, pk_un q]; exact h j (by omega)
theorem s_val_of {nm : sF} {l : List Int32} {f : sF} (h : l.foldl s_dp (some 0) = some 1) : (s_run nm l (f, 0)).1 0 = s_val nm l := ((s_run_eq nm l f (fun _ => 0) 0 (fun j hj => absurd hj (Nat.not_lt_zero j)) 1 h).2.2 0 (by decide))
theorem q_nlt {x y : Int32} (h : ¬ x < y) : y ≤ x := Int32.not_lt.mp h
theorem q_nle {x y : Int32} (h : x < y) : ¬ y ≤ x := Int32.not_le.mpr h
theorem s_dp_le : ∀ (l : List Int32) (d e : Nat), l.foldl s_dp (some d) = some e → e ≤ d + l.length
  | [], d, e, h => by cases h; exact Nat.le_refl _
  | op :: l, d, e, h => by
    rw [List.foldl_cons] at h
    have hd : ∃ d', s_dp (some d) op = some d' := by
      cases hq : s_dp (some d) op with
      | some x => exact ⟨x, rfl⟩
      | none => rw [hq, s_dp_none] at h; cases h
    rw [List.length_cons]
    by_cases h6 : -6 ≤ op
    · have e1 : s_dp (some d) op = some (d + 1) := by simp [s_dp, h6]
      rw [e1] at h
      have := s_dp_le l _ _ h
      omega
    · by_cases h8 : -8 ≤ op
      · rw [(s_dp_un hd h6 h8).2] at h
        have := s_dp_le l _ _ h
        omega
      · rw [(s_dp_bi hd h6 h8).2] at h
        have := s_dp_le l _ _ h
        omega
def s_cv (kd D W cv : sF) : sF := fun j => if kd j = 0 ∧ 20 ≤ D j + W j then cv j + 1 else cv j
def s_ul (P : Nat → Bool) : Nat → Nat → Int32
  | 0, _ => -1
  | m + 1, i => if P i then nI i else s_ul P m (i + 1)
/-- Long.bitCount -/
def s_b0 (x : Int64) : Int64 := x - (s_u x 1 &&& 6148914691236517205)
def s_b2 (x : Int64) : Int64 := (x &&& 3689348814741910323) + (s_u x 2 &&& 3689348814741910323)
def s_b3 (x : Int64) : Int64 := (x + s_u x 4) &&& 1085102592571150095
def s_b4 (k : Int32) (x : Int64) : Int64 := x + s_u x k
def s_bc (x : Int64) : Int32 := (s_b4 32 (s_b4 16 (s_b4 8 (s_b3 (s_b2 (s_b0 x)))))).toInt32 &&& 127
def s_cost (P : Nat → Bool) (D W : sF) : Int32 := (s_cs P D W 36).1 + 30 * s_bc (s_cs P D W 36).2
/-! filling rows by turns -/
theorem q_up {g A B : sF} {i : Nat} {v : Int32} (hg : ∀ j, g j = if j < i then A j else B j) (hv : v = A i) : ∀ j, upd g i v j = if j < i + 1 then A j else B j := by
  intro j
  by_cases e : j = i
  · subst e; rw [pk_us, if_pos (Nat.lt_succ_self _), hv]
  · rw [pk_un e, hg j]
    by_cases q : j < i
    · rw [if_pos q, if_pos (by omega)]
    · rw [if_neg q, if_neg (by omega)]
theorem q_at {g A B : sF} {i : Nat} (hg : ∀ j, g j = if j < i then A j else B j) : g i = B i := by rw [hg i, if_neg (Nat.lt_irrefl i)]
theorem q_end {g A B : sF} {N : Nat} (hg : ∀ j, g j = if j < N then A j else B j) : ∀ j, j < N → g j = A j := fun j hj => by rw [hg j, if_pos hj]
theorem q_0 {A B : sF} : ∀ j, B j = if j < 0 then A j else B j := fun j => by rw [if_neg (Nat.not_lt_zero j)]
theorem q_cpy {f g : sF} {n : Nat} : ∀ j, j < n → va_cpy f g 0 0 n j = f j := fun j hj => by
  rw [pk_cpy_in (Nat.zero_le j) (by omega)]
  congr 1
  omega
theorem q_nms {g : sF} {le so fr we ts my : Int32} (h0 : g 0 = le) (h1 : g 1 = so) (h2 : g 2 = fr) (h3 : g 3 = we) (h4 : g 4 = ts) (h5 : g 5 = my) : ∀ j, j < 6 → g j = s_nm le so fr we ts my j := fun j hj => by
  rcases (show j = 0 ∨ j = 1 ∨ j = 2 ∨ j = 3 ∨ j = 4 ∨ j = 5 by omega) with rfl | rfl | rfl | rfl | rfl | rfl
  · exact h0
  · exact h1
  · exact h2
  · exact h3
  · exact h4
  · exact h5
abbrev rr2 (a b : Nat) : Nat → Option Nat := fun i => if i = 0 then some a else if i = 1 then some b else none
abbrev rr4 (a b c d : Nat) : Nat → Option Nat := fun i => if i = 0 then some a else if i = 1 then some b else if i = 2 then some c else if i = 3 then some d else none
theorem s_to_0 (X : sF) (c : Nat) (t : Option Nat) : s_to X c t 0 = X := by
  cases t with
  | none => funext j; by_cases e : j = c <;> simp [s_to, upd, e]
  | some t => funext j; by_cases e : j = t <;> by_cases e2 : j = c <;> simp [s_to, upd, e, e2] <;> (intro h; subst h; rfl)
theorem s_to_some {X : sF} {c t : Nat} (g : Int32) (h : t ≠ c) : upd (upd X t (X t + g)) c (upd X t (X t + g) c - g) = s_to X c (some t) g := by
  funext j
  have h2 : c ≠ t := fun e => h e.symm
  by_cases e : j = c
  · subst e; simp [s_to, upd, h2]
  · by_cases e2 : j = t
    · subst e2; simp [s_to, upd, e]
    · simp [s_to, upd, e, e2]
theorem fb9_rng (x : Int32) : -2147483648 ≤ x.toInt ∧ x.toInt < 2147483648 := ⟨Int32.le_toInt x, Int32.toInt_lt x⟩
theorem s_goff_0 {kd mo : Int32} (h : 0 ≤ mo) : s_goff kd mo 0 = 0 := by
  have h1 : ¬ mo < 0 := Int32.not_lt.mpr h
  have h2 : (0 : Int32) / 2 = 0 := by decide
  unfold s_goff s_min
  rw [h2, if_neg h1]
  by_cases k1 : kd = 1
  · rw [if_pos k1]
  · rw [if_neg k1]
    by_cases k3 : kd = 3
    · rw [if_pos k3]
    · rw [if_neg k3]
      by_cases k4 : kd = 4
      · rw [if_pos k4]
        by_cases q : 0 - mo < 0
        · rw [if_pos q]
        · rw [if_neg q]
          have e0 : (0 : Int32).toInt = 0 := rfl
          rw [Int32.lt_iff_toInt_lt, e0] at q
          rw [Int32.le_iff_toInt_le, e0] at h
          have hb := fb9_rng mo
          have e9 : (0 - mo).toInt = 0 - mo.toInt := by
            rw [Int32.toInt_sub, e0]
            exact Int.bmod_eq_of_le (by omega) (by omega)
          apply q_ti
          rw [e9] at q ⊢
          rw [e0]
          omega
      · rw [if_neg k4]
theorem s_come_0 {kd mo : Int32} (h : 0 ≤ mo) : s_come kd mo 0 = 0 := by
  have h1 : ¬ mo < 0 := Int32.not_lt.mpr h
  unfold s_come s_min
  rw [if_neg h1]
  by_cases k1 : kd = 2
  · rw [if_pos k1]
  · rw [if_neg k1]
    by_cases k3 : kd = 5
    · rw [if_pos k3]
    · rw [if_neg k3]
theorem s_on_lt {w c t : Nat} (hc : c < 36) (h : s_on w c = some t) : t < 36 ∧ t ≠ c := by
  unfold s_on at h
  split at h
  · split at h
    · cases h; omega
    · cases h
  · split at h
    · split at h
      · cases h; omega
      · cases h
    · split at h
      · split at h
        · cases h; omega
        · cases h
      · split at h
        · cases h; omega
        · cases h
theorem s_mv_eq {T : sT} {kd mo : sF} {w : Nat} {so fr we : Int32} {X D W : sF} {c : Nat} (hc : c < 36) (hm : ∀ j, j < 36 → 0 ≤ mo j) : s_cm kd mo (s_on w c) (s_goff (kd c) (mo c) (s_pt T 1 so fr we (X c) (D c + W c))) = s_mv T kd mo w so fr we X D W c := by
  unfold s_mv
  by_cases h : X c = 0
  · rw [if_pos h]
    unfold s_pt
    rw [if_pos h, s_goff_0 (hm c hc)]
    cases ho : s_on w c with
    | none => rfl
    | some t => exact s_come_0 (hm t (s_on_lt hc ho).1)
  · rw [if_neg h]
theorem q_same {g A B : sF} {i : Nat} (hg : ∀ j, g j = if j < i then A j else B j) (hv : A i = B i) : ∀ j, g j = if j < i + 1 then A j else B j := by
  intro j
  rw [hg j]
  by_cases q : j < i
  · rw [if_pos q, if_pos (by omega)]
  · rw [if_neg q]
    by_cases e : j = i
    · subst e; rw [if_pos (Nat.lt_succ_self _), hv]
    · rw [if_neg (by omega)]
theorem q_self (f : sF) (k : Nat) : f = upd f k (f k) := by
  funext j
  by_cases e : j = k
  · subst e; rw [pk_us]
  · rw [pk_un e]
theorem q_uu (f : sF) (k : Nat) (a b : Int32) : upd (upd f k a) k b = upd f k b := by
  funext j
  by_cases e : j = k
  · subst e; rw [pk_us, pk_us]
  · rw [pk_un e, pk_un e, pk_un e]
theorem s_dropD_f {rn : Int32} (h : ¬ rn = 1) (tk : Nat → Nat) (k x : sF) (n : Nat) : s_dropD rn tk k x (n + 1) = upd (s_dropD rn tk k x n) (tk n) (s_dropD rn tk k x n (tk n) + k n) := by
  simp only [s_dropD, if_neg h]
  rfl
theorem s_dropD_t {rn : Int32} (h : rn = 1) (tk : Nat → Nat) (k x : sF) (n : Nat) : s_dropD rn tk k x (n + 1) = s_dropD rn tk k x n := by
  simp only [s_dropD, if_pos h]
theorem s_dropW_t {rn : Int32} (h : rn = 1) (tk : Nat → Nat) (k x : sF) (n : Nat) : s_dropW rn tk k x (n + 1) = upd (s_dropW rn tk k x n) (tk n) (s_dropW rn tk k x n (tk n) + k n) := by
  simp only [s_dropW, if_pos h]
  rfl
theorem s_dropW_f {rn : Int32} (h : ¬ rn = 1) (tk : Nat → Nat) (k x : sF) (n : Nat) : s_dropW rn tk k x (n + 1) = s_dropW rn tk k x n := by
  simp only [s_dropW, if_neg h]
theorem s_drop0 {rn : Int32} {tk : Nat → Nat} {k x : sF} : x = s_dropD rn tk k x 0 ∧ x = s_dropW rn tk k x 0 := by
  constructor
  · unfold s_dropD; split <;> rfl
  · unfold s_dropW; split <;> rfl
theorem s_bl_z {w : Nat} {gD gW D W : sF} {o : Int32} {n : Nat} (h1 : gD n = 0) (h2 : gW n = 0) : s_bl w gD gW D W o (n + 1) = s_bl w gD gW D W o n := by
  show (s_to _ n (s_on w n) (gD n), s_to _ n (s_on w n) (gW n), if s_on w n = none then _ + (gD n + gW n) else _) = _
  rw [h1, h2, s_to_0, s_to_0, Int32.add_zero, Int32.add_zero, ite_self]
theorem q_nm1 {t : Nat} (h : t < 2 ^ 31) : ¬ nI t = -1 := by
  intro e
  have h1 := nI_toInt h
  rw [e] at h1
  have h2 : (-1 : Int32).toInt = -1 := rfl
  omega
theorem s_near_in (f : sF) (c : Int32) : ∀ k, ∃ j, j ≤ k ∧ s_near f c k = f j
  | 0 => ⟨0, Nat.le_refl 0, rfl⟩
  | k + 1 => by
    obtain ⟨j, h1, h2⟩ := s_near_in f c k
    by_cases q : s_far c (f (k + 1)) < s_far c (s_near f c k)
    · exact ⟨k + 1, Nat.le_refl _, by rw [s_near, if_pos q]⟩
    · exact ⟨j, by omega, by rw [s_near, if_neg q, h2]⟩
theorem s_heaps_lt (P : Nat → Bool) : ∀ n x, x ∈ s_heaps P n → x < n
  | 0, x, h => by cases h
  | n + 1, x, h => by
    cases hp : P n with
    | true =>
      rw [s_heaps_t hp] at h
      rcases List.mem_append.mp h with h | h
      · have := s_heaps_lt P n x h; omega
      · rw [List.mem_singleton] at h; omega
    | false =>
      rw [s_heaps_f hp] at h
      have := s_heaps_lt P n x h
      omega
theorem s_heaps_pos {P : Nat → Bool} : ∀ {n e : Nat}, e < n → P e = true → 1 ≤ (s_heaps P n).length
  | 0, e, h, _ => absurd h (Nat.not_lt_zero e)
  | n + 1, e, h, hp => by
    cases hq : P n with
    | true => rw [s_heaps_t hq, List.length_append, List.length_singleton]; omega
    | false =>
      rw [s_heaps_f hq]
      rcases Nat.lt_or_ge e n with q | q
      · exact s_heaps_pos q hp
      · have : e = n := by omega
        subst this
        rw [hp] at hq
        cases hq
/-- the class' search and the fold over all cells find one heap -/
theorem s_near_nr (P : Nat → Bool) (f : sF) (c : Int32) : ∀ n, n < 2 ^ 31 → (∀ j, j < (s_heaps P n).length → f j = nI ((s_heaps P n).getD j 0)) → (s_heaps P n).length = 0 ∧ s_nr P c n = -1 ∨ 1 ≤ (s_heaps P n).length ∧ s_nr P c n = s_near f c ((s_heaps P n).length - 1)
  | 0, _, _ => Or.inl ⟨rfl, rfl⟩
  | n + 1, hn, h => by
    cases hp : P n with
    | false =>
      rw [s_heaps_f hp] at h ⊢
      have ih := s_near_nr P f c n (by omega) h
      rw [s_nr, if_neg (by rw [hp]; simp)]
      exact ih
    | true =>
      rw [s_heaps_t hp] at h ⊢
      have h0 : ∀ j, j < (s_heaps P n).length → f j = nI ((s_heaps P n).getD j 0) := fun j hj => by
        rw [h j (by rw [List.length_append]; omega), List.getD_eq_getElem?_getD, List.getD_eq_getElem?_getD, List.getElem?_append_left hj]
      have hl : f (s_heaps P n).length = nI n := by
        rw [h _ (by rw [List.length_append, List.length_singleton]; omega), List.getD_eq_getElem?_getD, List.getElem?_append_right (Nat.le_refl _), Nat.sub_self]
        rfl
      refine Or.inr ⟨by rw [List.length_append, List.length_singleton]; omega, ?_⟩
      rw [List.length_append, List.length_singleton, Nat.add_sub_cancel]
      rcases s_near_nr P f c n (by omega) h0 with ⟨e1, e2⟩ | ⟨e1, e2⟩
      · rw [s_nr, if_pos ⟨hp, Or.inl (by rw [e2]; decide)⟩, e1]
        rw [e1] at hl
        exact hl.symm
      · obtain ⟨z, hz⟩ : ∃ z, (s_heaps P n).length = z + 1 := ⟨(s_heaps P n).length - 1, by omega⟩
        obtain ⟨j, hj1, hj2⟩ := s_near_in f c ((s_heaps P n).length - 1)
        have hnn : ¬ s_nr P c n < 0 := by
          rw [e2, hj2, h0 j (by omega)]
          have hm : (s_heaps P n).getD j 0 ∈ s_heaps P n := by
            rw [List.getD_eq_getElem?_getD, List.getElem?_eq_getElem (by omega)]
            exact List.getElem_mem _
          have := s_heaps_lt P n _ hm
          exact nI_pos (by omega)
        rw [hz] at hl e2 ⊢
        rw [Nat.add_sub_cancel] at e2
        rw [s_near, hl, ← e2, s_nr]
        by_cases q : s_far c (nI n) < s_far c (s_nr P c n)
        · rw [if_pos q, if_pos ⟨hp, Or.inr q⟩]
        · rw [if_neg q, if_neg (fun r => r.2.elim hnn q)]
theorem s_cs_z {P : Nat → Bool} {D W : sF} {n : Nat} (h : D n + 4 * W n = 0) : s_cs P D W (n + 1) = s_cs P D W n := if_pos h
theorem s_cs_s {P : Nat → Bool} {D W : sF} {n : Nat} (h : ¬ D n + 4 * W n = 0) : s_cs P D W (n + 1) = ((s_cs P D W n).1 + (D n + 4 * W n) * s_far (nI n) (s_nr P (nI n) 36), (s_cs P D W n).2 ||| (1 <<< ((s_nr P (nI n) 36).toInt64 &&& 63))) := if_neg h
/-! a whole day -/
def s_D1 (rn : Int32) (D W : sF) : sF := fun j => D j + s_go rn D W j
def s_W1 (rn : Int32) (D W : sF) : sF := fun j => W j - s_go rn D W j
def s_D2 (T : sT) (so fr rn : Int32) (ts : sF) (tk : Nat → Nat) (tn : Nat) (h D W : sF) : sF := s_dropD rn tk (s_k T so fr rn ts h) (s_D1 rn D W) tn
def s_W2 (T : sT) (so fr rn : Int32) (ts : sF) (tk : Nat → Nat) (tn : Nat) (h D W : sF) : sF := s_dropW rn tk (s_k T so fr rn ts h) (s_W1 rn D W) tn
def s_D4 (T : sT) (so fr : Int32) (b : sF × sF × Int32) : sF := fun j => b.1 j - s_rt T so fr 0 b.1 b.1 b.2.1 j
def s_W4 (T : sT) (so fr : Int32) (b : sF × sF × Int32) : sF := fun j => b.2.1 j - s_rt T so fr 1 b.2.1 b.1 b.2.1 j
def s_R4 (T : sT) (so fr : Int32) (b : sF × sF × Int32) (rt : Int32) : Int32 := s_rots (s_rt T so fr 0 b.1 b.1 b.2.1) (s_rt T so fr 1 b.2.1 b.1 b.2.1) rt 36
def s_rk (rg : Int32) (d : Nat) : Prop := ((rg >>> (nI d &&& 31)) &&& 1) = 1
/-- dry, wet, covered, hanging, fallen on the day, off, rotten, raked, cost -/
abbrev sS : Type := sF × sF × sF × sF × Int32 × sF × Int32 × Int32 × Int32
def s_b (T : sT) (kf mf : sF) (wy : Nat) (so fr rn : Int32) (ts : sF) (tk : Nat → Nat) (tn : Nat) (h D W : sF) (o : Int32) : sF × sF × Int32 := s_blow T kf mf wy so fr (s_D2 T so fr rn ts tk tn h D W) (s_W2 T so fr rn ts tk tn h D W) o
def s_h0 (tn : Nat) (tl : sF) : sF := fun t => if t < tn then tl t else 0
def s_begin (lv tl : sF) (tn : Nat) : sS := (lv, fun _ => 0, fun _ => 0, s_h0 tn tl, 0, fun _ => 0, 0, 0, 0)
/-- a garden: text, kinds, mores, trees' sorts, cells, how many, leaves at first, trees' leaves, heaps, raking, ways, strong, frost, rain -/
abbrev sG : Type := sT × sF × sF × sF × (Nat → Nat) × Nat × sF × sF × (Nat → Bool) × Int32 × (Nat → Nat) × sF × sF × sF
def s_gD2 (G : sG) (d : Nat) (s : sS) : sF := match G with
  | (T, _, _, ts, tk, tn, _, _, _, _, _, R1, R2, R3) => s_D2 T (R1 d) (R2 d) (R3 d) ts tk tn s.2.2.2.1 s.1 s.2.1
def s_gW2 (G : sG) (d : Nat) (s : sS) : sF := match G with
  | (T, _, _, ts, tk, tn, _, _, _, _, _, R1, R2, R3) => s_W2 T (R1 d) (R2 d) (R3 d) ts tk tn s.2.2.2.1 s.1 s.2.1
def s_day (G : sG) (d : Nat) (s : sS) : sS := match G, s with
  | (T, kf, mf, ts, tk, tn, _, _, P, rg, wk, R1, R2, R3), (D, W, cv, h, _, o, rt, rk, ct) =>
    let b := s_b T kf mf (wk d) (R1 d) (R2 d) (R3 d) ts tk tn h D W (o (wk d))
    let D4 := s_D4 T (R1 d) (R2 d) b
    let W4 := s_W4 T (R1 d) (R2 d) b
    let k := s_k T (R1 d) (R2 d) (R3 d) ts h
    if ((rg >>> (nI d &&& 31)) &&& 1) = 1 then
      (fun _ => 0, fun _ => 0, s_cv kf D4 W4 cv, s_left tn k h, s_acc 0 k tn, upd o (wk d) b.2.2, s_R4 T (R1 d) (R2 d) b rt, rk + s_sum (fun j => D4 j + W4 j) 36, ct + s_cost P D4 W4)
    else (D4, W4, s_cv kf D4 W4 cv, s_left tn k h, s_acc 0 k tn, upd o (wk d) b.2.2, s_R4 T (R1 d) (R2 d) b rt, rk, ct)
def s_gone (G : sG) : Nat → sS
  | 0 => match G with
    | (_, _, _, _, _, tn, lv, tl, _) => s_begin lv tl tn
  | d + 1 => s_day G d (s_gone G d)
/-- how many fall on a day -/
def s_fl (G : sG) (d : Nat) : Int32 := (s_gone G (d + 1)).2.2.2.2.1
def s_hz (G : sG) : Prop := ∀ d, d < 14 → ∀ c, c < 36 → s_gD2 G d (s_gone G d) c + s_gW2 G d (s_gone G d) c = 0 → s_gD2 G d (s_gone G d) c = 0 ∧ s_gW2 G d (s_gone G d) c = 0
/-- the first greatest of the first k + 1 -/
def s_fm (f : sF) : Nat → Nat
  | 0 => 0
  | k + 1 => if f (s_fm f k) < f (k + 1) then k + 1 else s_fm f k
theorem s_fm_le (f : sF) : ∀ k, s_fm f k ≤ k
  | 0 => Nat.le_refl 0
  | k + 1 => by
    have ih := s_fm_le f k
    unfold s_fm
    split <;> omega
def s_sat (k : Nat) : Nat := k % 2 * 8 + k / 2 % 2 * 64 + k / 4 % 2 * 1024 + k / 8 % 2 * 8192
theorem q_sat : ∀ k, k < 16 → ((((nI k &&& 1) <<< ((3 : Int32) &&& 31)) ||| ((nI k &&& 2) <<< ((5 : Int32) &&& 31))) ||| ((nI k &&& 4) <<< ((8 : Int32) &&& 31))) ||| ((nI k &&& 8) <<< ((10 : Int32) &&& 31)) = nI (s_sat k) := by decide
def s_lot (sd : Nat) : Nat → Nat
  | 0 => sd + 1
  | d + 1 => s_lot sd d * 48271 % 2147483647
def s_lw (sd d : Nat) : Nat := s_lot sd (d + 1) % 4
def s_ls (sd d : Nat) : Nat := s_lot sd (d + 1) / 4 % 10
theorem s_lot_lt {sd : Nat} (h : sd < 200000) : ∀ d, s_lot sd d < 2147483647
  | 0 => by show sd + 1 < _; omega
  | d + 1 => Nat.mod_lt _ (by decide)
theorem q_lot {sd d : Nat} (h : sd < 200000) : lN (s_lot sd d) * 48271 - lN (s_lot sd d) * 48271 / 2147483647 * 2147483647 = lN (s_lot sd (d + 1)) := by
  have h1 := s_lot_lt h d
  rw [show (48271 : Int64) = lN 48271 from rfl, show (2147483647 : Int64) = lN 2147483647 from rfl, lN_mul]
  exact pk_lRem (by omega) (by decide) (by decide)
theorem q_lw {a : Nat} (h : a < 2147483647) : (lN a - lN a / 4 * 4).toInt32 = nI (a % 4) := by
  rw [show (4 : Int64) = lN 4 from rfl, pk_lRem (by omega) (by decide) (by decide), lN_i]
theorem q_ls {a : Nat} (h : a < 2147483647) : (lN a / 4 - lN a / 4 / 10 * 10).toInt32 = nI (a / 4 % 10) := by
  rw [show (4 : Int64) = lN 4 from rfl, show (10 : Int64) = lN 10 from rfl, pk_lDiv (by omega) (by decide) (by decide), pk_lRem (by omega) (by decide) (by decide), lN_i]
def s_bit (c : Nat) : Int64 := 1 <<< ((nI c).toInt64 &&& 63)
def s_bh (D W : sF) : Nat → Int32 × Int32
  | 0 => (-1, -1)
  | n + 1 => if (s_bh D W n).1 = -1 ∨ s_cost (s_b1 (s_bit n)) D W < (s_bh D W n).2 then (nI n, s_cost (s_b1 (s_bit n)) D W) else s_bh D W n
def s_bi (D W : sF) (c : Nat) (s : Int32 × Int32) : Nat → Int32 × Int32
  | 0 => s
  | m + 1 => if (s_bi D W c s m).1 = -1 ∨ s_cost (s_b1 (s_bit c ||| s_bit (c + 1 + m))) D W < (s_bi D W c s m).2 then (nI (100 * c + (c + 1 + m)), s_cost (s_b1 (s_bit c ||| s_bit (c + 1 + m))) D W) else s_bi D W c s m
def s_bo (D W : sF) : Nat → Int32 × Int32
  | 0 => (-1, -1)
  | c + 1 => s_bi D W c (s_bo D W c) (36 - (c + 1))
theorem s_bit_self : ∀ c, c < 36 → s_b1 (s_bit c) c = true := by decide
theorem s_bit_or : ∀ c, c < 36 → ∀ e, e < 36 → s_b1 (s_bit c ||| s_bit e) c = true := by decide
/-- in lowest terms -/
def s_low (a b : Nat) (p : Int32) : Int64 := lN ((if p = 0 then a else b) / Nat.gcd a b)
theorem q_half {x y : Nat} (h : y ≤ x) (h0 : 0 < y) : 2 * (y * (x % y)) ≤ x * y := by
  have h1 : 2 * (x % y) ≤ x := by
    have h2 := Nat.mod_lt x h0
    have h3 := Nat.mod_add_div x y
    have h4 : 1 ≤ x / y := (Nat.one_le_div_iff h0).mpr h
    have h5 : y * 1 ≤ y * (x / y) := Nat.mul_le_mul_left y h4
    omega
  calc 2 * (y * (x % y)) = (2 * (x % y)) * y := by rw [Nat.mul_comm y, Nat.mul_assoc]
    _ ≤ x * y := Nat.mul_le_mul_right y h1
theorem q_fm_t {f : sF} {i b : Nat} (hi : 1 ≤ i) (hb : b = s_fm f (i - 1)) (h : ¬ f i ≤ f b) : i = s_fm f (i + 1 - 1) := by
  obtain ⟨j, rfl⟩ : ∃ j, i = j + 1 := ⟨i - 1, by omega⟩
  rw [Nat.add_sub_cancel] at hb ⊢
  rw [s_fm, ← hb, if_pos (Int32.not_le.mp h)]
theorem q_fm_f {f : sF} {i b : Nat} (hi : 1 ≤ i) (hb : b = s_fm f (i - 1)) (h : f i ≤ f b) : b = s_fm f (i + 1 - 1) := by
  obtain ⟨j, rfl⟩ : ∃ j, i = j + 1 := ⟨i - 1, by omega⟩
  rw [Nat.add_sub_cancel] at hb ⊢
  rw [s_fm, ← hb, if_neg (Int32.not_lt.mpr h)]
section SD
variable {T : sT} {kf mf ts lv tl R1 R2 R3 D W cv h o : sF} {tk wk : Nat → Nat} {tn d : Nat} {P : Nat → Bool} {rg f0 rt rk ct : Int32}
theorem s_day_t (hr : s_rk rg d) : s_day (T, kf, mf, ts, tk, tn, lv, tl, P, rg, wk, R1, R2, R3) d (D, W, cv, h, f0, o, rt, rk, ct) =
    (fun _ => 0, fun _ => 0, s_cv kf (s_D4 T (R1 d) (R2 d) (s_b T kf mf (wk d) (R1 d) (R2 d) (R3 d) ts tk tn h D W (o (wk d)))) (s_W4 T (R1 d) (R2 d) (s_b T kf mf (wk d) (R1 d) (R2 d) (R3 d) ts tk tn h D W (o (wk d)))) cv, s_left tn (s_k T (R1 d) (R2 d) (R3 d) ts h) h, s_acc 0 (s_k T (R1 d) (R2 d) (R3 d) ts h) tn, upd o (wk d) (s_b T kf mf (wk d) (R1 d) (R2 d) (R3 d) ts tk tn h D W (o (wk d))).2.2, s_R4 T (R1 d) (R2 d) (s_b T kf mf (wk d) (R1 d) (R2 d) (R3 d) ts tk tn h D W (o (wk d))) rt, rk + s_sum (fun j => (s_D4 T (R1 d) (R2 d) (s_b T kf mf (wk d) (R1 d) (R2 d) (R3 d) ts tk tn h D W (o (wk d)))) j + (s_W4 T (R1 d) (R2 d) (s_b T kf mf (wk d) (R1 d) (R2 d) (R3 d) ts tk tn h D W (o (wk d)))) j) 36, ct + s_cost P (s_D4 T (R1 d) (R2 d) (s_b T kf mf (wk d) (R1 d) (R2 d) (R3 d) ts tk tn h D W (o (wk d)))) (s_W4 T (R1 d) (R2 d) (s_b T kf mf (wk d) (R1 d) (R2 d) (R3 d) ts tk tn h D W (o (wk d))))) := by
  show (if ((rg >>> (nI d &&& 31)) &&& 1) = 1 then _ else _) = _
  exact if_pos hr
theorem s_day_f (hr : ¬ s_rk rg d) : s_day (T, kf, mf, ts, tk, tn, lv, tl, P, rg, wk, R1, R2, R3) d (D, W, cv, h, f0, o, rt, rk, ct) =
    (s_D4 T (R1 d) (R2 d) (s_b T kf mf (wk d) (R1 d) (R2 d) (R3 d) ts tk tn h D W (o (wk d))), s_W4 T (R1 d) (R2 d) (s_b T kf mf (wk d) (R1 d) (R2 d) (R3 d) ts tk tn h D W (o (wk d))), s_cv kf (s_D4 T (R1 d) (R2 d) (s_b T kf mf (wk d) (R1 d) (R2 d) (R3 d) ts tk tn h D W (o (wk d)))) (s_W4 T (R1 d) (R2 d) (s_b T kf mf (wk d) (R1 d) (R2 d) (R3 d) ts tk tn h D W (o (wk d)))) cv, s_left tn (s_k T (R1 d) (R2 d) (R3 d) ts h) h, s_acc 0 (s_k T (R1 d) (R2 d) (R3 d) ts h) tn, upd o (wk d) (s_b T kf mf (wk d) (R1 d) (R2 d) (R3 d) ts tk tn h D W (o (wk d))).2.2, s_R4 T (R1 d) (R2 d) (s_b T kf mf (wk d) (R1 d) (R2 d) (R3 d) ts tk tn h D W (o (wk d))) rt, rk, ct) := by
  show (if ((rg >>> (nI d &&& 31)) &&& 1) = 1 then _ else _) = _
  exact if_neg hr
end SD
theorem q_gcd {z y g : Nat} (h : Nat.gcd z y = g) (h0 : 0 < y) : Nat.gcd y (z % y) = g := by
  rw [← h, Nat.gcd_comm z y, Nat.gcd_rec y z, Nat.gcd_comm]
theorem q_lowp {z y r m : Nat} (h : y ≤ z) (h0 : 0 < y) (hp : z * y * 2 ^ r ≤ m) : y * (z % y) * 2 ^ (r + 1) ≤ m := by
  have h1 := q_half h h0
  calc y * (z % y) * 2 ^ (r + 1) = (2 * (y * (z % y))) * 2 ^ r := by rw [Nat.pow_succ, Nat.mul_comm (2 ^ r) 2, ← Nat.mul_assoc, Nat.mul_comm _ 2]
    _ ≤ (z * y) * 2 ^ r := Nat.mul_le_mul_right _ h1
    _ ≤ m := hp
theorem q_low0 {z y r a b : Nat} (hr : r = 64) (hb : b < 2 ^ 30) (hab : a ≤ b) (hz : 0 < z) (hp : z * y * 2 ^ r ≤ b * a) : y = 0 := by
  subst hr
  rcases Nat.eq_zero_or_pos y with h | h
  · exact h
  · exfalso
    have h1 : 1 * 1 ≤ z * y := Nat.mul_le_mul hz h
    have h2 : 1 * 2 ^ 64 ≤ z * y * 2 ^ 64 := Nat.mul_le_mul_right _ (by omega)
    have h3 : b * a ≤ 2 ^ 30 * 2 ^ 30 := Nat.mul_le_mul (by omega) (by omega)
    omega
/-- a number of a sheet, cut to its sort -/
def s_cut (so v : Int32) : Int32 := if so = 0 then v.toInt8.toInt32 else if so = 1 then v.toInt16.toInt32 else v
/-- kinds that are of a kind -/
def s_one (k f : Int32) : Prop := if f = 0 then True else if f = 1 then k = 1 ∨ k = 3 else if f = 2 then k = 2 ∨ k = 5 else k = f
theorem q_max0 (z : Int32) : (if 0 < z then z else 0) = if z < 0 then 0 else z := by
  by_cases h : 0 < z
  · rw [if_pos h, if_neg (Int32.not_lt.mpr (Int32.le_of_lt h))]
  · rw [if_neg h]
    by_cases h2 : z < 0
    · rw [if_pos h2]
    · rw [if_neg h2]
      exact Int32.le_antisymm (Int32.not_lt.mp h2) (Int32.not_lt.mp h)
