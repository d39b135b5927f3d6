/-! ===== the reading of a text, purely: tokens ===== -/
def p_bl (b : Int32) : Bool := decide (b = 32 ∨ b = 10)
def p_dg (b : Int32) : Bool := decide (48 ≤ b ∧ b ≤ 57)
def p_le (b : Int32) : Bool := decide (97 ≤ b ∧ b ≤ 122)
def p_sg (b : Int32) : Bool := decide (b = 40 ∨ b = 41 ∨ b = 59 ∨ b = 43 ∨ b = 45 ∨ b = 42 ∨ b = 60 ∨ b = 61)
/-- past all that are such, from a on, m at most -/
def p_run (P : Int32 → Bool) (tp : sF) : Nat → Nat → Nat
  | 0, a => a
  | m + 1, a => if P (tp a) = true then p_run P tp m (a + 1) else a
def p_sk (P : Int32 → Bool) (tp : sF) (n a : Nat) : Nat := p_run P tp (n - a) a
/-- the bytes from i on, m of them -/
def p_sub (tp : sF) : Nat → Nat → List Int32
  | 0, _ => []
  | m + 1, i => tp i :: p_sub tp m (i + 1)
def p_w (tp : sF) (i e : Nat) : List Int32 := p_sub tp (e - i) i
/-- a number of k digits from q on -/
def p_num (tp : sF) (q : Nat) : Nat → Int32
  | 0 => 0
  | k + 1 => p_num tp q k * 10 + tp (q + k) - 48
/-- which of the words -/
def p_wix (l : List Int32) : Int32 := if l = zL.getD 12 [] then 0 else if l = zL.getD 13 [] then 1 else if l = zL.getD 14 [] then 2 else if l = zL.getD 9 [] then 3 else if l = zL.getD 10 [] then 4 else if l = zL.getD 11 [] then 5 else if l = zL.getD 3 [] then 6 else if l = zL.getD 4 [] then 7 else if l = zL.getD 5 [] then 8 else if l = zL.getD 6 [] then 9 else if l = zL.getD 7 [] then 10 else if l = zL.getD 8 [] then 11 else -1
def p_pl (tp : sF) (n a : Nat) : Nat := p_sk p_bl tp n a
def p_nx (tp : sF) (n a : Nat) : Nat := if n ≤ p_pl tp n a then p_pl tp n a else if p_dg (tp (p_pl tp n a)) = true then p_sk p_dg tp n (p_pl tp n a) else if p_le (tp (p_pl tp n a)) = true then p_sk p_le tp n (p_pl tp n a) else p_pl tp n a + 1
def p_wd (tp : sF) (n a : Nat) : Int32 := p_wix (p_w tp (p_pl tp n a) (p_nx tp n a))
/-- the token, as the class has it -/
def p_tk (tp : sF) (n a : Nat) : Int32 := if n ≤ p_pl tp n a then 0 else if p_dg (tp (p_pl tp n a)) = true then (if 4 < p_nx tp n a - p_pl tp n a then 1 else 2) else if p_le (tp (p_pl tp n a)) = true then (if p_wd tp n a = -1 then 1 else if p_wd tp n a < 6 then 4 + p_wd tp n a else 3) else if p_sg (tp (p_pl tp n a)) = true then tp (p_pl tp n a) else 1
/-- the token's sort, as the Model has it -/
def p_so (tp : sF) (n a : Nat) : Int32 := if n ≤ p_pl tp n a then 0 else if p_dg (tp (p_pl tp n a)) = true then (if 4 < p_nx tp n a - p_pl tp n a then 4 else 1) else if p_le (tp (p_pl tp n a)) = true then 2 else if p_sg (tp (p_pl tp n a)) = true then 3 else 4
def p_vl (tp : sF) (n a : Nat) : Int32 := if p_dg (tp (p_pl tp n a)) = true then p_num tp (p_pl tp n a) (p_nx tp n a - p_pl tp n a) else p_wd tp n a - 6
section PRUN
variable {P : Int32 → Bool} {tp : sF} {n a : Nat}
theorem p_run_ge : ∀ (m a : Nat), a ≤ p_run P tp m a ∧ p_run P tp m a ≤ a + m
  | 0, a => ⟨Nat.le_refl _, Nat.le_refl _⟩
  | m + 1, a => by
    have ih := p_run_ge m (a + 1)
    unfold p_run
    by_cases h : P (tp a) = true
    · rw [if_pos h]; omega
    · rw [if_neg h]; omega
theorem p_sk_ge : a ≤ p_sk P tp n a := (p_run_ge _ _).1
theorem p_sk_le (h : a ≤ n) : p_sk P tp n a ≤ n := by
  have := (p_run_ge (P := P) (tp := tp) (n - a) a).2
  unfold p_sk
  omega
theorem p_sk_s (h : a < n) (hp : P (tp a) = true) : p_sk P tp n a = p_sk P tp n (a + 1) := by
  unfold p_sk
  rw [show n - a = (n - (a + 1)) + 1 by omega, p_run, if_pos hp]
theorem p_sk_e (h : n ≤ a) : p_sk P tp n a = a := by
  unfold p_sk
  rw [show n - a = 0 by omega]
  rfl
theorem p_sk_x (hp : ¬ P (tp a) = true) : p_sk P tp n a = a := by
  unfold p_sk
  cases n - a with
  | zero => rfl
  | succ m => rw [p_run, if_neg hp]
end PRUN
section PTOK
variable {tp : sF} {n a : Nat}
theorem p_pl_ge : a ≤ p_pl tp n a := p_sk_ge
theorem p_pl_le (h : a ≤ n) : p_pl tp n a ≤ n := p_sk_le h
theorem p_nx_ge : p_pl tp n a ≤ p_nx tp n a := by
  unfold p_nx
  repeat' split
  · exact Nat.le_refl _
  · exact p_sk_ge
  · exact p_sk_ge
  · omega
theorem p_nx_le (h : a ≤ n) : p_nx tp n a ≤ n := by
  have h1 := p_pl_le (tp := tp) h
  unfold p_nx
  repeat' split
  · exact h1
  · exact p_sk_le h1
  · exact p_sk_le h1
  · omega
theorem p_tk_lt (h : ¬ p_tk tp n a = 0) : p_pl tp n a < n := by
  by_cases q : n ≤ p_pl tp n a
  · exact absurd (show p_tk tp n a = 0 by unfold p_tk; rw [if_pos q]) h
  · omega
/-- a token takes a byte at least -/
theorem p_nx_gt (h : ¬ p_tk tp n a = 0) : p_pl tp n a < p_nx tp n a := by
  have hq := p_tk_lt h
  unfold p_nx
  rw [if_neg (by omega)]
  by_cases d : p_dg (tp (p_pl tp n a)) = true
  · rw [if_pos d, p_sk_s hq d]
    exact p_sk_ge
  · rw [if_neg d]
    by_cases l : p_le (tp (p_pl tp n a)) = true
    · rw [if_pos l, p_sk_s hq l]
      exact p_sk_ge
    · rw [if_neg l]; omega
theorem p_nx_gt2 (h : ¬ p_tk tp n a = 0) : a < p_nx tp n a := Nat.lt_of_le_of_lt p_pl_ge (p_nx_gt h)
end PTOK
/-! words -/
theorem p_sub_len (tp : sF) : ∀ m i, (p_sub tp m i).length = m
  | 0, _ => rfl
  | m + 1, i => by rw [p_sub, List.length_cons, p_sub_len tp m]
theorem p_sub_eq {tp : sF} : ∀ (l : List Int32) (i : Nat), p_sub tp l.length i = l ↔ ∀ j, j < l.length → tp (i + j) = l.getD j 0
  | [], i => ⟨fun _ j h => absurd h (Nat.not_lt_zero j), fun _ => rfl⟩
  | c :: l, i => by
    rw [List.length_cons, p_sub, List.cons_eq_cons, p_sub_eq l (i + 1)]
    constructor
    · rintro ⟨h1, h2⟩ j hj
      cases j with
      | zero => exact h1
      | succ j =>
        rw [show i + (j + 1) = i + 1 + j by omega, h2 j (by omega)]
        rfl
    · intro h
      refine ⟨h 0 (by omega), fun j hj => ?_⟩
      rw [show i + 1 + j = i + (j + 1) by omega, h (j + 1) (by omega)]
      rfl
theorem p_w_eq {tp : sF} {i e : Nat} {l : List Int32} : p_w tp i e = l ↔ e - i = l.length ∧ ∀ j, j < l.length → tp (i + j) = l.getD j 0 := by
  unfold p_w
  constructor
  · intro h
    have h1 : e - i = l.length := by rw [← h, p_sub_len]
    refine ⟨h1, (p_sub_eq l i).mp ?_⟩
    rw [← h1]
    exact h
  · rintro ⟨h1, h2⟩
    rw [h1]
    exact (p_sub_eq l i).mpr h2
theorem p_w_cons {tp : sF} {i e : Nat} (h : i < e) : p_w tp i e = tp i :: p_w tp (i + 1) e := by
  unfold p_w
  rw [show e - i = (e - (i + 1)) + 1 by omega, p_sub]
theorem p_w_nil {tp : sF} {i e : Nat} (h : e ≤ i) : p_w tp i e = [] := by
  unfold p_w
  rw [show e - i = 0 by omega]
  rfl
/-- the class's search -/
def p_scan (tp : sF) (q e : Nat) : List Int32 → Nat → Nat → Bool → Int32
  | [], _, _, _ => -1
  | c :: cs, w, i, s => if c = 32 then (if s = true ∧ i = e then nI w else p_scan tp q e cs (w + 1) q true) else p_scan tp q e cs w (i + 1) (s && (decide (i < e) && decide (tp i = c)))
theorem p_scan_w {tp : sF} {q e : Nat} {rest : List Int32} : ∀ (cs : List Int32) (w i : Nat) (s : Bool), (∀ c ∈ cs, c ≠ 32) → (s = true → i ≤ e) → p_scan tp q e (cs ++ 32 :: rest) w i s = if s = true ∧ p_w tp i e = cs then nI w else p_scan tp q e rest (w + 1) q true
  | [], w, i, s, _, hs => by
    show (if (32 : Int32) = 32 then (if s = true ∧ i = e then nI w else p_scan tp q e rest (w + 1) q true) else _) = _
    rw [if_pos rfl]
    by_cases h : s = true ∧ i = e
    · rw [if_pos h, if_pos ⟨h.1, p_w_nil (by omega)⟩]
    · rw [if_neg h, if_neg]
      rintro ⟨h1, h2⟩
      have h3 := hs h1
      have h4 := (p_w_eq.mp h2).1
      exact h ⟨h1, by simp at h4; omega⟩
  | c :: cs, w, i, s, hc, hs => by
    have c32 : c ≠ 32 := hc c List.mem_cons_self
    show (if c = 32 then _ else p_scan tp q e (cs ++ 32 :: rest) w (i + 1) (s && (decide (i < e) && decide (tp i = c)))) = _
    rw [if_neg c32, p_scan_w cs w (i + 1) _ (fun d hd => hc d (List.mem_cons_of_mem _ hd)) (fun h => by simp at h; omega)]
    by_cases hi : i < e
    · rw [p_w_cons hi]
      by_cases h : (s = true ∧ tp i = c) ∧ p_w tp (i + 1) e = cs
      · rw [if_pos ⟨by simp [h.1.1, hi, h.1.2], h.2⟩, if_pos ⟨h.1.1, by rw [h.1.2, h.2]⟩]
      · rw [if_neg, if_neg]
        · rintro ⟨h1, h2⟩
          rw [List.cons_eq_cons] at h2
          exact h ⟨⟨h1, h2.1⟩, h2.2⟩
        · rintro ⟨h1, h2⟩
          simp at h1
          exact h ⟨⟨h1.1, h1.2.2⟩, h2⟩
    · rw [p_w_nil (show e ≤ i by omega), if_neg, if_neg]
      · rintro ⟨_, h2⟩
        cases h2
      · rintro ⟨h1, _⟩
        simp [hi] at h1
def p_ws : List (List Int32) := [zL.getD 12 [], zL.getD 13 [], zL.getD 14 [], zL.getD 9 [], zL.getD 10 [], zL.getD 11 [], zL.getD 3 [], zL.getD 4 [], zL.getD 5 [], zL.getD 6 [], zL.getD 7 [], zL.getD 8 []]
def p_cat : List (List Int32) → List Int32
  | [] => []
  | l :: ls => l ++ 32 :: p_cat ls
theorem p_words : zL.getD 1 [] = p_cat p_ws := by decide +kernel
def p_ixs (l : List Int32) : List (List Int32) → Nat → Int32
  | [], _ => -1
  | x :: xs, w => if l = x then nI w else p_ixs l xs (w + 1)
theorem p_scan_all {tp : sF} {q e : Nat} (hq : q ≤ e) : ∀ (ls : List (List Int32)) (w : Nat), (∀ x ∈ ls, ∀ c ∈ x, c ≠ 32) → p_scan tp q e (p_cat ls) w q true = p_ixs (p_w tp q e) ls w
  | [], w, _ => rfl
  | x :: ls, w, h => by
    show p_scan tp q e (x ++ 32 :: p_cat ls) w q true = if p_w tp q e = x then nI w else p_ixs (p_w tp q e) ls (w + 1)
    rw [p_scan_w x w q true (h x List.mem_cons_self) (fun _ => hq), p_scan_all hq ls (w + 1) (fun y hy => h y (List.mem_cons_of_mem _ hy))]
    by_cases k : p_w tp q e = x
    · rw [if_pos ⟨rfl, k⟩, if_pos k]
    · rw [if_neg (fun h9 => k h9.2), if_neg k]
theorem p_no32 : ∀ x ∈ p_ws, ∀ c ∈ x, c ≠ 32 := by decide +kernel
theorem p_scan_wix {tp : sF} {q e : Nat} (hq : q ≤ e) : p_scan tp q e (zL.getD 1 []) 0 q true = p_wix (p_w tp q e) := by
  rw [p_words, p_scan_all hq p_ws 0 p_no32]
  rfl
