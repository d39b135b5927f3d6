/-! ===== the reading of a text, purely: the grammar (came through, where, operations) ===== -/
abbrev pR : Type := Bool × Nat × List Int32
def p_loop (tp : sF) (n : Nat) (X : Nat → pR) (f : Int32 → Int32) : Nat → pR → pR
  | 0, r => r
  | m + 1, r => if r.1 = true ∧ ¬ f (p_tk tp n r.2.1) = 0 then p_loop tp n X f m ((X (p_nx tp n r.2.1)).1, (X (p_nx tp n r.2.1)).2.1, r.2.2 ++ (X (p_nx tp n r.2.1)).2.2 ++ [f (p_tk tp n r.2.1)]) else r
def p_fT (t : Int32) : Int32 := if t = 42 then -11 else 0
def p_fS (t : Int32) : Int32 := if t = 43 then -9 else if t = 45 then -10 else 0
def p_fA (t : Int32) : Int32 := if t = 8 then -14 else 0
def p_fO (t : Int32) : Int32 := if t = 7 then -15 else 0
def p_one (tp : sF) (n : Nat) (deep : Bool) (one or : Nat → pR) (a : Nat) : pR :=
  if p_tk tp n a = 2 then (true, p_nx tp n a, [p_vl tp n a]) else if p_tk tp n a = 3 then (true, p_nx tp n a, [-1 - p_vl tp n a])
  else if p_tk tp n a = 45 then (if deep = true then ((one (p_nx tp n a)).1, (one (p_nx tp n a)).2.1, (one (p_nx tp n a)).2.2 ++ [-7]) else (false, a, []))
  else if p_tk tp n a = 40 then (if deep = true then (if (or (p_nx tp n a)).1 = true then (if p_tk tp n (or (p_nx tp n a)).2.1 = 41 then (true, p_nx tp n (or (p_nx tp n a)).2.1, (or (p_nx tp n a)).2.2) else (false, (or (p_nx tp n a)).2.1, (or (p_nx tp n a)).2.2)) else or (p_nx tp n a)) else (false, a, []))
  else (false, a, [])
def p_rep (tp : sF) (n : Nat) (X : Nat → pR) (f : Int32 → Int32) (a : Nat) : pR := p_loop tp n X f 160 (X a)
def p_cmp (tp : sF) (n : Nat) (sum : Nat → pR) (a : Nat) : pR :=
  if (sum a).1 = true ∧ (p_tk tp n (sum a).2.1 = 60 ∨ p_tk tp n (sum a).2.1 = 61) then ((sum (p_nx tp n (sum a).2.1)).1, (sum (p_nx tp n (sum a).2.1)).2.1, (sum a).2.2 ++ (sum (p_nx tp n (sum a).2.1)).2.2 ++ [if p_tk tp n (sum a).2.1 = 60 then -12 else -13]) else sum a
def p_not (tp : sF) (n : Nat) (deep : Bool) (nt sum : Nat → pR) (a : Nat) : pR :=
  if p_tk tp n a = 9 then (if deep = true then ((nt (p_nx tp n a)).1, (nt (p_nx tp n a)).2.1, (nt (p_nx tp n a)).2.2 ++ [-8]) else (false, a, [])) else p_cmp tp n sum a
/-- one, not, or with d more that may open -/
def p_lev (tp : sF) (n : Nat) : Nat → (Nat → pR) × (Nat → pR) × (Nat → pR)
  | 0 => (p_one tp n false (fun a => (false, a, [])) (fun a => (false, a, [])), p_not tp n false (fun a => (false, a, [])) (p_rep tp n (p_rep tp n (p_one tp n false (fun a => (false, a, [])) (fun a => (false, a, []))) p_fT) p_fS), p_rep tp n (p_rep tp n (p_not tp n false (fun a => (false, a, [])) (p_rep tp n (p_rep tp n (p_one tp n false (fun a => (false, a, [])) (fun a => (false, a, []))) p_fT) p_fS)) p_fA) p_fO)
  | d + 1 => (p_one tp n true (p_lev tp n d).1 (p_lev tp n d).2.2, p_not tp n true (p_lev tp n d).2.1 (p_rep tp n (p_rep tp n (p_one tp n true (p_lev tp n d).1 (p_lev tp n d).2.2) p_fT) p_fS), p_rep tp n (p_rep tp n (p_not tp n true (p_lev tp n d).2.1 (p_rep tp n (p_rep tp n (p_one tp n true (p_lev tp n d).1 (p_lev tp n d).2.2) p_fT) p_fS)) p_fA) p_fO)
def p_One (tp : sF) (n d : Nat) : Nat → pR := (p_lev tp n d).1
def p_Term (tp : sF) (n d : Nat) : Nat → pR := p_rep tp n (p_One tp n d) p_fT
def p_Sum (tp : sF) (n d : Nat) : Nat → pR := p_rep tp n (p_Term tp n d) p_fS
def p_Not (tp : sF) (n d : Nat) : Nat → pR := (p_lev tp n d).2.1
def p_And (tp : sF) (n d : Nat) : Nat → pR := p_rep tp n (p_Not tp n d) p_fA
def p_Or (tp : sF) (n d : Nat) : Nat → pR := p_rep tp n (p_And tp n d) p_fO
section PGR
variable {tp : sF} {n a a' a1 z : Nat} {ok : Bool} {c c1 c2 : List Int32} {X : Nat → pR} {f : Int32 → Int32}
theorem p_Or_lev : ∀ d, (p_lev tp n d).2.2 = p_Or tp n d
  | 0 => rfl
  | d + 1 => rfl
theorem p_One_z : p_One tp n 0 = p_one tp n false (fun a => (false, a, [])) (fun a => (false, a, [])) := rfl
theorem p_One_s (d : Nat) : p_One tp n (d + 1) = p_one tp n true (p_One tp n d) (p_Or tp n d) := by
  rw [← p_Or_lev d]
  rfl
theorem p_Not_z : p_Not tp n 0 = p_not tp n false (fun a => (false, a, [])) (p_Sum tp n 0) := rfl
theorem p_Not_s (d : Nat) : p_Not tp n (d + 1) = p_not tp n true (p_Not tp n d) (p_Sum tp n (d + 1)) := rfl
/-! a ONE -/
theorem p_One_any (d : Nat) : ∃ (b : Bool) (one or : Nat → pR), p_One tp n d = p_one tp n b one or := by
  cases d with
  | zero => exact ⟨_, _, _, p_One_z⟩
  | succ d => exact ⟨_, _, _, p_One_s d⟩
theorem p_One_2 {d : Nat} (h : p_tk tp n a = 2) : p_One tp n d a = (true, p_nx tp n a, [p_vl tp n a]) := by
  obtain ⟨b, o1, o2, e⟩ := p_One_any (tp := tp) (n := n) d
  rw [e]
  exact if_pos h
theorem p_One_3 {d : Nat} (h : p_tk tp n a = 3) : p_One tp n d a = (true, p_nx tp n a, [-1 - p_vl tp n a]) := by
  obtain ⟨b, o1, o2, e⟩ := p_One_any (tp := tp) (n := n) d
  rw [e, p_one, if_neg (by rw [h]; decide), if_pos h]
theorem p_One_x {d : Nat} (h2 : ¬ p_tk tp n a = 2) (h3 : ¬ p_tk tp n a = 3) (h4 : ¬ p_tk tp n a = 45) (h5 : ¬ p_tk tp n a = 40) : p_One tp n d a = (false, a, []) := by
  obtain ⟨b, o1, o2, e⟩ := p_One_any (tp := tp) (n := n) d
  rw [e, p_one, if_neg h2, if_neg h3, if_neg h4, if_neg h5]
theorem p_One_m0 (h : p_tk tp n a = 45) : p_One tp n 0 a = (false, a, []) := by
  rw [p_One_z, p_one, if_neg (by rw [h]; decide), if_neg (by rw [h]; decide), if_pos h]
  rfl
theorem p_One_p0 (h : p_tk tp n a = 40) : p_One tp n 0 a = (false, a, []) := by
  rw [p_One_z, p_one, if_neg (by rw [h]; decide), if_neg (by rw [h]; decide), if_neg (by rw [h]; decide), if_pos h]
  rfl
theorem p_One_m {d : Nat} (h : p_tk tp n a = 45) (hr : p_One tp n d (p_nx tp n a) = (ok, a', c)) : p_One tp n (d + 1) a = (ok, a', c ++ [-7]) := by
  rw [p_One_s, p_one, if_neg (by rw [h]; decide), if_neg (by rw [h]; decide), if_pos h, if_pos rfl, hr]
theorem p_One_pt {d : Nat} (h : p_tk tp n a = 40) (hr : p_Or tp n d (p_nx tp n a) = (true, a', c)) (h2 : p_tk tp n a' = 41) : p_One tp n (d + 1) a = (true, p_nx tp n a', c) := by
  rw [p_One_s, p_one, if_neg (by rw [h]; decide), if_neg (by rw [h]; decide), if_neg (by rw [h]; decide), if_pos h, if_pos rfl, hr, if_pos rfl]
  exact if_pos h2
theorem p_One_pf {d : Nat} (h : p_tk tp n a = 40) (hr : p_Or tp n d (p_nx tp n a) = (true, a', c)) (h2 : ¬ p_tk tp n a' = 41) : p_One tp n (d + 1) a = (false, a', c) := by
  rw [p_One_s, p_one, if_neg (by rw [h]; decide), if_neg (by rw [h]; decide), if_neg (by rw [h]; decide), if_pos h, if_pos rfl, hr, if_pos rfl]
  exact if_neg h2
theorem p_One_pg {d : Nat} (h : p_tk tp n a = 40) (hr : p_Or tp n d (p_nx tp n a) = (false, a', c)) : p_One tp n (d + 1) a = (false, a', c) := by
  rw [p_One_s, p_one, if_neg (by rw [h]; decide), if_neg (by rw [h]; decide), if_neg (by rw [h]; decide), if_pos h, if_pos rfl, hr]
  exact if_neg (fun h9 => absurd (show false = true from h9) (by decide))
/-! loops -/
theorem p_loop_x {m : Nat} (h : f (p_tk tp n a) = 0) : p_loop tp n X f m (true, a, c) = (true, a, c) := by
  cases m with
  | zero => rfl
  | succ m => exact if_neg (fun h9 => h9.2 h)
theorem p_loop_f {m : Nat} : p_loop tp n X f m (false, a, c) = (false, a, c) := by
  cases m with
  | zero => rfl
  | succ m => exact if_neg (fun h9 => absurd (show false = true from h9.1) (by decide))
theorem p_loop_s {m : Nat} (h : ¬ f (p_tk tp n a) = 0) (hr : X (p_nx tp n a) = (ok, a', c2)) : p_loop tp n X f (m + 1) (true, a, c) = p_loop tp n X f m (ok, a', c ++ c2 ++ [f (p_tk tp n a)]) := by
  show (if _ then _ else _) = _
  rw [if_pos ⟨rfl, h⟩]
  show p_loop tp n X f m ((X (p_nx tp n a)).1, (X (p_nx tp n a)).2.1, c ++ (X (p_nx tp n a)).2.2 ++ [f (p_tk tp n a)]) = _
  rw [hr]
theorem p_rep_1 (hr : X a = (ok, a', c)) : p_rep tp n X f a = p_loop tp n X f 160 (ok, a', c) := by rw [p_rep, hr]
/-! a NOT -/
theorem p_Not_c {d : Nat} (h : ¬ p_tk tp n a = 9) : p_Not tp n d a = p_cmp tp n (p_Sum tp n d) a := by
  cases d with
  | zero => rw [p_Not_z]; exact if_neg h
  | succ d => rw [p_Not_s]; exact if_neg h
theorem p_Not_0 (h : p_tk tp n a = 9) : p_Not tp n 0 a = (false, a, []) := by
  rw [p_Not_z, p_not, if_pos h]
  rfl
theorem p_Not_n {d : Nat} (h : p_tk tp n a = 9) (hr : p_Not tp n d (p_nx tp n a) = (ok, a', c)) : p_Not tp n (d + 1) a = (ok, a', c ++ [-8]) := by
  rw [p_Not_s, p_not, if_pos h, if_pos rfl, hr]
theorem p_cmp_f (hr : X a = (false, a', c)) : p_cmp tp n X a = (false, a', c) := by
  rw [p_cmp, hr]
  exact if_neg (fun h9 => absurd (show false = true from h9.1) (by decide))
theorem p_cmp_x (hr : X a = (true, a', c)) (h1 : ¬ p_tk tp n a' = 60) (h2 : ¬ p_tk tp n a' = 61) : p_cmp tp n X a = (true, a', c) := by
  rw [p_cmp, hr]
  exact if_neg (fun h9 => h9.2.elim h1 h2)
theorem p_cmp_1 (hr : X a = (true, a', c)) (h1 : p_tk tp n a' = 60) (h2 : X (p_nx tp n a') = (ok, a1, c1)) : p_cmp tp n X a = (ok, a1, c ++ c1 ++ [-12]) := by
  rw [p_cmp, hr]
  show (if _ then ((X (p_nx tp n a')).1, (X (p_nx tp n a')).2.1, c ++ (X (p_nx tp n a')).2.2 ++ [if p_tk tp n a' = 60 then -12 else -13]) else _) = _
  rw [if_pos ⟨rfl, Or.inl h1⟩, h2, if_pos h1]
theorem p_cmp_2 (hr : X a = (true, a', c)) (h1 : p_tk tp n a' = 61) (h2 : X (p_nx tp n a') = (ok, a1, c1)) : p_cmp tp n X a = (ok, a1, c ++ c1 ++ [-13]) := by
  rw [p_cmp, hr]
  show (if _ then ((X (p_nx tp n a')).1, (X (p_nx tp n a')).2.1, c ++ (X (p_nx tp n a')).2.2 ++ [if p_tk tp n a' = 60 then -12 else -13]) else _) = _
  rw [if_pos ⟨rfl, Or.inr h1⟩, h2, if_neg (by rw [h1]; decide)]
end PGR
/-! what every parser keeps: it goes on, has no more operations than bytes, and they leave one number -/
def p_dep (c : List Int32) : Prop := ∀ d, c.foldl s_dp (some d) = some (d + 1)
def p_good (n : Nat) (X : Nat → pR) : Prop := ∀ (a a' : Nat) (ok : Bool) (c : List Int32), a ≤ n → X a = (ok, a', c) → a ≤ a' ∧ a' ≤ n ∧ (ok = true → a < a' ∧ c.length ≤ a' - a ∧ p_dep c)
section PGD
variable {tp : sF} {n : Nat} {X : Nat → pR} {f : Int32 → Int32}
theorem p_dep_1 {v : Int32} (h : -6 ≤ v) : p_dep [v] := fun d => by
  show s_dp (some d) v = some (d + 1)
  simp [s_dp, h]
theorem p_dep_u {c : List Int32} {v : Int32} (hc : p_dep c) (h6 : ¬ -6 ≤ v) (h8 : -8 ≤ v) : p_dep (c ++ [v]) := fun d => by
  rw [List.foldl_append, hc d]
  show s_dp (some (d + 1)) v = some (d + 1)
  simp [s_dp, h6, h8]
theorem p_dep_b {c c2 : List Int32} {v : Int32} (hc : p_dep c) (hc2 : p_dep c2) (h6 : ¬ -6 ≤ v) (h8 : ¬ -8 ≤ v) (h5 : -15 ≤ v) : p_dep (c ++ c2 ++ [v]) := fun d => by
  rw [List.foldl_append, List.foldl_append, hc d, hc2 (d + 1)]
  show s_dp (some (d + 1 + 1)) v = some (d + 1)
  simp [s_dp, h6, h8, h5]
def p_fok (f : Int32 → Int32) : Prop := f 0 = 0 ∧ ∀ t, f t = 0 ∨ (¬ -6 ≤ f t ∧ ¬ -8 ≤ f t ∧ -15 ≤ f t)
theorem p_fT_ok : p_fok p_fT := ⟨by decide, fun t => by unfold p_fT; split; exact Or.inr (by decide); exact Or.inl rfl⟩
theorem p_fS_ok : p_fok p_fS := ⟨by decide, fun t => by unfold p_fS; split; exact Or.inr (by decide); split; exact Or.inr (by decide); exact Or.inl rfl⟩
theorem p_fA_ok : p_fok p_fA := ⟨by decide, fun t => by unfold p_fA; split; exact Or.inr (by decide); exact Or.inl rfl⟩
theorem p_fO_ok : p_fok p_fO := ⟨by decide, fun t => by unfold p_fO; split; exact Or.inr (by decide); exact Or.inl rfl⟩
theorem p_loop_good (hX : p_good n X) (hf : p_fok f) {a0 : Nat} : ∀ (m a1 a' : Nat) (ok1 ok : Bool) (c1 c : List Int32), a1 ≤ n → a0 ≤ a1 → (ok1 = true → a0 < a1 ∧ c1.length ≤ a1 - a0 ∧ p_dep c1) → p_loop tp n X f m (ok1, a1, c1) = (ok, a', c) → a0 ≤ a' ∧ a' ≤ n ∧ (ok = true → a0 < a' ∧ c.length ≤ a' - a0 ∧ p_dep c)
  | 0, a1, a', ok1, ok, c1, c, h1, h0, h2, hr => by
    cases hr
    exact ⟨h0, h1, h2⟩
  | m + 1, a1, a', false, ok, c1, c, h1, h0, h2, hr => by
    rw [p_loop_f] at hr
    cases hr
    exact ⟨h0, h1, fun h9 => absurd h9 (by decide)⟩
  | m + 1, a1, a', true, ok, c1, c, h1, h0, h2, hr => by
    by_cases ht : f (p_tk tp n a1) = 0
    · rw [p_loop_x ht] at hr
      cases hr
      exact ⟨h0, h1, h2⟩
    · obtain ⟨⟨ok2, a2, c2⟩, hX2⟩ : ∃ r, X (p_nx tp n a1) = r := ⟨_, rfl⟩
      rw [p_loop_s ht hX2] at hr
      have ht0 : ¬ p_tk tp n a1 = 0 := fun e => ht (by rw [e]; exact hf.1)
      have g1 := p_nx_gt2 ht0
      have g2 := p_nx_le (tp := tp) h1
      obtain ⟨k1, k2, k3⟩ := hX _ _ _ _ g2 hX2
      refine p_loop_good hX hf m a2 a' ok2 ok _ c k2 (by omega) (fun e => ?_) hr
      obtain ⟨j1, j2, j3⟩ := k3 e
      obtain ⟨i1, i2, i3⟩ := h2 rfl
      obtain ⟨f1, f2, f3⟩ := (hf.2 (p_tk tp n a1)).resolve_left ht
      refine ⟨by omega, ?_, p_dep_b i3 j3 f1 f2 f3⟩
      rw [List.length_append, List.length_append, List.length_singleton]
      omega
theorem p_rep_good (hX : p_good n X) (hf : p_fok f) : p_good n (p_rep tp n X f) := fun a a' ok c ha hr => by
  obtain ⟨⟨ok1, a1, c1⟩, h1⟩ : ∃ r, X a = r := ⟨_, rfl⟩
  rw [p_rep_1 h1] at hr
  obtain ⟨k1, k2, k3⟩ := hX _ _ _ _ ha h1
  exact p_loop_good hX hf 160 a1 a' ok1 ok c1 c k2 k1 k3 hr
theorem p_cmp_good (hX : p_good n X) : p_good n (p_cmp tp n X) := fun a a' ok c ha hr => by
  obtain ⟨⟨ok1, a1, c1⟩, h1⟩ : ∃ r, X a = r := ⟨_, rfl⟩
  obtain ⟨k1, k2, k3⟩ := hX _ _ _ _ ha h1
  cases ok1 with
  | false =>
    rw [p_cmp_f h1] at hr
    cases hr
    exact ⟨k1, k2, k3⟩
  | true =>
    by_cases q : p_tk tp n a1 = 60 ∨ p_tk tp n a1 = 61
    · obtain ⟨⟨ok2, a2, c2⟩, h2⟩ : ∃ r, X (p_nx tp n a1) = r := ⟨_, rfl⟩
      have ht0 : ¬ p_tk tp n a1 = 0 := fun e => q.elim (fun h9 => absurd (e.symm.trans h9) (by decide)) (fun h9 => absurd (e.symm.trans h9) (by decide))
      have g1 := p_nx_gt2 ht0
      have g2 := p_nx_le (tp := tp) k2
      obtain ⟨j1, j2, j3⟩ := hX _ _ _ _ g2 h2
      obtain ⟨i1, i2, i3⟩ := k3 rfl
      rcases q with q | q
      · rw [p_cmp_1 h1 q h2] at hr
        cases hr
        refine ⟨by omega, j2, fun e => ?_⟩
        obtain ⟨l1, l2, l3⟩ := j3 e
        refine ⟨by omega, ?_, p_dep_b i3 l3 (by decide) (by decide) (by decide)⟩
        rw [List.length_append, List.length_append, List.length_singleton]
        omega
      · rw [p_cmp_2 h1 q h2] at hr
        cases hr
        refine ⟨by omega, j2, fun e => ?_⟩
        obtain ⟨l1, l2, l3⟩ := j3 e
        refine ⟨by omega, ?_, p_dep_b i3 l3 (by decide) (by decide) (by decide)⟩
        rw [List.length_append, List.length_append, List.length_singleton]
        omega
    · rw [p_cmp_x h1 (fun h9 => q (Or.inl h9)) (fun h9 => q (Or.inr h9))] at hr
      cases hr
      exact ⟨k1, k2, k3⟩
end PGD
/-! numbers and names as operations -/
theorem p_run_all {P : Int32 → Bool} {tp : sF} : ∀ (m a j : Nat), a ≤ j → j < p_run P tp m a → P (tp j) = true
  | 0, a, j, h1, h2 => by
    have h2 : j < a := h2
    omega
  | m + 1, a, j, h1, h2 => by
    rw [p_run] at h2
    by_cases h : P (tp a) = true
    · rw [if_pos h] at h2
      by_cases e : j = a
      · rw [e]; exact h
      · exact p_run_all m (a + 1) j (by omega) h2
    · rw [if_neg h] at h2
      omega
theorem p_num_rng {tp : sF} {q : Nat} : ∀ k, k ≤ 4 → (∀ j, j < k → p_dg (tp (q + j)) = true) → ∃ v, v < 10 ^ k ∧ p_num tp q k = nI v
  | 0, _, _ => ⟨0, by decide, nI_0.symm⟩
  | k + 1, hk, h => by
    obtain ⟨v, h1, h2⟩ := p_num_rng k (by omega) (fun j hj => h j (by omega))
    have h3 : 48 ≤ tp (q + k) ∧ tp (q + k) ≤ 57 := by
      have := h k (by omega)
      unfold p_dg at this
      exact of_decide_eq_true this
    obtain ⟨b, hb, e⟩ := q_w (n := 57) rfl (by decide) ⟨Int32.le_trans (by decide) h3.1, h3.2⟩
    have hb2 : 48 ≤ b := by
      have := h3.1
      rw [e] at this
      exact (nI_leI (a := 48) (by decide) (by omega)).mp this
    have hp : 10 ^ k ≤ 10 ^ 3 := Nat.pow_le_pow_right (by decide) (by omega)
    have h4 : (10 : Int32) = nI 10 := rfl
    refine ⟨v * 10 + b - 48, by rw [Nat.pow_succ]; omega, ?_⟩
    rw [p_num, h2, e, h4, show (48 : Int32) = nI 48 from rfl, pk_mul, nI_add, pk_sub (by omega)]
section PVL
variable {tp : sF} {n a : Nat}
theorem p_wix_rng (l : List Int32) : p_wix l = -1 ∨ p_wix l = 0 ∨ p_wix l = 1 ∨ p_wix l = 2 ∨ p_wix l = 3 ∨ p_wix l = 4 ∨ p_wix l = 5 ∨ p_wix l = 6 ∨ p_wix l = 7 ∨ p_wix l = 8 ∨ p_wix l = 9 ∨ p_wix l = 10 ∨ p_wix l = 11 := by
  unfold p_wix
  repeat' split
  all_goals simp
theorem p_tk_2 (h : p_tk tp n a = 2) : p_pl tp n a < n ∧ p_dg (tp (p_pl tp n a)) = true ∧ p_nx tp n a - p_pl tp n a ≤ 4 := by
  have h0 : p_pl tp n a < n := p_tk_lt (by rw [h]; decide)
  unfold p_tk at h
  rw [if_neg (by omega)] at h
  by_cases d : p_dg (tp (p_pl tp n a)) = true
  · rw [if_pos d] at h
    by_cases k : 4 < p_nx tp n a - p_pl tp n a
    · rw [if_pos k] at h
      exact absurd h (by decide)
    · exact ⟨h0, d, by omega⟩
  · rw [if_neg d] at h
    by_cases l : p_le (tp (p_pl tp n a)) = true
    · rw [if_pos l] at h
      unfold p_wd at h
      revert h
      rcases p_wix_rng (p_w tp (p_pl tp n a) (p_nx tp n a)) with e | e | e | e | e | e | e | e | e | e | e | e | e <;> rw [e] <;> (intro h; exact absurd h (by decide))
    · rw [if_neg l] at h
      by_cases g : p_sg (tp (p_pl tp n a)) = true
      · rw [if_pos g] at h
        rw [h] at g
        exact absurd g (by decide)
      · rw [if_neg g] at h
        exact absurd h (by decide)
theorem p_vl_2 (h : p_tk tp n a = 2) : ∃ v, v < 10000 ∧ p_vl tp n a = nI v := by
  obtain ⟨h0, d, k⟩ := p_tk_2 h
  have hn : p_nx tp n a = p_sk p_dg tp n (p_pl tp n a) := by
    unfold p_nx
    rw [if_neg (by omega), if_pos d]
  obtain ⟨v, h1, h2⟩ := p_num_rng (tp := tp) (q := p_pl tp n a) (p_nx tp n a - p_pl tp n a) k (fun j hj => by
    refine p_run_all (n - p_pl tp n a) (p_pl tp n a) _ (by omega) ?_
    show p_pl tp n a + j < p_sk p_dg tp n (p_pl tp n a)
    rw [← hn]
    omega)
  have hp : 10 ^ (p_nx tp n a - p_pl tp n a) ≤ 10 ^ 4 := Nat.pow_le_pow_right (by decide) k
  refine ⟨v, by omega, ?_⟩
  unfold p_vl
  rw [if_pos d, h2]
theorem p_tk_3 (h : p_tk tp n a = 3) : p_pl tp n a < n ∧ p_dg (tp (p_pl tp n a)) = false ∧ p_le (tp (p_pl tp n a)) = true ∧ ∃ v, v < 6 ∧ p_wd tp n a = nI (6 + v) := by
  have h0 : p_pl tp n a < n := p_tk_lt (by rw [h]; decide)
  unfold p_tk at h
  rw [if_neg (by omega)] at h
  by_cases d : p_dg (tp (p_pl tp n a)) = true
  · rw [if_pos d] at h
    by_cases k : 4 < p_nx tp n a - p_pl tp n a
    · rw [if_pos k] at h
      exact absurd h (by decide)
    · rw [if_neg k] at h
      exact absurd h (by decide)
  · rw [if_neg d] at h
    refine ⟨h0, by simpa using d, ?_⟩
    by_cases l : p_le (tp (p_pl tp n a)) = true
    · refine ⟨l, ?_⟩
      rw [if_pos l] at h
      unfold p_wd at h ⊢
      revert h
      rcases p_wix_rng (p_w tp (p_pl tp n a) (p_nx tp n a)) with e | e | e | e | e | e | e | e | e | e | e | e | e <;> rw [e] <;> intro h
      all_goals first | exact absurd h (by decide) | exact ⟨0, by decide, rfl⟩ | exact ⟨1, by decide, rfl⟩ | exact ⟨2, by decide, rfl⟩ | exact ⟨3, by decide, rfl⟩ | exact ⟨4, by decide, rfl⟩ | exact ⟨5, by decide, rfl⟩
    · rw [if_neg l] at h
      by_cases g : p_sg (tp (p_pl tp n a)) = true
      · rw [if_pos g] at h
        rw [h] at g
        exact absurd g (by decide)
      · rw [if_neg g] at h
        exact absurd h (by decide)
theorem p_vl_3 (h : p_tk tp n a = 3) : ∃ v, v < 6 ∧ p_vl tp n a = nI v := by
  obtain ⟨h0, d, l, v, hv, e⟩ := p_tk_3 h
  refine ⟨v, hv, ?_⟩
  unfold p_vl
  rw [if_neg (by rw [d]; decide), e, show (6 : Int32) = nI 6 from rfl, pk_sub (by omega), Nat.add_sub_cancel_left]
theorem p_op_2 (h : p_tk tp n a = 2) : -6 ≤ p_vl tp n a := by
  obtain ⟨v, h1, e⟩ := p_vl_2 h
  rw [e]
  exact Int32.le_trans (by decide) (nI_ge0 (by omega))
theorem p_op_3 (h : p_tk tp n a = 3) : -6 ≤ -1 - p_vl tp n a := by
  obtain ⟨v, h1, e⟩ := p_vl_3 h
  rw [e]
  rcases (show v = 0 ∨ v = 1 ∨ v = 2 ∨ v = 3 ∨ v = 4 ∨ v = 5 by omega) with rfl | rfl | rfl | rfl | rfl | rfl <;> decide
end PVL
section PLV
variable {tp : sF} {n : Nat}
theorem p_one_good {b : Bool} {one or : Nat → pR} (h1 : b = true → p_good n one ∧ p_good n or) : p_good n (p_one tp n b one or) := fun a a' ok c ha hr => by
  have hf : ∀ x : List Int32, (false, a, x) = (ok, a', c) → a ≤ a' ∧ a' ≤ n ∧ (ok = true → a < a' ∧ c.length ≤ a' - a ∧ p_dep c) := fun x e => by
    cases e
    exact ⟨Nat.le_refl _, ha, fun h9 => absurd h9 (by decide)⟩
  unfold p_one at hr
  by_cases t2 : p_tk tp n a = 2
  · rw [if_pos t2] at hr
    have g1 := p_nx_gt2 (show ¬ p_tk tp n a = 0 by rw [t2]; decide)
    have g2 := p_nx_le (tp := tp) ha
    cases hr
    exact ⟨by omega, g2, fun _ => ⟨g1, by rw [List.length_singleton]; omega, p_dep_1 (p_op_2 t2)⟩⟩
  · rw [if_neg t2] at hr
    by_cases t3 : p_tk tp n a = 3
    · rw [if_pos t3] at hr
      have g1 := p_nx_gt2 (show ¬ p_tk tp n a = 0 by rw [t3]; decide)
      have g2 := p_nx_le (tp := tp) ha
      cases hr
      exact ⟨by omega, g2, fun _ => ⟨g1, by rw [List.length_singleton]; omega, p_dep_1 (p_op_3 t3)⟩⟩
    · rw [if_neg t3] at hr
      by_cases t4 : p_tk tp n a = 45
      · rw [if_pos t4] at hr
        by_cases hb : b = true
        · rw [if_pos hb] at hr
          have g1 := p_nx_gt2 (show ¬ p_tk tp n a = 0 by rw [t4]; decide)
          have g2 := p_nx_le (tp := tp) ha
          obtain ⟨⟨ok1, a1, c1⟩, h9⟩ : ∃ r, one (p_nx tp n a) = r := ⟨_, rfl⟩
          rw [h9] at hr
          have hr : (ok1, a1, c1 ++ [-7]) = (ok, a', c) := hr
          obtain ⟨k1, k2, k3⟩ := (h1 hb).1 _ _ _ _ g2 h9
          cases hr
          refine ⟨by omega, k2, fun e => ?_⟩
          obtain ⟨j1, j2, j3⟩ := k3 e
          refine ⟨by omega, ?_, p_dep_u j3 (by decide) (by decide)⟩
          rw [List.length_append, List.length_singleton]
          omega
        · rw [if_neg hb] at hr
          exact hf _ hr
      · rw [if_neg t4] at hr
        by_cases t5 : p_tk tp n a = 40
        · rw [if_pos t5] at hr
          by_cases hb : b = true
          · rw [if_pos hb] at hr
            have g1 := p_nx_gt2 (show ¬ p_tk tp n a = 0 by rw [t5]; decide)
            have g2 := p_nx_le (tp := tp) ha
            obtain ⟨⟨ok1, a1, c1⟩, h9⟩ : ∃ r, or (p_nx tp n a) = r := ⟨_, rfl⟩
            rw [h9] at hr
            obtain ⟨k1, k2, k3⟩ := (h1 hb).2 _ _ _ _ g2 h9
            cases ok1 with
            | false =>
              rw [if_neg (fun h8 => absurd (show false = true from h8) (by decide))] at hr
              cases hr
              exact ⟨by omega, k2, fun e => absurd e (by decide)⟩
            | true =>
              rw [if_pos rfl] at hr
              have hr : (if p_tk tp n a1 = 41 then (true, p_nx tp n a1, c1) else (false, a1, c1)) = (ok, a', c) := hr
              by_cases t6 : p_tk tp n a1 = 41
              · rw [if_pos t6] at hr
                have l1 := p_nx_gt2 (show ¬ p_tk tp n a1 = 0 by rw [t6]; decide)
                have l2 := p_nx_le (tp := tp) k2
                obtain ⟨j1, j2, j3⟩ := k3 rfl
                cases hr
                refine ⟨by omega, l2, fun _ => ⟨by omega, ?_, j3⟩⟩
                skip
                omega
              · rw [if_neg t6] at hr
                cases hr
                exact ⟨by omega, k2, fun e => absurd e (by decide)⟩
          · rw [if_neg hb] at hr
            exact hf _ hr
        · rw [if_neg t5] at hr
          exact hf _ hr
theorem p_not_good {b : Bool} {nt sum : Nat → pR} (h1 : b = true → p_good n nt) (h2 : p_good n sum) : p_good n (p_not tp n b nt sum) := fun a a' ok c ha hr => by
  unfold p_not at hr
  by_cases t9 : p_tk tp n a = 9
  · rw [if_pos t9] at hr
    by_cases hb : b = true
    · rw [if_pos hb] at hr
      have g1 := p_nx_gt2 (show ¬ p_tk tp n a = 0 by rw [t9]; decide)
      have g2 := p_nx_le (tp := tp) ha
      obtain ⟨⟨ok1, a1, c1⟩, h9⟩ : ∃ r, nt (p_nx tp n a) = r := ⟨_, rfl⟩
      rw [h9] at hr
      have hr : (ok1, a1, c1 ++ [-8]) = (ok, a', c) := hr
      obtain ⟨k1, k2, k3⟩ := (h1 hb) _ _ _ _ g2 h9
      cases hr
      refine ⟨by omega, k2, fun e => ?_⟩
      obtain ⟨j1, j2, j3⟩ := k3 e
      refine ⟨by omega, ?_, p_dep_u j3 (by decide) (by decide)⟩
      rw [List.length_append, List.length_singleton]
      omega
    · rw [if_neg hb] at hr
      cases hr
      exact ⟨Nat.le_refl _, ha, fun h9 => absurd h9 (by decide)⟩
  · rw [if_neg t9] at hr
    exact p_cmp_good h2 a a' ok c ha hr
theorem p_lev_good : ∀ d, p_good n (p_One tp n d) ∧ p_good n (p_Not tp n d) ∧ p_good n (p_Or tp n d)
  | 0 => by
    have h1 : p_good n (p_One tp n 0) := by rw [p_One_z]; exact p_one_good (fun h => absurd h (by decide))
    have h2 : p_good n (p_Sum tp n 0) := p_rep_good (p_rep_good h1 p_fT_ok) p_fS_ok
    have h3 : p_good n (p_Not tp n 0) := by rw [p_Not_z]; exact p_not_good (fun h => absurd h (by decide)) h2
    exact ⟨h1, h3, p_rep_good (p_rep_good h3 p_fA_ok) p_fO_ok⟩
  | d + 1 => by
    obtain ⟨i1, i2, i3⟩ := p_lev_good d
    have h1 : p_good n (p_One tp n (d + 1)) := by rw [p_One_s]; exact p_one_good (fun _ => ⟨i1, i3⟩)
    have h2 : p_good n (p_Sum tp n (d + 1)) := p_rep_good (p_rep_good h1 p_fT_ok) p_fS_ok
    have h3 : p_good n (p_Not tp n (d + 1)) := by rw [p_Not_s]; exact p_not_good (fun _ => i2) h2
    exact ⟨h1, h3, p_rep_good (p_rep_good h3 p_fA_ok) p_fO_ok⟩
theorem p_One_good (d : Nat) : p_good n (p_One tp n d) := (p_lev_good d).1
theorem p_Term_good (d : Nat) : p_good n (p_Term tp n d) := p_rep_good (p_One_good d) p_fT_ok
theorem p_Sum_good (d : Nat) : p_good n (p_Sum tp n d) := p_rep_good (p_Term_good d) p_fS_ok
theorem p_Not_good (d : Nat) : p_good n (p_Not tp n d) := (p_lev_good d).2.1
theorem p_And_good (d : Nat) : p_good n (p_And tp n d) := p_rep_good (p_Not_good d) p_fA_ok
theorem p_Or_good (d : Nat) : p_good n (p_Or tp n d) := (p_lev_good d).2.2
end PLV
