/-! ===== what lies behind the last tree does not matter ===== -/
theorem g_k {T : sT} {so fr rn : Int32} {ts ts' h : sF} {t : Nat} (e : ts t = ts' t) : s_k T so fr rn ts h t = s_k T so fr rn ts' h t := by
  unfold s_k
  rw [e]
theorem g_acc {f : Int32} {k k' : sF} : ∀ n, (∀ t, t < n → k t = k' t) → s_acc f k n = s_acc f k' n
  | 0, _ => rfl
  | n + 1, h => by
    unfold s_acc
    rw [g_acc n (fun t ht => h t (by omega)), h n (by omega)]
theorem g_drop {tk tk' : Nat → Nat} {k k' x : sF} : ∀ n, (∀ t, t < n → k t = k' t ∧ tk t = tk' t) → s_drop tk k x n = s_drop tk' k' x n
  | 0, _ => rfl
  | n + 1, h => by
    unfold s_drop
    rw [g_drop n (fun t ht => h t (by omega)), (h n (by omega)).1, (h n (by omega)).2]
theorem g_left {n : Nat} {k k' h : sF} (e : ∀ t, t < n → k t = k' t) : s_left n k h = s_left n k' h := by
  funext t
  unfold s_left
  by_cases ht : t < n
  · rw [if_pos ht, if_pos ht, e t ht]
  · rw [if_neg ht, if_neg ht]
theorem g_h0 {n : Nat} {f g : sF} (e : ∀ t, t < n → f t = g t) : s_h0 n f = s_h0 n g := by
  funext t
  unfold s_h0
  by_cases ht : t < n
  · rw [if_pos ht, if_pos ht, e t ht]
  · rw [if_neg ht, if_neg ht]
section GC
variable {T : sT} {kf mf ts ts' lv tl tl' R1 R2 R3 : sF} {tk tk' wk : Nat → Nat} {tn : Nat} {P : Nat → Bool} {rg : Int32}
theorem g_b {wy : Nat} {so fr rn : Int32} {h D W : sF} {o : Int32} (e : ∀ t, t < tn → ts t = ts' t ∧ tk t = tk' t) : s_b T kf mf wy so fr rn ts tk tn h D W o = s_b T kf mf wy so fr rn ts' tk' tn h D W o := by
  have e1 : ∀ x : sF, s_drop tk (s_k T so fr rn ts h) x tn = s_drop tk' (s_k T so fr rn ts' h) x tn := fun x => g_drop tn (fun t ht => ⟨g_k (e t ht).1, (e t ht).2⟩)
  unfold s_b s_D2 s_W2 s_dropD s_dropW
  rw [e1, e1]
theorem g_gone (e : ∀ t, t < tn → ts t = ts' t ∧ tk t = tk' t ∧ tl t = tl' t) : ∀ d, s_gone (T, kf, mf, ts, tk, tn, lv, tl, P, rg, wk, R1, R2, R3) d = s_gone (T, kf, mf, ts', tk', tn, lv, tl', P, rg, wk, R1, R2, R3) d
  | 0 => by
    show s_begin lv tl tn = s_begin lv tl' tn
    unfold s_begin
    rw [g_h0 (fun t ht => (e t ht).2.2)]
  | d + 1 => by
    show s_day (T, kf, mf, ts, tk, tn, lv, tl, P, rg, wk, R1, R2, R3) d (s_gone (T, kf, mf, ts, tk, tn, lv, tl, P, rg, wk, R1, R2, R3) d) = s_day (T, kf, mf, ts', tk', tn, lv, tl', P, rg, wk, R1, R2, R3) d (s_gone (T, kf, mf, ts', tk', tn, lv, tl', P, rg, wk, R1, R2, R3) d)
    rw [g_gone e d]
    generalize s_gone (T, kf, mf, ts', tk', tn, lv, tl', P, rg, wk, R1, R2, R3) d = s
    obtain ⟨D, W, cv, h, f0, o, rt, rk, ct⟩ := s
    have e1 : s_left tn (s_k T (R1 d) (R2 d) (R3 d) ts h) h = s_left tn (s_k T (R1 d) (R2 d) (R3 d) ts' h) h := g_left (fun t ht => g_k (e t ht).1)
    have e2 : s_acc 0 (s_k T (R1 d) (R2 d) (R3 d) ts h) tn = s_acc 0 (s_k T (R1 d) (R2 d) (R3 d) ts' h) tn := g_acc tn (fun t ht => g_k (e t ht).1)
    have e3 : s_b T kf mf (wk d) (R1 d) (R2 d) (R3 d) ts tk tn h D W (o (wk d)) = s_b T kf mf (wk d) (R1 d) (R2 d) (R3 d) ts' tk' tn h D W (o (wk d)) := g_b (fun t ht => ⟨(e t ht).1, (e t ht).2.1⟩)
    simp only [s_day, e1, e2, e3]
end GC
/-- two gardens that differ behind the last tree alone -/
def gE (G G' : sG) : Prop := ∀ d, s_gone G d = s_gone G' d
section GO
variable {T : sT} {kf mf ts ts' lv tl tl' R1 R2 R3 : sF} {tk tk' wk : Nat → Nat} {tn : Nat} {P : Nat → Bool} {rg : Int32} {G G' : sG}
theorem g_of (hG : G = (T, kf, mf, ts, tk, tn, lv, tl, P, rg, wk, R1, R2, R3)) (hG' : G' = (T, kf, mf, ts', tk', tn, lv, tl', P, rg, wk, R1, R2, R3)) (e : ∀ t, t < tn → ts t = ts' t ∧ tk t = tk' t ∧ tl t = tl' t) : gE G G' ∧ o_tn G = o_tn G' ∧ o_P G = o_P G' ∧ o_lv G = o_lv G' ∧ s_fl G = s_fl G' ∧ (∀ r, gE (o_rg G r) (o_rg G' r)) ∧ (∀ sd, gE (o_dr G sd) (o_dr G' sd)) ∧ (∀ k, gE (o_wy G k) (o_wy G' k)) ∧ (∀ c m, gE (o_hu G c m) (o_hu G' c m)) ∧ (∀ T9, gE (o_lt G T9) (o_lt G' T9)) ∧ (∀ d k, gE (o_wd G d k) (o_wd G' d k)) ∧ ∀ n wy so, o_night G n wy so = o_night G' n wy so := by
  subst hG
  subst hG'
  refine ⟨g_gone e, rfl, rfl, rfl, ?_, fun r => g_gone e, fun sd => g_gone e, fun k => g_gone e, fun c m => g_gone e, fun T9 => g_gone e, fun d k => g_gone e, fun n wy so => ?_⟩
  · funext d
    unfold s_fl
    rw [g_gone e]
  · show s_blow T kf mf wy so 0 (s_gone _ n).1 (s_gone _ n).2.1 ((s_gone _ n).2.2.2.2.2.1 wy) = s_blow T kf mf wy so 0 (s_gone _ n).1 (s_gone _ n).2.1 ((s_gone _ n).2.2.2.2.2.1 wy)
    rw [g_gone e]
end GO
/-- all that the calls ask of two such gardens -/
def gA (G G' : sG) : Prop := gE G G' ∧ o_tn G = o_tn G' ∧ o_P G = o_P G' ∧ o_lv G = o_lv G' ∧ s_fl G = s_fl G' ∧ (∀ r, gE (o_rg G r) (o_rg G' r)) ∧ (∀ sd, gE (o_dr G sd) (o_dr G' sd)) ∧ (∀ k, gE (o_wy G k) (o_wy G' k)) ∧ (∀ c m, gE (o_hu G c m) (o_hu G' c m)) ∧ (∀ T9, gE (o_lt G T9) (o_lt G' T9)) ∧ (∀ d k, gE (o_wd G d k) (o_wd G' d k)) ∧ ∀ n wy so, o_night G n wy so = o_night G' n wy so
section GQ
variable {G G' : sG}
theorem g_lie (h : gA G G') (n c w : Int32) : o_lie G n c w = o_lie G' n c w := by unfold o_lie; rw [h.1]
theorem g_sum (h : gA G G') (n w : Int32) : o_sum G n w = o_sum G' n w := by unfold o_sum; rw [h.1]
theorem g_hang (h : gA G G') (n t : Int32) : o_hang G n t = o_hang G' n t := by unfold o_hang; rw [h.1, h.2.1]
theorem g_great (h : gA G G') (w : Int32) : o_great G w = o_great G' w := by unfold o_great; rw [h.2.2.2.2.1]
theorem g_worst (h : gA G G') (n w : Int32) : o_worst G n w = o_worst G' n w := by unfold o_worst; rw [h.1]
theorem g_corner (h : gA G G') (n w : Int32) : o_corner G n w = o_corner G' n w := by unfold o_corner; rw [h.1]
theorem g_ls (h : gA G G') (most : Int32) : ∀ k, o_ls G most k = o_ls G' most k
  | 0 => rfl
  | k + 1 => by
    unfold o_ls
    rw [g_ls h most k, h.2.2.2.2.2.1]
theorem g_least (h : gA G G') (most w : Int32) : o_least G most w = o_least G' most w := by unfold o_least; rw [g_ls h]
theorem g_thrice (h : gA G G') : o_thrice G = o_thrice G' := by unfold o_thrice; rw [h.2.2.2.2.2.1, h.2.2.2.2.2.1]
theorem g_where (h : gA G G') (n w : Int32) : o_where G n w = o_where G' n w := by unfold o_where; rw [h.1]
theorem g_raking (h : gA G G') (n : Int32) : o_raking G n = o_raking G' n := by unfold o_raking; rw [h.1, h.2.2.1]
theorem g_tonight (h : gA G G') (n ws w : Int32) : o_tonight G n ws w = o_tonight G' n ws w := by unfold o_tonight; rw [h.1, h.2.2.2.2.2.2.2.2.2.2.2]
theorem g_hurdle (h : gA G G') (n m p : Int32) : o_hurdle G n m p = o_hurdle G' n m p := by
  have e : ∀ n m, o_hul G n m = o_hul G' n m := fun n m => by
    funext c
    unfold o_hul
    rw [h.2.2.2.2.2.2.2.2.1 c m n]
  unfold o_hurdle
  rw [e]
theorem g_share (h : gA G G') (n w p : Int32) : o_share G n w p = o_share G' n w p := by unfold o_share; rw [h.1, h.2.2.2.1, h.2.2.2.2.1]
theorem g_away (h : gA G G') (p : Int32) : o_away G p = o_away G' p := by
  have e : o_aw G = o_aw G' := by
    funext k
    unfold o_aw
    rw [h.2.2.2.2.2.2.2.1 k 14]
  unfold o_away
  rw [e]
theorem g_judge (h : gA G G') (so : Int32) (nz : Nat) (g : sF) (s n : Int32) : o_judge G so nz g s n = o_judge G' so nz g s n := by unfold o_judge; rw [h.1]
theorem g_lwb (h : gA G G') (TT : Nat → sT) (g : sF) (n : Nat) : ∀ t, o_lwb G TT g n t = o_lwb G' TT g n t
  | 0 => rfl
  | t + 1 => by
    unfold o_lwb
    rw [g_lwb h TT g n t, h.2.2.2.2.2.2.2.2.2.1 (TT t) n]
theorem g_laws (h : gA G G') (TT : Nat → sT) (wr : Nat) (so : Int32) (nz : Nat) (g : sF) (s n : Int32) : o_laws G TT wr so nz g s n = o_laws G' TT wr so nz g s n := by unfold o_laws; rw [g_lwb h]
theorem g_wnb (h : gA G G') (g : sF) (n : Nat) : ∀ k, o_wnb G g n k = o_wnb G' g n k
  | 0 => rfl
  | k + 1 => by
    unfold o_wnb
    rw [g_wnb h g n k, h.2.2.2.2.2.2.2.2.2.2.1 (n - 1) k n]
theorem g_winds (h : gA G G') (so : Int32) (nz : Nat) (g : sF) (s n : Int32) : o_winds G so nz g s n = o_winds G' so nz g s n := by unfold o_winds; rw [g_wnb h]
theorem g_drawn (h : gA G G') (sd n w : Int32) : o_drawn G sd n w = o_drawn G' sd n w := by unfold o_drawn; rw [h.2.2.2.2.2.2.1 (o_n sd) (o_n n)]
theorem g_od (h : gA G G') (sd : Nat) (most : Int32) : ∀ k, o_od G sd most k = o_od G' sd most k
  | 0 => rfl
  | k + 1 => by
    unfold o_od
    rw [g_od h sd most k, h.2.2.2.2.2.2.1 (sd + k) 14]
theorem g_odds (h : gA G G') (sd n most p : Int32) : o_odds G sd n most p = o_odds G' sd n most p := by unfold o_odds; rw [g_od h]
theorem g_film (h : gA G G') (g : sF) (s n : Int32) : o_film_g G g s n = o_film_g G' g s n := by unfold o_film_g; rw [h.1]
end GQ
/-! looks at a sheet: what lies behind its numbers does not matter -/
theorem g_ul {P P' : Nat → Bool} : ∀ (n c : Nat), (∀ j, j < n + c → P j = P' j) → s_ul P n c = s_ul P' n c
  | 0, _, _ => rfl
  | n + 1, c, h => by
    unfold s_ul
    rw [g_ul n (c + 1) (fun j hj => h j (by omega)), h c (by omega)]
theorem g_look {g g' : sF} {s : sS} (h : ∀ j, j < 36 → g j = g' j) : o_look g s = o_look g' s := by
  unfold o_look
  exact g_ul 36 0 (fun j hj => by rw [h j hj])
/-- two sheets, as calls see them -/
def gS (so : Int32) (nz nz' : Nat) (g g' : sF) : Prop := so ≠ -1 → nz = nz' ∧ ∀ j, j < 40 → g j = g' j
theorem g_unfit {so : Int32} {nz nz' : Nat} {g g' : sF} (h : gS so nz nz' g g') (s n le : Int32) : o_unfit so nz s n le = o_unfit so nz' s n le := by
  by_cases e : so = -1
  · unfold o_unfit
    rw [if_pos e, if_pos e]
  · rw [(h e).1]
theorem g_unfit1 {so : Int32} {nz : Nat} {s n le : Int32} (h : o_unfit so nz s n le = 0) : so ≠ -1 := fun e => by
  unfold o_unfit at h
  rw [if_pos e] at h
  split at h <;> cases h
theorem g_judgeS {G : sG} {so : Int32} {nz nz' : Nat} {g g' : sF} (h : gS so nz nz' g g') (s n : Int32) : o_judge G so nz g s n = o_judge G so nz' g' s n := by
  unfold o_judge
  rw [g_unfit h]
  by_cases e : o_unfit so nz' s n 0 = 0
  · rw [if_pos e, if_pos e]
    exact g_look (fun j hj => (h (g_unfit1 e)).2 j (by omega))
  · rw [if_neg e, if_neg e]
theorem g_lwbS {G : sG} {TT : Nat → sT} {g g' : sF} {n : Nat} (h : ∀ j, j < 36 → g j = g' j) : ∀ t, o_lwb G TT g n t = o_lwb G TT g' n t
  | 0 => rfl
  | t + 1 => by
    unfold o_lwb
    rw [g_lwbS h t, g_look h]
theorem g_lwbT {G : sG} {TT TT' : Nat → sT} {g : sF} {n : Nat} : ∀ t, (∀ j, j < t → TT j = TT' j) → o_lwb G TT g n t = o_lwb G TT' g n t
  | 0, _ => rfl
  | t + 1, h => by
    unfold o_lwb
    rw [g_lwbT t (fun j hj => h j (by omega)), h t (by omega)]
theorem g_lawsS {G : sG} {TT : Nat → sT} {wr : Nat} {so : Int32} {nz nz' : Nat} {g g' : sF} (h : gS so nz nz' g g') (s n : Int32) : o_laws G TT wr so nz g s n = o_laws G TT wr so nz' g' s n := by
  unfold o_laws
  rw [g_unfit h]
  by_cases e : o_unfit so nz' s n 0 = 0
  · rw [if_pos e, if_pos e]
    exact g_lwbS (fun j hj => (h (g_unfit1 e)).2 j (by omega)) _
  · rw [if_neg e, if_neg e]
theorem g_wnbS {G : sG} {g g' : sF} {n : Nat} (h : ∀ j, j < 36 → g j = g' j) : ∀ t, o_wnb G g n t = o_wnb G g' n t
  | 0 => rfl
  | t + 1 => by
    unfold o_wnb
    rw [g_wnbS h t, g_look h]
theorem g_windsS {G : sG} {so : Int32} {nz nz' : Nat} {g g' : sF} (h : gS so nz nz' g g') (s n : Int32) : o_winds G so nz g s n = o_winds G so nz' g' s n := by
  unfold o_winds
  rw [g_unfit h]
  by_cases e : o_unfit so nz' s n 1 = 0
  · rw [if_pos e, if_pos e]
    exact g_wnbS (fun j hj => (h (g_unfit1 e)).2 j (by omega)) _
  · rw [if_neg e, if_neg e]
theorem g_cellS {so : Int32} {nz nz' : Nat} {g g' : sF} (h : gS so nz nz' g g') (s i v : Int32) : o_cell so nz s i v = o_cell so nz' s i v := by
  by_cases e : so = -1
  · unfold o_cell
    rw [if_pos e, if_pos e]
  · rw [(h e).1]
theorem g_copyS {so so2 : Int32} {nz nz' nz2 nz2' : Nat} {g g' g2 g2' : sF} (h : gS so nz nz' g g') (h2 : gS so2 nz2 nz2' g2 g2') (s i t j n : Int32) : o_copy so nz so2 nz2 s i t j n = o_copy so nz' so2 nz2' s i t j n := by
  by_cases e : so = -1
  · unfold o_copy
    rw [if_pos e, if_pos e]
  · by_cases e2 : so2 = -1
    · unfold o_copy
      rw [if_pos e2, if_pos e2]
    · rw [(h e).1, (h2 e2).1]
/-! trees -/
def gT (tn : Nat) (a b c a' b' c' : sF) : Prop := ∀ t, t < tn → a t = a' t ∧ b t = b' t ∧ c t = c' t
theorem g_treeTold {a b c a' b' c' : sF} {tn : Nat} (h4 : tn ≤ 4) (h : gT tn a b c a' b' c') (t w : Int32) : o_treeTold a b c tn t w = o_treeTold a' b' c' tn t w := by
  unfold o_treeTold
  by_cases e : 0 ≤ t ∧ t ≤ nI tn - 1
  · obtain ⟨j, hj, rfl⟩ := q_tree h4 e
    rw [if_pos e, if_pos e, o_n_nI (by omega), (h j hj).1, (h j hj).2.1, (h j hj).2.2]
  · rw [if_neg e, if_neg e]
theorem g_tree {a b c a' b' c' : sF} {tn : Nat} (h : gT tn a b c a' b' c') (x s l9 : Int32) : gT (o_tree_n tn x s l9) (o_tree_f a tn x s l9 x) (o_tree_f b tn x s l9 s) (o_tree_f c tn x s l9 l9) (o_tree_f a' tn x s l9 x) (o_tree_f b' tn x s l9 s) (o_tree_f c' tn x s l9 l9) := by
  unfold o_tree_n o_tree_f
  by_cases e1 : 0 ≤ x ∧ x ≤ 35
  · by_cases e2 : 0 ≤ s ∧ s ≤ 9
    · by_cases e3 : 0 ≤ l9 ∧ l9 ≤ 999
      · by_cases e4 : 4 ≤ tn
        · simp only [if_pos e1, if_pos e2, if_pos e3, if_pos e4]
          exact h
        · simp only [if_pos e1, if_pos e2, if_pos e3, if_neg e4]
          intro t ht
          by_cases e : t = tn
          · subst e
            rw [pk_us, pk_us, pk_us, pk_us, pk_us, pk_us]
            exact ⟨rfl, rfl, rfl⟩
          · rw [pk_un e, pk_un e, pk_un e, pk_un e, pk_un e, pk_un e]
            exact h t (by omega)
      · simp only [if_pos e1, if_pos e2, if_neg e3]
        exact h
    · simp only [if_pos e1, if_neg e2]
      exact h
  · simp only [if_neg e1]
    exact h
/-- trees that came by a sheet: as many, the same ones -/
def gB (q q' : sTB) : Prop := q.1 = q'.1 ∧ gT q.1 q.2.1 q.2.2.1 q.2.2.2.1 q'.2.1 q'.2.2.1 q'.2.2.2.1 ∧ q.2.2.2.2 = q'.2.2.2.2
theorem g_tst {g g' : sF} {i : Nat} {q q' : sTB} (h : gB q q') (e0 : g i = g' i) (e1 : g (i + 1) = g' (i + 1)) (e2 : g (i + 2) = g' (i + 2)) : gB (o_tst g i q) (o_tst g' i q') := by
  obtain ⟨tn, a, b, c, e⟩ := q
  obtain ⟨tn', a', b', c', e'⟩ := q'
  obtain ⟨h1, h2, h3⟩ := h
  have h1 : tn = tn' := h1
  have h3 : e = e' := h3
  subst h1
  subst h3
  have h2 : gT tn a b c a' b' c' := h2
  have h9 := g_tree h2 (g i) (g (i + 1)) (g (i + 2))
  unfold o_tst
  rw [← e0, ← e1, ← e2]
  exact ⟨rfl, h9, rfl⟩
theorem g_tbl {g g' : sF} {nz : Nat} {at9 : Int32} (h40 : nz ≤ 40) (hg : ∀ j, j < 40 → g j = g' j) : ∀ (f k : Nat) (q q' : sTB), f + k ≤ 4 → gB q q' → (o_tbl g nz at9 f k q).1 = (o_tbl g' nz at9 f k q').1 ∧ gB (o_tbl g nz at9 f k q).2 (o_tbl g' nz at9 f k q').2
  | 0, k, q, q', _, h => ⟨congrArg nI h.2.2, h⟩
  | f + 1, k, q, q', hk, h => by
    unfold o_tbl
    by_cases e : 0 ≤ at9 ∧ at9 ≤ nI nz - 3 * nI k - 3
    · obtain ⟨p, rfl, hp⟩ := q_at3 h40 (by omega) e
      rw [if_pos e, if_pos e, o_n_nI (by omega)]
      exact g_tbl h40 hg f (k + 1) _ _ (by omega) (g_tst h (hg _ (by omega)) (hg _ (by omega)) (hg _ (by omega)))
    · rw [if_neg e, if_neg e]
      first | exact ⟨rfl, h⟩ | exact ⟨trivial, h⟩
theorem g_treesBy {g g' : sF} {so : Int32} {nz nz' : Nat} {q q' : sTB} (h40 : nz ≤ 40) (hS : gS so nz nz' g g') (h : gB q q') (s t at9 n : Int32) : (o_treesBy g so nz q s t at9 n).1 = (o_treesBy g' so nz' q' s t at9 n).1 ∧ gB (o_treesBy g so nz q s t at9 n).2 (o_treesBy g' so nz' q' s t at9 n).2 := by
  unfold o_treesBy
  by_cases e1 : 0 ≤ s ∧ s ≤ 3
  · by_cases e2 : 0 ≤ t ∧ t ≤ 2
    · by_cases e3 : 0 ≤ n ∧ n ≤ 4
      · by_cases e4 : so = -1
        · simp only [if_pos e1, if_pos e2, if_pos e3, if_pos e4]
          first | exact ⟨rfl, h⟩ | exact ⟨trivial, h⟩
        · by_cases e5 : so = t
          · simp only [if_pos e1, if_pos e2, if_pos e3, if_neg e4, if_pos e5]
            obtain ⟨hz, hg⟩ := hS e4
            subst hz
            obtain ⟨j, hj, rfl⟩ := q_w (n := 4) rfl (by decide) e3
            rw [o_n_nI (by omega)]
            exact g_tbl h40 hg j 0 q q' (by omega) h
          · simp only [if_pos e1, if_pos e2, if_pos e3, if_neg e4, if_neg e5]
            first | exact ⟨rfl, h⟩ | exact ⟨trivial, h⟩
      · simp only [if_pos e1, if_pos e2, if_neg e3]
        first | exact ⟨rfl, h⟩ | exact ⟨trivial, h⟩
    · simp only [if_pos e1, if_neg e2]
      first | exact ⟨rfl, h⟩ | exact ⟨trivial, h⟩
  · simp only [if_neg e1]
    first | exact ⟨rfl, h⟩ | exact ⟨trivial, h⟩
theorem g_taken {kf tl tl' : sF} {tn : Nat} (h4 : tn ≤ 4) (h : ∀ t, t < tn → tl t = tl' t) (i k : Int32) : o_taken kf tl tn i k = o_taken kf tl' tn i k := by
  unfold o_taken
  by_cases e2 : 0 ≤ i ∧ i ≤ 39
  · by_cases e : 0 ≤ i - 36 ∧ i - 36 ≤ nI tn - 1
    · obtain ⟨j, hj, e9⟩ := q_tree h4 e
      obtain ⟨m, hm, rfl⟩ := q_w (n := 39) rfl (by decide) e2
      by_cases e3 : o_n (nI m) < 36
      · simp only [if_pos e3]
      · rw [o_n_nI (by omega)] at e3 ⊢
        have hmj : m - 36 = j := by
          have h8 : nI m = nI (j + 36) := by
            rw [← nI_add, ← e9]
            exact (Int32.sub_add_cancel _ _).symm
          have := (nI_eq (a := m) (b := j + 36) (by omega) (by omega)).mp h8
          omega
        rw [hmj, h j hj]
    · simp only [if_neg e]
  · simp only [if_neg e2]
