theorem p_ixs_rng (l : List Int32) : ∀ (ls : List (List Int32)) (w : Nat), p_ixs l ls w = -1 ∨ ∃ j, j < ls.length ∧ p_ixs l ls w = nI (w + j)
  | [], _ => Or.inl rfl
  | x :: xs, w => by
    rw [p_ixs]
    by_cases h : l = x
    · rw [if_pos h]
      exact Or.inr ⟨0, by rw [List.length_cons]; omega, rfl⟩
    · rw [if_neg h]
      rcases p_ixs_rng l xs (w + 1) with e | ⟨j, hj, e⟩
      · exact Or.inl e
      · exact Or.inr ⟨j + 1, by rw [List.length_cons]; omega, by rw [e, show w + 1 + j = w + (j + 1) by omega]⟩
theorem p_ixs_iff (l : List Int32) : ∀ (ls : List (List Int32)) (w j : Nat), j < ls.length → ls.Nodup → w + ls.length < 2 ^ 31 → (p_ixs l ls w = nI (w + j) ↔ l = ls.getD j [])
  | [], _, j, hj, _, _ => absurd hj (Nat.not_lt_zero j)
  | x :: xs, w, j, hj, hn, hw => by
    rw [List.length_cons] at hj hw
    obtain ⟨hn1, hn2⟩ := List.nodup_cons.mp hn
    rw [p_ixs]
    by_cases h : l = x
    · rw [if_pos h]
      cases j with
      | zero => exact ⟨fun _ => h, fun _ => rfl⟩
      | succ j =>
        constructor
        · intro e
          have := (nI_eq (a := w) (b := w + (j + 1)) (by omega) (by omega)).mp e
          omega
        · intro e
          have hj2 : j < xs.length := by omega
          have e2 : l = xs[j] := by
            rw [e]
            show xs.getD j [] = xs[j]
            rw [List.getD_eq_getElem?_getD, List.getElem?_eq_getElem hj2]
            rfl
          exact absurd (List.getElem_mem hj2) (by rw [← e2, h]; exact hn1)
    · rw [if_neg h]
      cases j with
      | zero =>
        constructor
        · intro e
          exfalso
          rcases p_ixs_rng l xs (w + 1) with e9 | ⟨i, hi, e9⟩
          · exact nI_nm1 (show w + 0 < 2 ^ 31 by omega) (e.symm.trans e9)
          · have := (nI_eq (a := w + 1 + i) (b := w + 0) (by omega) (by omega)).mp (e9.symm.trans e)
            omega
        · exact fun e => absurd e h
      | succ j =>
        rw [show w + (j + 1) = w + 1 + j by omega]
        exact p_ixs_iff l xs (w + 1) j (by omega) hn2 (by omega)
theorem p_ws_nd : p_ws.Nodup := by decide +kernel
theorem p_wix_j (l : List Int32) {j : Nat} (hj : j < 12) : p_wix l = nI j ↔ l = p_ws.getD j [] := by
  have h := p_ixs_iff l p_ws 0 j hj p_ws_nd (by decide)
  rw [Nat.zero_add] at h
  exact h
theorem p_wix_k (l : List Int32) : (p_wix l = 0 ↔ l = zL.getD 12 []) ∧ (p_wix l = 1 ↔ l = zL.getD 13 []) ∧ (p_wix l = 2 ↔ l = zL.getD 14 []) ∧ (p_wix l = 3 ↔ l = zL.getD 9 []) ∧ (p_wix l = 4 ↔ l = zL.getD 10 []) ∧ (p_wix l = 5 ↔ l = zL.getD 11 []) ∧ (p_wix l = 6 ↔ l = zL.getD 3 []) ∧ (p_wix l = 7 ↔ l = zL.getD 4 []) ∧ (p_wix l = 8 ↔ l = zL.getD 5 []) ∧ (p_wix l = 9 ↔ l = zL.getD 6 []) ∧ (p_wix l = 10 ↔ l = zL.getD 7 []) ∧ (p_wix l = 11 ↔ l = zL.getD 8 []) :=
  ⟨p_wix_j l (j := 0) (by decide), p_wix_j l (j := 1) (by decide), p_wix_j l (j := 2) (by decide), p_wix_j l (j := 3) (by decide), p_wix_j l (j := 4) (by decide), p_wix_j l (j := 5) (by decide), p_wix_j l (j := 6) (by decide), p_wix_j l (j := 7) (by decide), p_wix_j l (j := 8) (by decide), p_wix_j l (j := 9) (by decide), p_wix_j l (j := 10) (by decide), p_wix_j l (j := 11) (by decide)⟩
/-- name(), by the word -/
def p_nmr (so : Int32) (l : List Int32) : Int32 := if so = 2 ∧ l = zL.getD 3 [] then 1 else if so = 2 ∧ l = zL.getD 4 [] then 2 else if so = 2 ∧ l = zL.getD 5 [] then 3 else if so = 2 ∧ l = zL.getD 6 [] then 4 else if so = 2 ∧ l = zL.getD 7 [] then 5 else if so = 2 ∧ l = zL.getD 8 [] then 6 else 0
section PNM
variable {tp : sF} {n a : Nat}
theorem p_nmr_0 (h : ¬ p_tk tp n a = 3) : p_nmr (p_so tp n a) (p_w tp (p_pl tp n a) (p_nx tp n a)) = 0 := by
  obtain ⟨k0, k1, k2, k3, k4, k5, k6, k7, k8, k9, k10, k11⟩ := p_wix_k (p_w tp (p_pl tp n a) (p_nx tp n a))
  have hn : ∀ v : Int32, ¬ v = -1 → ¬ v < 6 → ¬ (p_so tp n a = 2 ∧ p_wd tp n a = v) := fun v h1 h2 h9 => h (by
    rw [p_tk_word h9.1, h9.2, if_neg h1, if_neg h2])
  unfold p_nmr
  rw [if_neg (fun h9 => hn 6 (by decide) (by decide) ⟨h9.1, k6.mpr h9.2⟩), if_neg (fun h9 => hn 7 (by decide) (by decide) ⟨h9.1, k7.mpr h9.2⟩), if_neg (fun h9 => hn 8 (by decide) (by decide) ⟨h9.1, k8.mpr h9.2⟩), if_neg (fun h9 => hn 9 (by decide) (by decide) ⟨h9.1, k9.mpr h9.2⟩), if_neg (fun h9 => hn 10 (by decide) (by decide) ⟨h9.1, k10.mpr h9.2⟩), if_neg (fun h9 => hn 11 (by decide) (by decide) ⟨h9.1, k11.mpr h9.2⟩)]
theorem p_nmr_3 (h : p_tk tp n a = 3) : p_nmr (p_so tp n a) (p_w tp (p_pl tp n a) (p_nx tp n a)) = p_vl tp n a + 1 ∧ 0 < p_vl tp n a + 1 ∧ -(p_vl tp n a + 1) = -1 - p_vl tp n a := by
  obtain ⟨k0, k1, k2, k3, k4, k5, k6, k7, k8, k9, k10, k11⟩ := p_wix_k (p_w tp (p_pl tp n a) (p_nx tp n a))
  have hs : p_so tp n a = 2 := p_tk_w0 h (Or.inl rfl)
  obtain ⟨h0, d, l, v, hv, e⟩ := p_tk_3 h
  have hvl : p_vl tp n a = nI v := by
    unfold p_vl
    rw [if_neg (by rw [d]; decide), e, show (6 : Int32) = nI 6 from rfl, pk_sub (by omega), Nat.add_sub_cancel_left]
  have hw : p_wix (p_w tp (p_pl tp n a) (p_nx tp n a)) = nI (6 + v) := e
  rw [hs, hvl]
  rcases (show v = 0 ∨ v = 1 ∨ v = 2 ∨ v = 3 ∨ v = 4 ∨ v = 5 by omega) with rfl | rfl | rfl | rfl | rfl | rfl
  · rw [k6.mp hw]; decide +kernel
  · rw [k7.mp hw]; decide +kernel
  · rw [k8.mp hw]; decide +kernel
  · rw [k9.mp hw]; decide +kernel
  · rw [k10.mp hw]; decide +kernel
  · rw [k11.mp hw]; decide +kernel
/-- the keys -/
theorem p_is_key {i : Nat} {v t : Int32} (hk : p_wix (p_w tp (p_pl tp n a) (p_nx tp n a)) = v ↔ p_w tp (p_pl tp n a) (p_nx tp n a) = zL.getD i []) (ht : t = 4 + v) (h1 : v = 0 ∨ v = 1 ∨ v = 2 ∨ v = 3 ∨ v = 4 ∨ v = 5) : (p_so tp n a = 2 ∧ p_w tp (p_pl tp n a) (p_nx tp n a) = zL.getD i []) ↔ p_tk tp n a = t := by
  constructor
  · rintro ⟨e1, e2⟩
    have e3 : p_wd tp n a = v := hk.mpr e2
    rw [p_tk_word e1, e3, ht]
    rcases h1 with h | h | h | h | h | h <;> rw [h] <;> decide
  · intro h
    have hs : p_so tp n a = 2 := p_tk_w0 h (Or.inr (by rw [ht]; rcases h1 with h | h | h | h | h | h <;> rw [h] <;> decide))
    refine ⟨hs, hk.mp ?_⟩
    show p_wd tp n a = v
    rw [p_tk_word hs] at h
    have hr : p_wd tp n a = -1 ∨ p_wd tp n a = 0 ∨ p_wd tp n a = 1 ∨ p_wd tp n a = 2 ∨ p_wd tp n a = 3 ∨ p_wd tp n a = 4 ∨ p_wd tp n a = 5 ∨ p_wd tp n a = 6 ∨ p_wd tp n a = 7 ∨ p_wd tp n a = 8 ∨ p_wd tp n a = 9 ∨ p_wd tp n a = 10 ∨ p_wd tp n a = 11 := p_wix_rng _
    rw [ht] at h
    revert h
    rcases hr with e | e | e | e | e | e | e | e | e | e | e | e | e <;> rw [e] <;> rcases h1 with h1 | h1 | h1 | h1 | h1 | h1 <;> rw [h1] <;> decide
theorem p_is_or : (p_so tp n a = 2 ∧ p_w tp (p_pl tp n a) (p_nx tp n a) = zL.getD 9 []) ↔ p_tk tp n a = 7 := p_is_key (p_wix_k _).2.2.2.1 rfl (by decide)
theorem p_is_and : (p_so tp n a = 2 ∧ p_w tp (p_pl tp n a) (p_nx tp n a) = zL.getD 10 []) ↔ p_tk tp n a = 8 := p_is_key (p_wix_k _).2.2.2.2.1 rfl (by decide)
theorem p_is_not : (p_so tp n a = 2 ∧ p_w tp (p_pl tp n a) (p_nx tp n a) = zL.getD 11 []) ↔ p_tk tp n a = 9 := p_is_key (p_wix_k _).2.2.2.2.2.1 rfl (by decide)
theorem p_is_f : (p_so tp n a = 2 ∧ p_w tp (p_pl tp n a) (p_nx tp n a) = zL.getD 12 []) ↔ p_tk tp n a = 4 := p_is_key (p_wix_k _).1 rfl (by decide)
theorem p_is_b : (p_so tp n a = 2 ∧ p_w tp (p_pl tp n a) (p_nx tp n a) = zL.getD 13 []) ↔ p_tk tp n a = 5 := p_is_key (p_wix_k _).2.1 rfl (by decide)
theorem p_is_r : (p_so tp n a = 2 ∧ p_w tp (p_pl tp n a) (p_nx tp n a) = zL.getD 14 []) ↔ p_tk tp n a = 6 := p_is_key (p_wix_k _).2.2.1 rfl (by decide)
end PNM
theorem p_w_is {tp : sF} {q e i : Nat} (h1 : e - q = zlen i) (h2 : ∀ j, j < zlen i → tp (q + j) = zbyt i j) : p_w tp q e = zL.getD i [] := p_w_eq.mpr ⟨h1, h2⟩
theorem p_w_len {tp : sF} {q e i : Nat} (h : p_w tp q e = zL.getD i []) : e - q = zlen i := (p_w_eq.mp h).1
theorem p_w_at {tp : sF} {q e i j : Nat} (h : p_w tp q e = zL.getD i []) (hj : j < zlen i) : tp (q + j) = zbyt i j := (p_w_eq.mp h).2 j hj
