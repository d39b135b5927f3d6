def o_dr (G : sG) (sd : Nat) : sG := match G with
  | (T, kf, mf, ts, tk, tn, lv, tl, P, rg, _, _, R2, R3) => (T, kf, mf, ts, tk, tn, lv, tl, P, rg, s_lw sd, nIf (s_ls sd), R2, R3)
theorem s_lw_lt (sd : Nat) : ∀ j, j < 14 → s_lw sd j < 4 := fun j _ => Nat.mod_lt _ (by decide)
theorem o_dr_good {G : sG} (h : s_good G) (sd : Nat) : s_good (o_dr G sd) := by
  obtain ⟨T, kf, mf, ts, tk, tn, lv, tl, P, rg, wk, R1, R2, R3⟩ := G
  obtain ⟨g1, g2, g3, g4, g5, g6, g7⟩ := h
  exact ⟨g1, g2, s_lw_lt sd, g4, g5, g6, g7⟩
def o_drawn (G : sG) (sd n w : Int32) : Int32 := if 0 ≤ sd ∧ sd ≤ 99999 then if 0 ≤ n ∧ n ≤ 14 then if 0 ≤ w ∧ w ≤ 8 then o_tot 4 (s_gone (o_dr G (o_n sd)) (o_n n)) (o_n w) else -2 else -2 else -2
