def o_wy (G : sG) (k : Nat) : sG := match G with
  | (T, kf, mf, ts, tk, tn, lv, tl, P, rg, _, R1, R2, R3) => (T, kf, mf, ts, tk, tn, lv, tl, P, rg, fun _ => k, R1, R2, R3)
theorem o_wy_good {G : sG} (h : s_good G) {k : Nat} (hk : k < 4) : s_good (o_wy G k) := by
  obtain ⟨T, kf, mf, ts, tk, tn, lv, tl, P, rg, wk, R1, R2, R3⟩ := G
  obtain ⟨g1, g2, g3, g4, g5, g6, g7⟩ := h
  exact ⟨g1, g2, fun _ _ => hk, g4, g5, g6, g7⟩
def o_aw (G : sG) : sF := fun k => (s_gone (o_wy G k) 14).2.2.2.2.2.1 k
def o_away (G : sG) (p : Int32) : Int32 := if 0 ≤ p ∧ p ≤ 1 then o_fom (o_aw G) 4 p else -2
theorem o_away_l {G : sG} {p : Int32} (h : 0 ≤ p ∧ p ≤ 1) {g r : sF} {w : Nat} (hw : w = 4) (hg : ∀ j, g j = if j < w then o_aw G j else r j) : (if p = 0 then nI (s_fm g (4 - 1)) else g (s_fm g (4 - 1))) = o_away G p := by
  unfold o_away
  rw [if_pos h]
  exact o_fom_cong (f := g) (z := 4) (by decide) fun j hj => by rw [hg j, if_pos (by omega)]
