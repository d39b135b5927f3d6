/-! ===== shares ===== -/
def o_lv (G : sG) : sF := G.2.2.2.2.2.2.1
theorem b_share {G : sG} (hg : s_good G) {d w : Nat} (hd : d ≤ 14) (hw : w < 4) : ∃ a b : Nat, (s_gone G d).2.2.2.2.2.1 w = nI a ∧ s_sum (o_lv G) 36 + s_sum (s_fl G) d = nI b ∧ a ≤ b ∧ b < 2 ^ 30 := by
  obtain ⟨T, kf, mf, ts, tk, tn, lv, tl, P, rg, wk, R1, R2, R3⟩ := G
  obtain ⟨g1, g2, g3, g4, g5, g6, g7⟩ := hg
  obtain ⟨lz, tz, h1, h2, h3⟩ := b_start g1 g6 g7
  obtain ⟨dz, wz, hz, oz, r, k, a, hi⟩ := b_all (G := (T, kf, mf, ts, tk, tn, lv, tl, P, rg, wk, R1, R2, R3)) rfl g2 g3 g4 h1 h2 (by omega) d hd
  obtain ⟨i1, i2, i3, i4, i5, i6, i7, i8, i9⟩ := hi
  have o1 := fb_sm_one oz hw
  refine ⟨oz w, fb_sm lz 36 + a, i4 w hw, ?_, by omega, by omega⟩
  show s_sum lv 36 + _ = _
  rw [b_sum h1 36 (Nat.le_refl 36), i7, nI_add]
theorem b_lying {G : sG} (hg : s_good G) {d c : Nat} (hd : d ≤ 14) (hc : c < 36) : ∃ a : Nat, o_sm (s_gone G d) c = nI a ∧ a < 2 ^ 24 := by
  obtain ⟨T, kf, mf, ts, tk, tn, lv, tl, P, rg, wk, R1, R2, R3⟩ := G
  obtain ⟨g1, g2, g3, g4, g5, g6, g7⟩ := hg
  obtain ⟨lz, tz, h1, h2, h3⟩ := b_start g1 g6 g7
  obtain ⟨dz, wz, hz, oz, r, k, a, hi⟩ := b_all (G := (T, kf, mf, ts, tk, tn, lv, tl, P, rg, wk, R1, R2, R3)) rfl g2 g3 g4 h1 h2 (by omega) d hd
  obtain ⟨i1, i2, i3, i4, i5, i6, i7, i8, i9⟩ := hi
  have o1 := fb_sm_one dz hc
  have o2 := fb_sm_one wz hc
  refine ⟨dz c + wz c, ?_, by omega⟩
  unfold o_sm
  rw [i1 c hc, i2 c hc, nI_add]
