theorem b_zero {G : sG} (hg : s_good G) {d : Nat} (hd : d ≤ 14) : ∀ c, c < 36 → (s_gone G d).1 c + (s_gone G d).2.1 c = 0 → (s_gone G d).1 c = 0 ∧ (s_gone G d).2.1 c = 0 := fun c hc h => by
  obtain ⟨T, kf, mf, ts, tk, tn, lv, tl, P, rg, wk, R1, R2, R3⟩ := G
  obtain ⟨g1, g2, g3, g4, g5, g6, g7⟩ := hg
  obtain ⟨lz, tz, h1, h2, h3⟩ := b_start g1 g6 g7
  obtain ⟨dz, wz, hz, oz, r, k, a, hi⟩ := b_all (G := (T, kf, mf, ts, tk, tn, lv, tl, P, rg, wk, R1, R2, R3)) rfl g2 g3 g4 h1 h2 (by omega) d hd
  obtain ⟨i1, i2, i3, i4, i5, i6, i7, i8, i9⟩ := hi
  have o1 := fb_sm_one dz hc
  have o2 := fb_sm_one wz hc
  rw [i1 c hc, i2 c hc] at h ⊢
  obtain ⟨q1, q2⟩ := q_nI0 h (by omega)
  rw [q1, q2]
  exact ⟨nI_0, nI_0⟩
def o_night (G : sG) (n wy : Nat) (so : Int32) : sF × sF × Int32 := match G with
  | (T, kf, mf, ts, tk, tn, lv, tl, P, rg, wk, R1, R2, R3) => s_blow T kf mf wy so 0 (s_gone (T, kf, mf, ts, tk, tn, lv, tl, P, rg, wk, R1, R2, R3) n).1 (s_gone (T, kf, mf, ts, tk, tn, lv, tl, P, rg, wk, R1, R2, R3) n).2.1 ((s_gone (T, kf, mf, ts, tk, tn, lv, tl, P, rg, wk, R1, R2, R3) n).2.2.2.2.2.1 wy)
