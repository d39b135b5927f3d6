/-! ===== what each call leaves, as it should be ===== -/
theorem k_upd {f : sF} {N k : Nat} {M x : Int32} (h : gR N f M) (hx : 0 ≤ x ∧ x ≤ M) : gR N (upd f k x) M := fun j hj => by
  by_cases e : j = k
  · subst e
    rw [pk_us]
    exact hx
  · rw [pk_un e]
    exact h j hj
theorem k_in3 {x : Int32} (h : 0 ≤ x ∧ x ≤ 3) : ∃ j, j < 4 ∧ x = nI j := by
  obtain ⟨j, hj, e⟩ := q_w (n := 3) rfl (by decide) h
  exact ⟨j, by omega, e⟩
section KSK
variable {R0 R1 R2 R3 : sF} {d w v : Int32}
theorem k_pick (D : Nat) (h : 0 ≤ w ∧ w ≤ 3) : sky4 R0 R1 R2 R3 (4 * D + o_n w) = o_pick w R0 R1 R2 R3 D := by
  obtain ⟨j, hj, rfl⟩ := k_in3 h
  rw [o_n_nI (by omega)]
  unfold sky4 o_pick
  rw [show (4 * D + j) % 4 = j by omega, show (4 * D + j) / 4 = D by omega]
  rcases (show j = 0 ∨ j = 1 ∨ j = 2 ∨ j = 3 by omega) with rfl | rfl | rfl | rfl <;> rfl
theorem k_s (A0 A1 A2 A3 : sF) (q : Nat) : sky4 A0 A1 A2 A3 (4 * q + 0) = A0 q ∧ sky4 A0 A1 A2 A3 (4 * q + 1) = A1 q ∧ sky4 A0 A1 A2 A3 (4 * q + 2) = A2 q ∧ sky4 A0 A1 A2 A3 (4 * q + 3) = A3 q := by
  unfold sky4
  refine ⟨?_, ?_, ?_, ?_⟩
  · rw [show (4 * q + 0) % 4 = 0 by omega, show (4 * q + 0) / 4 = q by omega]; rfl
  · rw [show (4 * q + 1) % 4 = 1 by omega, show (4 * q + 1) / 4 = q by omega]; rfl
  · rw [show (4 * q + 2) % 4 = 2 by omega, show (4 * q + 2) / 4 = q by omega]; rfl
  · rw [show (4 * q + 3) % 4 = 3 by omega, show (4 * q + 3) / 4 = q by omega]; rfl
theorem k_sky1 : o_msky (sky4 R0 R1 R2 R3) d w v = o_sky R0 R1 R2 R3 d w v := by
  unfold o_msky o_sky
  by_cases e : 0 ≤ w ∧ w ≤ 3
  · rw [k_pick (o_n d) e]
  · simp only [if_neg e]
theorem k_skyT : o_mskyTold (sky4 R0 R1 R2 R3) d w = o_skyTold R0 R1 R2 R3 d w := by
  unfold o_mskyTold o_skyTold
  by_cases e : 0 ≤ w ∧ w ≤ 3
  · rw [k_pick (o_n d) e]
  · simp only [if_neg e]
theorem k_sky2 : o_msky_f (sky4 R0 R1 R2 R3) d w v = sky4 (o_sky_k 0 R0 d w v) (o_sky_k 1 R1 d w v) (o_sky_k 2 R2 d w v) (o_sky_k 3 R3 d w v) := by
  unfold o_msky_f o_sky_k
  by_cases e1 : 0 ≤ d ∧ d ≤ 13
  · by_cases e2 : 0 ≤ w ∧ w ≤ 3
    · by_cases e3 : 0 ≤ v ∧ v ≤ (if w = 0 then 3 else if w = 1 then 9 else 1)
      · simp only [if_pos e1, if_pos e2, if_pos e3]
        obtain ⟨j, hj, rfl⟩ := k_in3 e2
        rw [o_n_nI (by omega)]
        generalize o_n d = D
        funext i
        obtain ⟨q, r, hr, rfl⟩ : ∃ q r, r < 4 ∧ i = 4 * q + r := ⟨i / 4, i % 4, by omega, by omega⟩
        rcases (show j = 0 ∨ j = 1 ∨ j = 2 ∨ j = 3 by omega) with rfl | rfl | rfl | rfl
        · rcases (show r = 0 ∨ r = 1 ∨ r = 2 ∨ r = 3 by omega) with rfl | rfl | rfl | rfl
          · show (if 4 * q + 0 = 4 * D + 0 then v else sky4 R0 R1 R2 R3 (4 * q + 0)) = _
            rw [(k_s R0 R1 R2 R3 q).1, (k_s _ _ _ _ q).1, if_pos (show (nI 0 : Int32) = 0 from rfl)]
            by_cases e : q = D
            · subst e; rw [if_pos rfl, pk_us]
            · rw [if_neg (by omega), pk_un e]
          · show (if 4 * q + 1 = 4 * D + 0 then v else sky4 R0 R1 R2 R3 (4 * q + 1)) = _
            rw [if_neg (by omega), (k_s R0 R1 R2 R3 q).2.1, (k_s _ _ _ _ q).2.1, if_neg (show ¬ (nI 0 : Int32) = 1 by decide)]
          · show (if 4 * q + 2 = 4 * D + 0 then v else sky4 R0 R1 R2 R3 (4 * q + 2)) = _
            rw [if_neg (by omega), (k_s R0 R1 R2 R3 q).2.2.1, (k_s _ _ _ _ q).2.2.1, if_neg (show ¬ (nI 0 : Int32) = 2 by decide)]
          · show (if 4 * q + 3 = 4 * D + 0 then v else sky4 R0 R1 R2 R3 (4 * q + 3)) = _
            rw [if_neg (by omega), (k_s R0 R1 R2 R3 q).2.2.2, (k_s _ _ _ _ q).2.2.2, if_neg (show ¬ (nI 0 : Int32) = 3 by decide)]
        · rcases (show r = 0 ∨ r = 1 ∨ r = 2 ∨ r = 3 by omega) with rfl | rfl | rfl | rfl
          · show (if 4 * q + 0 = 4 * D + 1 then v else sky4 R0 R1 R2 R3 (4 * q + 0)) = _
            rw [if_neg (by omega), (k_s R0 R1 R2 R3 q).1, (k_s _ _ _ _ q).1, if_neg (show ¬ (nI 1 : Int32) = 0 by decide)]
          · show (if 4 * q + 1 = 4 * D + 1 then v else sky4 R0 R1 R2 R3 (4 * q + 1)) = _
            rw [(k_s R0 R1 R2 R3 q).2.1, (k_s _ _ _ _ q).2.1, if_pos (show (nI 1 : Int32) = 1 from rfl)]
            by_cases e : q = D
            · subst e; rw [if_pos rfl, pk_us]
            · rw [if_neg (by omega), pk_un e]
          · show (if 4 * q + 2 = 4 * D + 1 then v else sky4 R0 R1 R2 R3 (4 * q + 2)) = _
            rw [if_neg (by omega), (k_s R0 R1 R2 R3 q).2.2.1, (k_s _ _ _ _ q).2.2.1, if_neg (show ¬ (nI 1 : Int32) = 2 by decide)]
          · show (if 4 * q + 3 = 4 * D + 1 then v else sky4 R0 R1 R2 R3 (4 * q + 3)) = _
            rw [if_neg (by omega), (k_s R0 R1 R2 R3 q).2.2.2, (k_s _ _ _ _ q).2.2.2, if_neg (show ¬ (nI 1 : Int32) = 3 by decide)]
        · rcases (show r = 0 ∨ r = 1 ∨ r = 2 ∨ r = 3 by omega) with rfl | rfl | rfl | rfl
          · show (if 4 * q + 0 = 4 * D + 2 then v else sky4 R0 R1 R2 R3 (4 * q + 0)) = _
            rw [if_neg (by omega), (k_s R0 R1 R2 R3 q).1, (k_s _ _ _ _ q).1, if_neg (show ¬ (nI 2 : Int32) = 0 by decide)]
          · show (if 4 * q + 1 = 4 * D + 2 then v else sky4 R0 R1 R2 R3 (4 * q + 1)) = _
            rw [if_neg (by omega), (k_s R0 R1 R2 R3 q).2.1, (k_s _ _ _ _ q).2.1, if_neg (show ¬ (nI 2 : Int32) = 1 by decide)]
          · show (if 4 * q + 2 = 4 * D + 2 then v else sky4 R0 R1 R2 R3 (4 * q + 2)) = _
            rw [(k_s R0 R1 R2 R3 q).2.2.1, (k_s _ _ _ _ q).2.2.1, if_pos (show (nI 2 : Int32) = 2 from rfl)]
            by_cases e : q = D
            · subst e; rw [if_pos rfl, pk_us]
            · rw [if_neg (by omega), pk_un e]
          · show (if 4 * q + 3 = 4 * D + 2 then v else sky4 R0 R1 R2 R3 (4 * q + 3)) = _
            rw [if_neg (by omega), (k_s R0 R1 R2 R3 q).2.2.2, (k_s _ _ _ _ q).2.2.2, if_neg (show ¬ (nI 2 : Int32) = 3 by decide)]
        · rcases (show r = 0 ∨ r = 1 ∨ r = 2 ∨ r = 3 by omega) with rfl | rfl | rfl | rfl
          · show (if 4 * q + 0 = 4 * D + 3 then v else sky4 R0 R1 R2 R3 (4 * q + 0)) = _
            rw [if_neg (by omega), (k_s R0 R1 R2 R3 q).1, (k_s _ _ _ _ q).1, if_neg (show ¬ (nI 3 : Int32) = 0 by decide)]
          · show (if 4 * q + 1 = 4 * D + 3 then v else sky4 R0 R1 R2 R3 (4 * q + 1)) = _
            rw [if_neg (by omega), (k_s R0 R1 R2 R3 q).2.1, (k_s _ _ _ _ q).2.1, if_neg (show ¬ (nI 3 : Int32) = 1 by decide)]
          · show (if 4 * q + 2 = 4 * D + 3 then v else sky4 R0 R1 R2 R3 (4 * q + 2)) = _
            rw [if_neg (by omega), (k_s R0 R1 R2 R3 q).2.2.1, (k_s _ _ _ _ q).2.2.1, if_neg (show ¬ (nI 3 : Int32) = 2 by decide)]
          · show (if 4 * q + 3 = 4 * D + 3 then v else sky4 R0 R1 R2 R3 (4 * q + 3)) = _
            rw [(k_s R0 R1 R2 R3 q).2.2.2, (k_s _ _ _ _ q).2.2.2, if_pos (show (nI 3 : Int32) = 3 from rfl)]
            by_cases e : q = D
            · subst e; rw [if_pos rfl, pk_us]
            · rw [if_neg (by omega), pk_un e]
      · simp only [if_pos e1, if_pos e2, if_neg e3]
    · simp only [if_pos e1, if_neg e2]
  · simp only [if_neg e1]
theorem k_sky3 (h : gR 14 R0 3) : gR 14 (o_sky_k 0 R0 d w v) 3 := by
  unfold o_sky_k
  by_cases e1 : 0 ≤ d ∧ d ≤ 13
  · by_cases e2 : 0 ≤ w ∧ w ≤ 3
    · by_cases e3 : 0 ≤ v ∧ v ≤ (if w = 0 then 3 else if w = 1 then 9 else 1)
      · simp only [if_pos e1, if_pos e2, if_pos e3]
        by_cases e4 : w = 0
        · rw [if_pos e4]
          rw [if_pos e4] at e3
          exact k_upd h e3
        · rw [if_neg e4]
          exact h
      · simp only [if_pos e1, if_pos e2, if_neg e3]
        exact h
    · simp only [if_pos e1, if_neg e2]
      exact h
  · simp only [if_neg e1]
    exact h
end KSK
theorem k_feed {rz : Nat} (h : rz ≤ 160) (n a b c d e : Int32) : o_feed_n rz n a b c d e ≤ 160 := by
  unfold o_feed_n
  repeat' split
  all_goals omega
theorem k_force {wr lw : Nat} (h : lw < wr) (h6 : wr ≤ 6) (v : Int32) : o_force_n v wr lw < wr := by
  unfold o_force_n
  by_cases e : 0 ≤ v ∧ v ≤ nI wr - 1
  · rw [if_pos e]
    rw [show nI wr - 1 = nI (wr - 1) from q_isub rfl rfl (by omega)] at e
    obtain ⟨j, hj, rfl⟩ := q_w (n := wr - 1) rfl (by omega) e
    rw [o_n_nI (by omega)]
    omega
  · rw [if_neg e]
    exact h
theorem k_lay1 {f : sF} (h : gR 36 f 5) (c k m : Int32) : gR 36 (o_lay_f f c k m k) 5 := by
  unfold o_lay_f
  by_cases e1 : 0 ≤ c ∧ c ≤ 35
  · by_cases e2 : (0 ≤ k ∧ k ≤ 5) ∧ 0 ≤ m ∧ m ≤ 99
    · simp only [if_pos e1, if_pos e2]
      exact k_upd h e2.1
    · simp only [if_pos e1, if_neg e2]
      exact h
  · simp only [if_neg e1]
    exact h
theorem k_lay2 {f : sF} (h : gR 36 f 99) (c k m : Int32) : gR 36 (o_lay_f f c k m m) 99 := by
  unfold o_lay_f
  by_cases e1 : 0 ≤ c ∧ c ≤ 35
  · by_cases e2 : (0 ≤ k ∧ k ≤ 5) ∧ 0 ≤ m ∧ m ≤ 99
    · simp only [if_pos e1, if_pos e2]
      exact k_upd h e2.2
    · simp only [if_pos e1, if_neg e2]
      exact h
  · simp only [if_neg e1]
    exact h
theorem k_pl {f : sF} {N : Nat} {M v : Int32} {a b c d : Nat} (h : gR N f M) (hv : 0 ≤ v ∧ v ≤ M) : gR N (o_pl f v a b c d) M := fun j hj => by
  unfold o_pl
  split
  · exact hv
  · exact h j hj
theorem k_plot1 {f : sF} (h : gR 36 f 5) (c sh k m : Int32) : gR 36 (o_plot_f f c sh k m k) 5 := by
  unfold o_plot_f
  by_cases e1 : 0 ≤ c ∧ c ≤ 35
  · by_cases e3 : 1 ≤ sh / 10 ∧ sh / 10 ≤ 6
    · by_cases e4 : 1 ≤ sh - sh / 10 * 10 ∧ sh - sh / 10 * 10 ≤ 6
      · by_cases e2 : (0 ≤ k ∧ k ≤ 5) ∧ 0 ≤ m ∧ m ≤ 99
        · simp only [if_pos e1, if_pos e3, if_pos e4, if_pos e2]
          exact k_pl h e2.1
        · simp only [if_pos e1, if_pos e3, if_pos e4, if_neg e2]
          exact h
      · simp only [if_pos e1, if_pos e3, if_neg e4]
        exact h
    · simp only [if_pos e1, if_neg e3]
      exact h
  · simp only [if_neg e1]
    exact h
theorem k_plot2 {f : sF} (h : gR 36 f 99) (c sh k m : Int32) : gR 36 (o_plot_f f c sh k m m) 99 := by
  unfold o_plot_f
  by_cases e1 : 0 ≤ c ∧ c ≤ 35
  · by_cases e3 : 1 ≤ sh / 10 ∧ sh / 10 ≤ 6
    · by_cases e4 : 1 ≤ sh - sh / 10 * 10 ∧ sh - sh / 10 * 10 ≤ 6
      · by_cases e2 : (0 ≤ k ∧ k ≤ 5) ∧ 0 ≤ m ∧ m ≤ 99
        · simp only [if_pos e1, if_pos e3, if_pos e4, if_pos e2]
          exact k_pl h e2.2
        · simp only [if_pos e1, if_pos e3, if_pos e4, if_neg e2]
          exact h
      · simp only [if_pos e1, if_pos e3, if_neg e4]
        exact h
    · simp only [if_pos e1, if_neg e3]
      exact h
  · simp only [if_neg e1]
    exact h
theorem k_strew {f : sF} (h : gR 36 f 999) (c v : Int32) : gR 36 (o_strew_f f c v) 999 := by
  unfold o_strew_f
  by_cases e1 : 0 ≤ c ∧ c ≤ 35
  · by_cases e2 : 0 ≤ v ∧ v ≤ 999
    · simp only [if_pos e1, if_pos e2]
      exact k_upd h e2
    · simp only [if_pos e1, if_neg e2]
      exact h
  · simp only [if_neg e1]
    exact h
theorem k_heap {z v : Int64} (h : gH z) : gH (o_heap_v z v) := by
  unfold o_heap_v
  by_cases e1 : lg_cmp v 1 < 0
  · rw [if_pos e1]
    exact h
  · by_cases e2 : lg_cmp v 68719476736 < 0
    · rw [if_neg e1, if_pos e2]
      exact q_gH e1 e2
    · rw [if_neg e1, if_neg e2]
      exact h
theorem gT_rfl (n : Nat) (a b c : sF) : gT n a b c a b c := fun _ _ => ⟨rfl, rfl, rfl⟩
theorem gT_le {n m : Nat} {a b c a' b' c' : sF} (h : gT n a b c a' b' c') (hm : m ≤ n) : gT m a b c a' b' c' := fun t ht => h t (by omega)
theorem gT_tr {n : Nat} {a b c a' b' c' a2 b2 c2 : sF} (h : gT n a b c a' b' c') (h2 : gT n a' b' c' a2 b2 c2) : gT n a b c a2 b2 c2 := fun t ht => ⟨(h t ht).1.trans (h2 t ht).1, (h t ht).2.1.trans (h2 t ht).2.1, (h t ht).2.2.trans (h2 t ht).2.2⟩
theorem gR_le {n m : Nat} {f : sF} {M : Int32} (h : gR n f M) (hm : m ≤ n) : gR m f M := fun t ht => h t (by omega)
/-- trees that came: what was there stays, all is as it should be -/
def kT (tn : Nat) (cf sf tf : sF) (n' : Nat) (a b c : sF) : Prop := tn ≤ n' ∧ n' ≤ 4 ∧ gR n' a 35 ∧ gR n' c 999 ∧ gT tn cf sf tf a b c
theorem kT_tree {tn0 tn : Nat} {cf sf tf a b c : sF} (h : kT tn0 cf sf tf tn a b c) (x s l9 : Int32) : kT tn0 cf sf tf (o_tree_n tn x s l9) (o_tree_f a tn x s l9 x) (o_tree_f b tn x s l9 s) (o_tree_f c tn x s l9 l9) := by
  unfold o_tree_n o_tree_f
  by_cases e1 : 0 ≤ x ∧ x ≤ 35
  · by_cases e2 : 0 ≤ s ∧ s ≤ 9
    · by_cases e3 : 0 ≤ l9 ∧ l9 ≤ 999
      · by_cases e4 : 4 ≤ tn
        · simp only [if_pos e1, if_pos e2, if_pos e3, if_pos e4]
          exact h
        · simp only [if_pos e1, if_pos e2, if_pos e3, if_neg e4]
          obtain ⟨g1, g2, g3, g4, g5⟩ := h
          refine ⟨by omega, by omega, fun t ht => ?_, fun t ht => ?_, fun t ht => ?_⟩
          · by_cases e : t = tn
            · subst e; rw [pk_us]; exact e1
            · rw [pk_un e]; exact g3 t (by omega)
          · by_cases e : t = tn
            · subst e; rw [pk_us]; exact e3
            · rw [pk_un e]; exact g4 t (by omega)
          · have e : t ≠ tn := by omega
            rw [pk_un e, pk_un e, pk_un e]
            exact g5 t ht
      · simp only [if_pos e1, if_pos e2, if_neg e3]
        exact h
    · simp only [if_pos e1, if_neg e2]
      exact h
  · simp only [if_neg e1]
    exact h
theorem kT_tbl {tn0 : Nat} {cf sf tf g : sF} {nz : Nat} {at9 : Int32} : ∀ (f k : Nat) (q : sTB), kT tn0 cf sf tf q.1 q.2.1 q.2.2.1 q.2.2.2.1 → kT tn0 cf sf tf (o_tbl g nz at9 f k q).2.1 (o_tbl g nz at9 f k q).2.2.1 (o_tbl g nz at9 f k q).2.2.2.1 (o_tbl g nz at9 f k q).2.2.2.2.1
  | 0, _, _, h => h
  | f + 1, k, q, h => by
    unfold o_tbl
    by_cases e : 0 ≤ at9 ∧ at9 ≤ nI nz - 3 * nI k - 3
    · rw [if_pos e]
      exact kT_tbl f (k + 1) _ (kT_tree h _ _ _)
    · rw [if_neg e]
      exact h
theorem kT_by {tn0 : Nat} {cf sf tf g : sF} {so : Int32} {nz : Nat} {q : sTB} (h : kT tn0 cf sf tf q.1 q.2.1 q.2.2.1 q.2.2.2.1) (s t at9 n : Int32) : kT tn0 cf sf tf (o_treesBy g so nz q s t at9 n).2.1 (o_treesBy g so nz q s t at9 n).2.2.1 (o_treesBy g so nz q s t at9 n).2.2.2.1 (o_treesBy g so nz q s t at9 n).2.2.2.2.1 := by
  unfold o_treesBy
  repeat' split
  all_goals first | exact h | exact kT_tbl _ _ _ h
/-- the image when trees came -/
theorem k_pc {wr tn pn pw pin piw n' : Nat} {hi pg pig : Int32} {ph pih : Int64} {cf sf tf P0 P1 P2 P3 pk pm pv pc ps pt os oc a b c : sF} (h : iPc wr tn pn pw pin piw hi pg pig ph pih cf sf tf P0 P1 P2 P3 pk pm pv pc ps pt os oc) (hk : kT tn cf sf tf n' a b c) : iPc wr n' pn pw pin piw hi pg pig ph pih a b c P0 P1 P2 P3 pk pm pv pc ps pt os oc := fun h9 => by
  obtain ⟨g1, g2, g3, g4, g5, g6⟩ := h h9
  exact ⟨g1, g2, g3, Nat.le_trans g4 hk.1, g5, gT_tr g6 (gT_le hk.2.2.2.2 g4)⟩
theorem k_idx (s : Int32) : ∃ j, j < 4 ∧ ∀ i, i < 4 → s = nI i → i = j := by
  by_cases e : 0 ≤ s ∧ s ≤ 3
  · obtain ⟨j, hj, rfl⟩ := k_in3 e
    exact ⟨j, hj, fun i hi he => ((nI_eq (a := j) (b := i) (by omega) (by omega)).mp he).symm⟩
  · refine ⟨0, by decide, fun i hi he => ?_⟩
    exfalso
    apply e
    subst he
    exact ⟨nI_pos' (by omega), (nI_leI (a := i) (b := 3) (by omega) (by decide)).mpr (by omega)⟩
