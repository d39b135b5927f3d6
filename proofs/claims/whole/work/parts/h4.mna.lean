def muL (cM cI : ClassId) (N M q : Nat) : va_W := (q, .inl (cM, N, .inr (.inr (.inr (.inr (fun j => some (q + 1 + j))))))) :: (List.range N).map (fun j => (q + 1 + j, .inl (cI, M, .inl (fun _ => 0))))
theorem muL_a {cM cI : ClassId} {N M q : Nat} {x : Nat × va_E} (h : x ∈ muL cM cI N M q) : q ≤ x.1 := by
  unfold muL at h
  rcases List.mem_cons.mp h with h | h
  · rw [h]
    exact Nat.le_refl q
  · obtain ⟨j, -, rfl⟩ := List.mem_map.mp h
    show q ≤ q + 1 + j
    omega
section XMN
variable {X : rT} {l : Launch} {cc : ByteArray} {nL : Nat} {own : String} {R : Room} {D : va_G} {tys : List (ClassId × FieldType)} {Z : rZ} {I : Bool}
variable {k n : Nat} {ws : va_W} {lv : rL} {pc : Nat} {st : List Value}
theorem x_mna (C : rC X l cc nL own R D tys Z I) (t ti : Nat) {cM cI : ClassId} (hM9 : tys[t]? = some (cM, .array .int)) (hI9 : tys[ti]? = some (cI, .int)) {idx : Nat} (h1 : Cond.classLink own idx "[[I" ∈ GW) (h2 : Cond.arrayClass .int ∈ GW) (hao : ∀ A U H, Z A U H → va_AOA .int U) {N M : Nat} (hN : N < 1000) (hM : M < 1000) (hcs : k + (1 + N) ≤ R.cells ∧ n + (N + N * M) ≤ R.slots) (hd : decode cc pc = .ok (.multianewarray idx 2, 4)) (kk : ∀ q : Nat, X (k + 1 + N) (n + N + N * M) (ws ++ muL cM cI N M q) lv (pc + 4) (.ref q :: st)) : X k n ws lv pc (.int (nI M) :: .int (nI N) :: st) := by
  obtain ⟨p, e, s, m, args, below, meth, c, A, Q, rfl, hx, hb, hml, hown, hts, hK, hA, hZ, hN9, hI⟩ := C
  intro H locs ls hP hD hS h
  refine mu_W hx hb hown (hts _ h1) (va_AOA.use (hao A s _ hZ)) (hts _ h2) rfl hd rfl hN hM hcs.1 hcs.2 (fun cA cI' H' locs' e1 e2 hH hl => ?_)
  have g1 : s.vm.findClass ("[" ++ (FieldType.array .int).toString) = some cM := (hK.2 t _ hM9).2
  have g2 : s.vm.findClass (FieldType.array .int).toString = some cI := (hK.2 ti _ hI9).2
  have q1 : cA = cM := Option.some.inj (e1.symm.trans g1)
  have q2 : cI' = cI := Option.some.inj (e2.symm.trans g2)
  subst q1
  subst q2
  obtain ⟨a1, a2, a3, a4⟩ := hH
  have hs0 : s.heap.size ≤ H.size := hS.1
  have hlt : ∀ x ∈ ws, x.1 < H.size := fun x hx9 => by
    obtain ⟨i, hi⟩ := List.mem_iff_getElem?.mp hx9
    exact (hP i x hi).lt
  have hAn : ∀ a : Nat, H.size ≤ a → A a := fun a ha => hA a (by omega)
  refine kk H.size H' locs' ls (r_Pmem.mpr fun x hx9 => ?_) (r_Dmem.mpr ⟨?_, fun x hx9 => ?_⟩) ⟨by omega, fun a h3 h4 => (a4 a (by omega)).trans (hS.2.1 a h3 h4), fun q hq => ?_⟩ h
  · rcases List.mem_append.mp hx9 with hx9 | hx9
    · obtain ⟨i, hi⟩ := List.mem_iff_getElem?.mp hx9
      have h9 := hP.kept (H1 := H') (fun j y hy => a4 y.1 (hlt y (List.mem_of_getElem? hy)))
      exact h9 i x hi
    · unfold muL at hx9
      rcases List.mem_cons.mp hx9 with hx9 | hx9
      · subst hx9
        show H'[H.size]? = some (vp_cell _ _)
        rw [vp_cell_q, a2]
        congr 1
        unfold arrV
        congr 1
        refine Array.ext (by simp) (fun i hi1 hi2 => ?_)
        have hi : i < N := by simpa using hi1
        simp [hi, va_rf]
      · obtain ⟨j, hj, rfl⟩ := List.mem_map.mp hx9
        show H'[H.size + 1 + j]? = some (vp_cell _ _)
        rw [vp_cell_i]
        exact a3 j (List.mem_range.mp hj)
  · rw [List.map_append]
    refine List.nodup_append.mpr ⟨(r_Dmem.mp hD).1, ?_, fun a ha b hb9 => ?_⟩
    · unfold muL
      rw [List.map_cons, List.map_map, List.nodup_cons]
      refine ⟨fun h9 => ?_, ?_⟩
      · obtain ⟨j, -, hj⟩ := List.mem_map.mp h9
        have hj : H.size + 1 + j = H.size := hj
        omega
      · refine List.pairwise_map.mpr ((List.nodup_range (n := N)).imp (fun h9 h8 => h9 ?_))
        have h8 : H.size + 1 + _ = H.size + 1 + _ := h8
        omega
    · obtain ⟨x, hx1, rfl⟩ := List.mem_map.mp ha
      obtain ⟨y, hy1, rfl⟩ := List.mem_map.mp hb9
      have h5 := hlt x hx1
      have h6 := muL_a hy1
      omega
  · rcases List.mem_append.mp hx9 with hx9 | hx9
    · exact (r_Dmem.mp hD).2 x hx9
    · exact hAn _ (muL_a hx9)
  · rcases hl q hq with h9 | h9
    · exact hS.2.2 q h9
    · rw [h9]
      exact hAn _ (Nat.le_refl _)
theorem x_mna2 (C : rC X l cc nL own R D tys Z I) (t ti : Nat) {cM cI : ClassId} (hM9 : tys[t]? = some (cM, .array .int)) (hI9 : tys[ti]? = some (cI, .int)) {idx : Nat} (h1 : Cond.classLink own idx "[[I" ∈ GW) (h2 : Cond.arrayClass .int ∈ GW) (hao : ∀ A U H, Z A U H → va_AOA .int U) {K : Nat} {v : Int32} (hv : v = nI K) (hK9 : K < 1000) (hcs : k + 3 ≤ R.cells ∧ n + (2 + 2 * K) ≤ R.slots) (hd : decode cc pc = .ok (.multianewarray idx 2, 4)) (kk : ∀ q r0 r1 : Nat, X (k + 3) (n + (2 + 2 * K)) (ws ++ [(q, .inl (cM, 2, .inr (.inr (.inr (.inr (rr2 r0 r1)))))), (r0, .inl (cI, K, .inl (fun _ => 0))), (r1, .inl (cI, K, .inl (fun _ => 0)))]) lv (pc + 4) (.ref q :: st)) : X k n ws lv pc (.int v :: .int 2 :: st) := by
  subst hv
  have e : (2 : Int32) = nI 2 := rfl
  rw [e]
  refine x_mna C t ti hM9 hI9 h1 h2 hao (by decide) hK9 hcs hd (fun q => ?_)
  have hq : (ws ++ muL cM cI 2 K q)[ws.length]? = some (q, .inl (cM, 2, .inr (.inr (.inr (.inr (fun j => some (q + 1 + j))))))) := by
    rw [List.getElem?_append_right (Nat.le_refl _), Nat.sub_self]
    rfl
  refine x_arrR C ws.length hq (rr2 (q + 1 + 0) (q + 1 + 1)) (fun i hi => by rcases (show i = 0 ∨ i = 1 by omega) with rfl | rfl <;> rfl) ?_
  have h9 := kk q (q + 1 + 0) (q + 1 + 1)
  have e1 : (ws ++ muL cM cI 2 K q).set ws.length (q, .inl (cM, 2, .inr (.inr (.inr (.inr (rr2 (q + 1 + 0) (q + 1 + 1))))))) = ws ++ [(q, .inl (cM, 2, .inr (.inr (.inr (.inr (rr2 (q + 1 + 0) (q + 1 + 1))))))), (q + 1 + 0, .inl (cI, K, .inl (fun _ => 0))), (q + 1 + 1, .inl (cI, K, .inl (fun _ => 0)))] := by
    rw [List.set_append_right _ _ (Nat.le_refl _), Nat.sub_self]
    rfl
  rw [e1, Nat.add_assoc n 2 (2 * K)]
  exact h9
theorem x_mna4 (C : rC X l cc nL own R D tys Z I) (t ti : Nat) {cM cI : ClassId} (hM9 : tys[t]? = some (cM, .array .int)) (hI9 : tys[ti]? = some (cI, .int)) {idx : Nat} (h1 : Cond.classLink own idx "[[I" ∈ GW) (h2 : Cond.arrayClass .int ∈ GW) (hao : ∀ A U H, Z A U H → va_AOA .int U) {K : Nat} {v : Int32} (hv : v = nI K) (hK9 : K < 1000) (hcs : k + 5 ≤ R.cells ∧ n + (4 + 4 * K) ≤ R.slots) (hd : decode cc pc = .ok (.multianewarray idx 2, 4)) (kk : ∀ q r0 r1 r2 r3 : Nat, X (k + 5) (n + (4 + 4 * K)) (ws ++ [(q, .inl (cM, 4, .inr (.inr (.inr (.inr (rr4 r0 r1 r2 r3)))))), (r0, .inl (cI, K, .inl (fun _ => 0))), (r1, .inl (cI, K, .inl (fun _ => 0))), (r2, .inl (cI, K, .inl (fun _ => 0))), (r3, .inl (cI, K, .inl (fun _ => 0)))]) lv (pc + 4) (.ref q :: st)) : X k n ws lv pc (.int v :: .int 4 :: st) := by
  subst hv
  have e : (4 : Int32) = nI 4 := rfl
  rw [e]
  refine x_mna C t ti hM9 hI9 h1 h2 hao (by decide) hK9 hcs hd (fun q => ?_)
  have hq : (ws ++ muL cM cI 4 K q)[ws.length]? = some (q, .inl (cM, 4, .inr (.inr (.inr (.inr (fun j => some (q + 1 + j))))))) := by
    rw [List.getElem?_append_right (Nat.le_refl _), Nat.sub_self]
    rfl
  refine x_arrR C ws.length hq (rr4 (q + 1 + 0) (q + 1 + 1) (q + 1 + 2) (q + 1 + 3)) (fun i hi => by rcases (show i = 0 ∨ i = 1 ∨ i = 2 ∨ i = 3 by omega) with rfl | rfl | rfl | rfl <;> rfl) ?_
  have h9 := kk q (q + 1 + 0) (q + 1 + 1) (q + 1 + 2) (q + 1 + 3)
  have e1 : (ws ++ muL cM cI 4 K q).set ws.length (q, .inl (cM, 4, .inr (.inr (.inr (.inr (rr4 (q + 1 + 0) (q + 1 + 1) (q + 1 + 2) (q + 1 + 3))))))) = ws ++ [(q, .inl (cM, 4, .inr (.inr (.inr (.inr (rr4 (q + 1 + 0) (q + 1 + 1) (q + 1 + 2) (q + 1 + 3))))))), (q + 1 + 0, .inl (cI, K, .inl (fun _ => 0))), (q + 1 + 1, .inl (cI, K, .inl (fun _ => 0))), (q + 1 + 2, .inl (cI, K, .inl (fun _ => 0))), (q + 1 + 3, .inl (cI, K, .inl (fun _ => 0)))] := by
    rw [List.set_append_right _ _ (Nat.le_refl _), Nat.sub_self]
    rfl
  rw [e1, Nat.add_assoc n 4 (4 * K)]
  exact h9
end XMN
