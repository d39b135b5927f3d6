/-! ===== the texts, as the premises have them ===== -/
def zTm (i : Nat) : Term := .string (zw i).1 (zw i).2.1
def zVal (i : Nat) : Term := .field (zTm i) "java/lang/String" "value" "[B"
def zWs (i : Nat) : List Cond := Cond.exactly (zTm i) "java/lang/String" :: Cond.eq (.field (zTm i) "java/lang/String" "coder" "B") (.int 0) :: Cond.arrayOf (zVal i) .byte :: Cond.eq (.length (zVal i)) (.int (Int32.ofNat (zlen i))) :: (List.range (zlen i)).map (fun j => Cond.eq (.elem (zVal i) (.int (Int32.ofNat j))) (.int (zbyt i j)))
def zAt (i : Nat) : Nat := ([25, 109, 174, 283, 296, 312, 328, 343, 360, 396, 378, 272, 260, 414, 436] : List Nat).getD i 0
theorem z_ws : ∀ i, i < 15 → zWs i = ((flatC (Jvm.Cond.and given_1 narrow_1)).drop (zAt i)).take (zlen i + 4) := by decide +kernel
theorem z_in {i : Nat} (hi : i < 15) : ∀ w ∈ zWs i, w ∈ flatC (Jvm.Cond.and given_1 narrow_1) := fun w hw => by
  rw [z_ws i hi] at hw
  exact List.mem_of_mem_drop (List.mem_of_mem_take hw)
set_option maxRecDepth 100000 in
theorem z_refs : ∀ i, i < 15 → Cond.stringRef (zw i).1 (zw i).2.1 (zw i).2.2 ∈ lw_tbl := fun i hi => by
  rcases (show i = 0 ∨ i = 1 ∨ i = 2 ∨ i = 3 ∨ i = 4 ∨ i = 5 ∨ i = 6 ∨ i = 7 ∨ i = 8 ∨ i = 9 ∨ i = 10 ∨ i = 11 ∨ i = 12 ∨ i = 13 ∨ i = 14 by omega) with rfl | rfl | rfl | rfl | rfl | rfl | rfl | rfl | rfl | rfl | rfl | rfl | rfl | rfl | rfl
  · exact tb_1 _ (List.mem_of_getElem? (i := 216) rfl)
  · exact tb_2 _ (List.mem_of_getElem? (i := 59) rfl)
  · exact tb_4 _ (List.mem_of_getElem? (i := 88) rfl)
  · exact tb_4 _ (List.mem_of_getElem? (i := 147) rfl)
  · exact tb_4 _ (List.mem_of_getElem? (i := 148) rfl)
  · exact tb_4 _ (List.mem_of_getElem? (i := 149) rfl)
  · exact tb_4 _ (List.mem_of_getElem? (i := 150) rfl)
  · exact tb_4 _ (List.mem_of_getElem? (i := 151) rfl)
  · exact tb_4 _ (List.mem_of_getElem? (i := 152) rfl)
  · exact tb_4 _ (List.mem_of_getElem? (i := 158) rfl)
  · exact tb_4 _ (List.mem_of_getElem? (i := 157) rfl)
  · exact tb_4 _ (List.mem_of_getElem? (i := 126) rfl)
  · exact tb_4 _ (List.mem_of_getElem? (i := 105) rfl)
  · exact tb_4 _ (List.mem_of_getElem? (i := 159) rfl)
  · exact tb_4 _ (List.mem_of_getElem? (i := 160) rfl)
theorem zS_of {args : Array Value} {s : State} {A : Nat → Prop} (h : ∀ w ∈ flatC (Jvm.Cond.and given_1 narrow_1), w.before args s = true) (hA : ∀ a : Nat, a < s.heap.size → ¬ A a) : ∃ adK adV : Nat → Nat, ∀ i, i < 15 → (zTm i).eval args s none [] s = some (.ref (adK i)) ∧ va_O "java/lang/String" (adK i) A s s.heap ∧ va_OF "java/lang/String" "coder" "B" (.int 0) (adK i) A s s.heap ∧ va_OF "java/lang/String" "value" "[B" (.ref (adV i)) (adK i) A s s.heap ∧ va_T .byte (adV i) (zlen i) (fun j => .int (zbyt i j)) A s s.heap := by
  have h0 : ∀ i : Nat, ∃ q : Nat × Nat, i < 15 → (zTm i).eval args s none [] s = some (.ref q.1) ∧ va_O "java/lang/String" q.1 A s s.heap ∧ va_OF "java/lang/String" "coder" "B" (.int 0) q.1 A s s.heap ∧ va_OF "java/lang/String" "value" "[B" (.ref q.2) q.1 A s s.heap ∧ va_T .byte q.2 (zlen i) (fun j => .int (zbyt i j)) A s s.heap := by
    intro i
    by_cases hi : i < 15
    · have hw : ∀ w ∈ zWs i, w.before args s = true := fun w hw => h w (z_in hi w hw)
      have e1 : (Cond.exactly (zTm i) "java/lang/String").before args s = true := hw _ List.mem_cons_self
      have e2 : (Cond.eq (.field (zTm i) "java/lang/String" "coder" "B") (.int 0)).before args s = true := hw _ (List.mem_cons_of_mem _ List.mem_cons_self)
      have e3 : (Cond.arrayOf (zVal i) .byte).before args s = true := hw _ (List.mem_cons_of_mem _ (List.mem_cons_of_mem _ List.mem_cons_self))
      have e4 : (Cond.eq (.length (zVal i)) (.int (Int32.ofNat (zlen i)))).before args s = true := hw _ (List.mem_cons_of_mem _ (List.mem_cons_of_mem _ (List.mem_cons_of_mem _ List.mem_cons_self)))
      have e5 : ∀ j, j < zlen i → (Cond.eq (.elem (zVal i) (.int (Int32.ofNat j))) (.int (zbyt i j))).before args s = true := fun j hj => hw _ (List.mem_cons_of_mem _ (List.mem_cons_of_mem _ (List.mem_cons_of_mem _ (List.mem_cons_of_mem _ (List.mem_map.mpr ⟨j, List.mem_range.mpr hj, rfl⟩)))))
      obtain ⟨a, c, cA, kA, q1, q2, q3, q4, q5, q6, -⟩ := Cond.exactly_spec (args := args) (first := s) (o := none) (s := s) (idx := []) (t := zTm i) (cls := "java/lang/String") e1
      have hl := z_len i hi
      obtain ⟨t, ht, hT⟩ := va_Tof (tm := zVal i) (ty := .byte) (N := zlen i) (f := fun j => .int (zbyt i j)) (A := A) (by omega) e3 (va_eqt e4) (fun j hj => va_eqt (e5 j hj)) hA
      exact ⟨(a, t), fun _ => ⟨q1, ⟨cA, q3, q5, by rw [q6]; exact q2, hA a (Array.getElem?_eq_some_iff.mp q3).1⟩, vk_OFof q1 (va_eqt e2) hA, vk_OFof q1 ht hA, hT⟩⟩
    · exact ⟨(0, 0), fun h => absurd h hi⟩
  obtain ⟨ad, had⟩ := Classical.axiomOfChoice h0
  exact ⟨fun i => (ad i).1, fun i => (ad i).2, fun i hi => had i hi⟩
theorem w_Zs {s : State} {b : Nat} {A : Nat → Prop} (hts : ∀ w ∈ lw_tbl, w.before #[Value.ref b] s = true) (hgv : (Jvm.Cond.and given_1 narrow_1).before #[Value.ref b] s = true) (hA : ∀ a : Nat, a < s.heap.size → ¬ A a) : ∃ (adK adV : Nat → Nat) (fm : Option Nat), rZs adK adV fm A s s.heap := by
  have hs := flat_of_before _ hgv
  obtain ⟨adK, adV, h1⟩ := zS_of hs hA
  have h3q := va_Zqof (C := "jdk/internal/util/Preconditions") (n := "SIOOBE_FORMATTER") (d := "Ljava/util/function/BiFunction;") (A := A) (hts _ (List.mem_of_getElem? (i := 301) (by decide +kernel))) (hts _ (by decide +kernel)) (hs _ (by decide +kernel)) hA
  obtain ⟨fm, h3⟩ : ∃ fm : Option Nat, va_Z "jdk/internal/util/Preconditions" "SIOOBE_FORMATTER" "Ljava/util/function/BiFunction;" (va_rf fm) A s s.heap := by
    rcases h3q with h | ⟨t, h⟩
    · exact ⟨none, h⟩
    · exact ⟨some t, h⟩
  refine ⟨adK, adV, fm, fun i hi => (h1 i hi).2, fun i hi => vk_R.of (hts _ (z_refs i hi)) (h1 i hi).1, ?_, h3⟩
  exact va_Zof (hts _ (List.mem_of_getElem? (i := 285) (by decide +kernel))) (hts _ (by decide +kernel)) (va_eqt (hs _ (by decide +kernel))) hA
theorem w_K {s : State} {b : Nat} (hts : ∀ w ∈ lw_tbl, w.before #[Value.ref b] s = true) : ∃ (D : va_G) (cI cM cW cS : ClassId), va_K D vwCl (tY cI cM cW cS) s := by
  have hG : ∀ w ∈ GW, w.before #[Value.ref b] s = true := fun w hw => hts w (wsL_law_in w hw)
  obtain ⟨c0, f0, k0⟩ := u_known (C := RX0) (T := TX0) (N := 10) (n := 10) hG inlX0 (hG _ gw_1_20)
  obtain ⟨c1, f1, k1⟩ := u_known (C := RX1) (T := TX1) (N := 1) (n := 1) hG inlX1 (hG _ gw_2_0)
  obtain ⟨c2, f2, k2⟩ := u_known (C := RX3) (T := TX3) (N := 4) (n := 4) hG inlX3 (hG _ gw_2_14)
  obtain ⟨c3, f3, k3⟩ := u_known (C := RX4) (T := TX4) (N := 11) (n := 11) hG inlX4 (hG _ gw_1_14)
  obtain ⟨c4, f4, k4⟩ := u_known (C := RX5) (T := TX5) (N := 8) (n := 8) hG inlX5 (hG _ gw_2_4)
  obtain ⟨c5, f5, k5⟩ := u_known (C := RX6) (T := TX6) (N := 3) (n := 3) hG inlX6 (hG _ gw_2_16)
  obtain ⟨c6, f6, k6⟩ := u_known (C := RX7) (T := TX7) (N := 12) (n := 12) hG inlX7 (hG _ gw_1_1)
  obtain ⟨c7, f7, k7⟩ := u_known (C := RX8) (T := TX8) (N := 47) (n := 47) hG inlX8 (hG _ gw_1_4)
  obtain ⟨cI, kI, coI, i1, i2, i3⟩ := Cond.arrayClass_spec (hts (.arrayClass .int) (List.mem_of_getElem? (i := 148) (by decide +kernel)))
  obtain ⟨coM, cM, kM, m1, m2, m3, m4, m5⟩ := arrayOverA_spec (hts (.arrayOver (.array .int)) (List.mem_of_getElem? (i := 92) (by decide +kernel)))
  obtain ⟨coW, cW, kW, w1, w2, w3, w4, w5⟩ := Cond.arrayOver_spec (hts (.arrayOver (.object "LeavesBeforeWind$Law")) (List.mem_of_getElem? (i := 236) (by decide +kernel)))
  obtain ⟨coS, cS, kS, s1, s2, s3, s4, s5⟩ := Cond.arrayOver_spec (hts (.arrayOver (.object "LeavesBeforeWind$Sheet")) (List.mem_of_getElem? (i := 238) (by decide +kernel)))
  refine ⟨(fun k => ([c0, c1, c2, c3, c4, c5, c6, c7] : List ClassId).getD k 0, fun k => ([f0, f1, f2, f3, f4, f5, f6, f7] : List (Nat → Nat)).getD k (fun _ => 0)), cI, cM, cW, cS, fun k q hq => ?_, fun k q hq => ?_⟩
  · have hk : k < 8 := (List.getElem?_eq_some_iff.mp hq).1
    rcases (show k = 0 ∨ k = 1 ∨ k = 2 ∨ k = 3 ∨ k = 4 ∨ k = 5 ∨ k = 6 ∨ k = 7 by omega) with rfl | rfl | rfl | rfl | rfl | rfl | rfl | rfl
    · cases hq; exact k0
    · cases hq; exact k1
    · cases hq; exact k2
    · cases hq; exact k3
    · cases hq; exact k4
    · cases hq; exact k5
    · cases hq; exact k6
    · cases hq; exact k7
  · have hk : k < 4 := (List.getElem?_eq_some_iff.mp hq).1
    rcases (show k = 0 ∨ k = 1 ∨ k = 2 ∨ k = 3 by omega) with rfl | rfl | rfl | rfl
    · cases hq
      exact ⟨fun n z => ⟨(fun k h => by cases h), kI, i2, coI, i3⟩, i1⟩
    · cases hq
      exact ⟨fun n z => ⟨(fun k h => by cases h), kM, m3, coM, m4⟩, m5⟩
    · cases hq
      exact ⟨fun n z => ⟨(fun k h => by cases h), kW, w3, coW, w4⟩, kW, coW, w3, w4, w1, w5⟩
    · cases hq
      exact ⟨fun n z => ⟨(fun k h => by cases h), kS, s3, coS, s4⟩, kS, coS, s3, s4, s1, s5⟩
theorem w_N {s : State} {b : Nat} (hts : ∀ w ∈ lw_tbl, w.before #[Value.ref b] s = true) : rN s := ⟨fun q hq => va_Nw.of rfl (hts _ (wi_NWF q hq)), fun q hq => va_Nw.of rfl (hts _ (wi_NWM q hq))⟩
