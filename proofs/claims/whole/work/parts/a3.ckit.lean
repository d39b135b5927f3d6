/-! ===== making objects and arrays ===== -/
def va_AOA (ty : FieldType) (U : State) : Prop := (Cond.arrayOver (.array ty)).before #[] U = true
theorem va_AOA.use {ty : FieldType} {A : Array Value} {U : State} (h : va_AOA ty U) : (Cond.arrayOver (.array ty)).before A U = true := h
theorem va_AOA.spec {t : FieldType} {u : State} (h : va_AOA t u) : ∃ (comp c : ClassId) (k : Class), u.vm.findClass (FieldType.array t).toString = some comp ∧ (u.vm.classes.findIdx? fun (x : Class) => match x.kind with | .array component _ => component == comp | _ => false) = some c ∧ u.vm.classes[c]? = some k ∧ k.kind = .array comp (.array t) ∧ u.vm.findClass ("[" ++ (FieldType.array t).toString) = some c := by
  unfold va_AOA Cond.before at h
  simp only [Cond.holds, Cond.value, beq_iff_eq] at h
  cases hc : u.vm.findClass (FieldType.array t).toString with
  | none => simp [hc] at h
  | some comp =>
    simp only [hc, Option.bind_some, Option.bind_eq_some_iff, Option.map_eq_some_iff] at h
    obtain ⟨c, hi, k, hk, hb⟩ := h
    obtain ⟨hlt, hp, -⟩ := Array.findIdx?_eq_some_iff_getElem.mp hi
    have hkk : u.vm.classes[c] = k := (Array.getElem?_eq_some_iff.mp hk).2
    rw [hkk] at hp
    cases hkind : k.kind with
    | array component ty =>
      rw [hkind] at hb hp
      simp at hb hp
      exact ⟨comp, c, k, rfl, hi, hk, by rw [hkind, hp, hb.1], hb.2⟩
    | _ => rw [hkind] at hb; simp at hb
theorem va_AOA.moved {t : FieldType} {u U : State} (hvm : u.vm.Alike U.vm) (h : va_AOA t u) : va_AOA t U := by
  obtain ⟨comp, c, k, h1, h2, h3, h4, h5⟩ := va_AOA.spec h
  obtain ⟨k', hk', he⟩ := hvm.2.2 _ _ h3
  have hi : (U.vm.classes.findIdx? fun (x : Class) => match x.kind with | .array component _ => component == comp | _ => false) = some c := by
    have eb : u.vm.bare = U.vm.bare := by first | exact hvm.bare_eq | exact hvm.bare_eq.symm
    have e1 := va_idx_bare u.vm comp
    rw [eb] at e1
    exact ((va_idx_bare U.vm comp).symm.trans e1).trans h2
  have hkind : k'.kind = .array comp (.array t) := by rw [he]; exact h4
  have f1 : U.vm.findClass (FieldType.array t).toString = some comp := by rw [hvm.findClass]; exact h1
  have f2 : U.vm.findClass ("[" ++ (FieldType.array t).toString) = some c := by rw [hvm.findClass]; exact h5
  unfold va_AOA Cond.before Cond.holds
  simp only [Cond.value]
  rw [f1, Option.bind_some]
  refine (congrArg (fun o : Option Nat => (o.bind (fun c => (U.vm.classes[c]?).map fun (k : Class) => match k.kind with | .array _ ty => decide (ty = FieldType.array t) && decide (U.vm.findClass ("[" ++ (FieldType.array t).toString) = some c) | _ => false) == some true)) hi).trans ?_
  simp [hk', hkind, f2]
/-- the texts, and the arrays of references that are made -/
def rZc (adK adV : Nat → Nat) (fm : Option Nat) : rZ := fun A U H => rZs adK adV fm A U H ∧ va_AO "LeavesBeforeWind$Law" U ∧ va_AO "LeavesBeforeWind$Sheet" U ∧ va_AOA .int U
theorem rZc_ok (adK adV : Nat → Nat) (fm : Option Nat) : rOk (rZc adK adV fm) := by
  refine ⟨fun A B s U H h hq hAB hW => ⟨(rZs_ok adK adV fm).1 A B s U H h.1 hq hAB hW, h.2.1.moved hW.alike, h.2.2.1.moved hW.alike, h.2.2.2.moved hW.alike⟩, fun A u U H hv h => ?_⟩
  have ha : u.vm.Alike U.vm := by rw [hv]; exact Vm.Alike.refl _
  exact ⟨(rZs_ok adK adV fm).2 A u U H hv h.1, h.2.1.moved ha, h.2.2.1.moved ha, h.2.2.2.moved ha⟩
section RMK
variable {X : rT} {l : Launch} {cc : ByteArray} {nL : Nat} {own : String} {R : Room} {D : va_G} {tys : List (ClassId × FieldType)} {Z : rZ} {I : Bool}
variable {k n : Nat} {ws : va_W} {lv : rL} {pc : Nat} {st : List Value}
theorem r_wk {Z' : rZ} (C : rC X l cc nL own R D tys Z I) (hz : ∀ A s H, Z A s H → Z' A s H) : rC X l cc nL own R D tys Z' I := by
  obtain ⟨p, e, s, m, args, below, meth, c, A, Q, h1, h2, h3, h4, h5, h6, h7, h8, h9, h10, h11⟩ := C
  exact ⟨p, e, s, m, args, below, meth, c, A, Q, h1, h2, h3, h4, h5, h6, h7, h8, hz A s _ h9, h10, h11⟩
theorem x_objInit (C : rC X l cc nL own R D tys Z I) {idx a9 : Nat} (h1 : Cond.methodLink own idx objectInit ∈ GW) (h2 : Cond.instanceMethod objectInit ∈ GW) (h3 : Cond.code objectInit ⟨#[0xb1]⟩ 1 none ∈ GW) (hd : decode cc pc = .ok (.invokespecial idx, 3)) (hf : 1 ≤ R.frames) (hlo : (st.map fun v => v.category).sum + 12 ≤ R.locals) (kk : X k n ws lv (pc + 3) st) : X k n ws lv pc (.ref a9 :: st) := by
  obtain ⟨p, e, s, m, args, below, meth, c, A, Q, rfl, hx, hb, hml, hown, hts, hK, hA, hZ, hN, hI⟩ := C
  intro H locs ls hP hD hS h
  refine W.objInit (a := a9) (rest := st) hx hb hown (hts _ h1) (hts _ h2) (hts _ h3) rfl (by rw [hml]; exact h.1) rfl hd hf ?_ ?_
  · have h9 : (F0 m pc ls (Value.ref a9 :: st)).monitorRoom = 0 := rfl
    rw [h9]
    omega
  · exact W.eq (g2 := F0 m (pc + 3) ls st) rfl (kk H locs ls hP hD hS h)
theorem x_newa (C : rC X l cc nL own R D tys Z I) (t : Nat) {cA : ClassId} (ht : tys[t]? = some (cA, .int)) (h1 : Cond.arrayClass .int ∈ GW) {N : Nat} {v : Int32} (hv : v = nI N) (hN : N < 100000) (hcs : k + 1 ≤ R.cells ∧ n + N ≤ R.slots) (hd : decode cc pc = .ok (.newarray .int, 2)) (kk : ∀ q : Nat, X (k + 1) (n + N) (ws ++ [(q, .inl (cA, N, .inl (fun _ => 0)))]) lv (pc + 2) (.ref q :: st)) : X k n ws lv pc (.int v :: st) := by
  obtain ⟨p, e, s, m, args, below, meth, c, A, Q, rfl, hx, hb, hml, hown, hts, hK, hA, hZ, hN9, hI⟩ := C
  subst hv
  intro H locs ls hP hD hS h
  refine va_newa (atype := .int) (ty := .int) hx hb (hts _ h1) rfl hK hP hD hS hA (N' := N) (a0 := (N, .inl (fun _ => 0))) (fun cB => rfl) (nI_pos (by omega)) (nI_clamp (by omega)) (by show N * 4 ≤ _; omega) hcs.1 hcs.2 hd (fun q cB H1 hK1 hP1 hD1 hS1 => ?_)
  have a1 : s.vm.findClass ("[" ++ FieldType.int.toString) = some cA := (hK.2 t _ ht).2
  have a2 : s.vm.findClass ("[" ++ FieldType.int.toString) = some cB := (hK1.2 tys.length (cB, .int) (by simp)).2
  have e9 : cB = cA := Option.some.inj (a2.symm.trans a1)
  subst e9
  exact kk q H1 locs ls hP1 hD1 hS1 h
theorem x_new (C : rC X l cc nL own R D tys Z I) {Cn : String} {T : u_T} {N ci idx : Nat} (hin : ∀ w ∈ u_ws Cn T N, w ∈ GW) (hc : vwCl[ci]? = some (Cn, T, N)) (ty0 : Nat → FieldType) (hty : ∀ k, k < N → parseFieldDescriptor (T k).2.2.1 = some (ty0 k)) (h1 : Cond.classLink own idx Cn ∈ GW) (h2 : Cond.instantiable Cn N ∈ GW) (h3 : Cond.initialized Cn ∈ GW) {fs : List Value} (hfs : ∀ j, j < N → defaultValue (ty0 j) = vp_V fs j) (hcs : k + 1 ≤ R.cells ∧ n + N ≤ R.slots) (hd : decode cc pc = .ok (.new idx, 3)) (kk : ∀ q : Nat, X (k + 1) (n + N) (ws ++ [(q, .inr (ci, fs))]) lv (pc + 3) (.ref q :: st)) : X k n ws lv pc st := by
  obtain ⟨p, e, s, m, args, below, meth, c, A, Q, rfl, hx, hb, hml, hown, hts, hK, hA, hZ, hN9, hI⟩ := C
  exact fun H locs ls hP hD hS h => va_new hx hb hts hin ty0 hty hown (hts _ h1) (hts _ h2) (hts _ h3) hK hP hD hS hA hc hfs hcs.1 hcs.2 hd (fun q H1 hP1 hD1 hS1 => kk q H1 locs ls hP1 hD1 hS1 h)
theorem x_anew (C : rC X l cc nL own R D tys Z I) (t : Nat) {cA : ClassId} {Cn : String} (ht : tys[t]? = some (cA, .object Cn)) (hao : ∀ A U H, Z A U H → va_AO Cn U) {idx : Nat} (h1 : Cond.classLink own idx Cn ∈ GW) {N : Nat} {v : Int32} (hv : v = nI N) (hN : N < 100000) (hcs : k + 1 ≤ R.cells ∧ n + N ≤ R.slots) (hd : decode cc pc = .ok (.anewarray idx, 3)) (kk : ∀ q : Nat, X (k + 1) (n + N) (ws ++ [(q, .inl (cA, N, .inr (.inr (.inr (.inr (fun _ => none))))))]) lv (pc + 3) (.ref q :: st)) : X k n ws lv pc (.int v :: st) := by
  obtain ⟨p, e, s, m, args, below, meth, c, A, Q, rfl, hx, hb, hml, hown, hts, hK, hA, hZ, hN9, hI⟩ := C
  subst hv
  intro H locs ls hP hD hS h
  refine va_newq hx hb hown (hts _ h1) (hao A s _ hZ) hK hP hD hS hA (N' := N) (nI_pos (by omega)) (nI_clamp (by omega)) (by omega) hcs.1 hcs.2 hd (fun q cB H1 hK1 hP1 hD1 hS1 => ?_)
  obtain ⟨-, -, -, -, -, a1⟩ := (hK.2 t _ ht).2
  obtain ⟨-, -, -, -, -, a2⟩ := (hK1.2 tys.length (cB, .object Cn) (by simp)).2
  have e9 : cB = cA := Option.some.inj (a2.symm.trans a1)
  subst e9
  exact kk q H1 locs ls hP1 hD1 hS1 h
theorem x_aast (C : rC X l cc nL own R D tys Z I) (q0 t qk ci : Nat) {cA : ClassId} {r : vw_C} {N v a : Nat} {vs : List Value} {f : Nat → Option Nat} (ha : ws[q0]? = some (a, .inl (cA, N, .inr (.inr (.inr (.inr f)))))) (ht : tys[t]? = some (cA, .object r.1)) (hv : ws[qk]? = some (v, .inr (ci, vs))) (hc : vwCl[ci]? = some r) {i : Int32} (j : Nat) (hi : i = nI j) (hj : j < N) (hN : N < 100000) (hd : decode cc pc = .ok (.aastore, 1)) (kk : X k n (ws.set q0 (a, .inl (cA, N, .inr (.inr (.inr (.inr (va_up f j (some v)))))))) lv (pc + 1) st) : X k n ws lv pc (.ref v :: .int i :: .ref a :: st) := by
  obtain ⟨p, e, s, m, args, below, meth, c, A, Q, rfl, hx, hb, hml, hown, hts, hK, hA, hZ, hN9, hI⟩ := C
  subst hi
  have e9 : (nI j).toNatClampNeg = j := nI_clamp (by omega)
  exact fun H locs ls hP hD hS h => va_astq hx hb hK hP hD hS q0 t qk ci ha ht hv hc (vp_in_nI hj (by omega)) hd (fun H1 l1 hP1 hD1 hS1 => by rw [e9] at hP1 hD1; exact kk H1 l1 ls hP1 hD1 hS1 h)
theorem r_cellR {cA : ClassId} {N : Nat} {f g : Nat → Option Nat} (h : ∀ i, i < N → f i = g i) : vp_cell cA (N, .inr (.inr (.inr (.inr f)))) = vp_cell cA (N, .inr (.inr (.inr (.inr g)))) := by
  rw [vp_cell_q, vp_cell_q]
  unfold arrV
  have e : (Array.ofFn (n := N) fun j => va_rf (f j.val)) = Array.ofFn (n := N) fun j => va_rf (g j.val) := by
    congr 1
    funext j
    rw [h j.val j.isLt]
  rw [e]
theorem x_arrR (C : rC X l cc nL own R D tys Z I) (q : Nat) {a N : Nat} {cA : ClassId} {f : Nat → Option Nat} (he : ws[q]? = some (a, .inl (cA, N, .inr (.inr (.inr (.inr f)))))) (g : Nat → Option Nat) (hg : ∀ i, i < N → f i = g i) (kk : X k n (ws.set q (a, .inl (cA, N, .inr (.inr (.inr (.inr g)))))) lv pc st) : X k n ws lv pc st := by
  obtain ⟨p, e, s, m, args, below, meth, c, A, Q, rfl, hx, hb, hml, hown, hts, hK, hA, hZ, hN, hI⟩ := C
  refine fun H locs ls hP hD hS h => kk H locs ls (hP.set hD he ?_ (fun _ _ => rfl)) (hD.set he) hS h
  have h9 := hP q _ he
  show H[a]? = some (vp_cell cA (N, .inr (.inr (.inr (.inr g)))))
  rw [← r_cellR hg]
  exact h9
/-- a public constructor called -/
theorem x_callN {y : MethodName} {bytes : ByteArray} {maxL idx : Nat} {rm : Room} {Z' : rZ} {As : List Value} {wc wr : va_W} {Po : rP} {b : Nat} {st' : List Value} (C : rC X l cc nL own R D tys Z I) (hM : rM l y bytes maxL none rm D tys Z' (.ref b :: As) wc Po) (hZ' : rOk Z') (hZZ : ∀ A s H, Z A s H → Z' A s H) (h1 : Cond.methodLink own idx y ∈ GW) (h5 : Cond.code y bytes maxL none ∈ GW) (h6 : Cond.initialized y.cls ∈ GW) (h7 : Cond.instanceMethod y ∈ GW) (h8 : y.name = "<init>")
    (hy : y.cls ≠ "java/lang/invoke/MethodHandle" ∧ y.cls ≠ "java/lang/invoke/VarHandle" ∧ (parseMethodDescriptor y.desc).map (fun d => d.parameters.length) = some As.length) (hR : rm.frames + 1 ≤ R.frames ∧ 8 + (maxL + 11) + rm.locals ≤ R.locals) (hcs : k + rm.cells ≤ R.cells ∧ n + rm.slots ≤ R.slots)
    (hd : decode cc pc = .ok (.invokespecial idx, 3)) (isC isR : List Nat) (hC : isC.map (fun i => ws[i]?) = wc.map some) (hRr : isR.map (fun i => ws[i]?) = wr.map some) (hnC : va_nd isC = true) (hnR : va_nd isR = true) (hdis : ∀ i ∈ isR, i ∉ isC)
    (hst : st' = As.reverse ++ .ref b :: st) (hcat : (st.map fun v => v.category).sum ≤ 8) (kk : rB X k n lv pc st rm Po wr) : X k n ws lv pc st' := by
  obtain ⟨p, e, s, m, args, below, meth, c, A, Q, rfl, hx, hb, hml, hown, hts, hK, hA, hZ, hN, hI⟩ := C
  intro H locs ls hP hD hS h
  subst hst
  exact r_back hP hD hS h hA isC isR hC hRr hnR hdis (va_runI (As := As) (rest := st) ⟨hx, hb, hml, hown, hts⟩ (hM H.size) (cwI As.length hts (r_gI h5) rfl rfl rfl (hts _ h6) (hts _ h1) (hts _ h7) h8 hy hR) ⟨r_blind hZ', r_pre hZ' (hZZ A s s.heap) hZ hN hK hA hP hD hS isC hC hnC⟩ rfl rfl h.1 rfl (lv_room hcat) hd hcs) kk
end RMK
