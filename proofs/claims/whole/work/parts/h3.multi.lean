/-! ===== rows of rows: new int[N][M], by the machine's own step ===== -/
section MUA
variable {E : CtlPost} {e : Env} {d : Bool} {acts : List Action} {s : State}
theorem mu_row {cA comp : ClassId} {k : Class} {M : Nat} {t : FieldType} {v : Value} (hk : s.vm.classes[cA]? = some k) (hkind : k.kind = .array comp t) (hf : fits t v = true) (hv : v.isDefault = true) (h1 : ¬ M > e.platform.arrayLengthLimit) (h2 : ¬ M * componentBytes t > e.platform.maxHeapBytes) (hc : s.heap.size < e.platform.maxCells) (hs : s.slotsUsed + M ≤ e.platform.maxSlots) {Q : Addr → Pre} (hq : Q s.heap.size d acts (s.pushCell (arrV cA M (fun _ => v)))) : wp (Jvm.newArray cA M v) Q E e d acts s := by
  have hall : (Array.replicate M v).all (·.isDefault) = true := by
    rw [Array.all_replicate]
    split
    · rfl
    · exact hv
  have hact : allocActs (Array.replicate M v) s.heap.size acts = acts := if_pos hall
  have hfit : ∀ i w, (Array.replicate M v)[i]? = some w → s.fitsSlot cA .none i w = true := by
    intro i w hw
    rw [Array.getElem?_replicate] at hw
    split at hw
    · cases hw
      simp [State.fitsSlot, State.slotType?, hk, hkind, hf]
    · cases hw
  rw [← arrV_new] at hq
  simp only [Jvm.newArray, Jvm.arrayFits, wp_bind', Jvm.W.ask, Jvm.W.ite, h1, if_false, wp_pure', Jvm.W.theClass, hk, hkind, h2, Jvm.W.alloc, Jvm.W.stop, Option.some.injEq, exists_eq_left', Array.size_replicate, hact]
  rw [if_neg (by omega)]
  exact ⟨hc, hs, hfit, hq⟩
end MUA
/-- i rows made so far, at h0 and behind it -/
def muM (T : State) (h0 : Nat) (cA cI : ClassId) (N M i : Nat) (U : State) : Prop := U.heap.size = h0 + 1 + i ∧ U.heap[h0]? = some (arrV cA N (fun j => if j < i then .ref (h0 + 1 + j) else .null)) ∧ (∀ j, j < i → U.heap[h0 + 1 + j]? = some (arrV cI M (fun _ => .int 0))) ∧ (∀ a : Nat, a < h0 → U.heap[a]? = T.heap[a]?) ∧ U.vm = T.vm ∧ U.slotsUsed = T.slotsUsed + N + i * M
theorem mu_0 {T : State} {h0 : Nat} {cA cI : ClassId} {N M : Nat} (hT : T.heap.size = h0) : muM T h0 cA cI N M 0 (T.pushCell (arrV cA N (fun _ => .null))) := by
  subst hT
  have ef : (fun j => if j < 0 then Value.ref (T.heap.size + 1 + j) else .null) = fun _ : Nat => Value.null := by
    funext j
    exact if_neg (Nat.not_lt_zero j)
  refine ⟨?_, ?_, fun j hj => absurd hj (Nat.not_lt_zero j), fun a ha => ?_, rfl, ?_⟩
  · rw [State.heap_pushCell, Array.size_push]
  · rw [ef, State.heap_pushCell, Array.getElem?_push_size]
  · rw [State.heap_pushCell, Array.getElem?_push, if_neg (Nat.ne_of_lt ha)]
  · rw [State.slotsUsed_pushCell, arrV_size, Nat.zero_mul, Nat.add_zero]
theorem mu_s {T U : State} {h0 : Nat} {cA cI : ClassId} {N M i : Nat} (h : muM T h0 cA cI N M i U) : muM T h0 cA cI N M (i + 1) ((U.pushCell (arrV cI M (fun _ => .int 0))).setCell h0 ((arrV cA N (fun j => if j < i then .ref (h0 + 1 + j) else .null)).setSlot i (.ref (h0 + 1 + i)))) := by
  obtain ⟨a1, a2, a3, a4, a5, a6⟩ := h
  have ef : updV (fun j => if j < i then Value.ref (h0 + 1 + j) else .null) i (.ref (h0 + 1 + i)) = fun j => if j < i + 1 then Value.ref (h0 + 1 + j) else .null := by
    funext j
    unfold updV
    by_cases e : j = i
    · subst e
      rw [if_pos rfl, if_pos (Nat.lt_succ_self _)]
    · rw [if_neg e]
      show (if j < i then Value.ref (h0 + 1 + j) else .null) = _
      by_cases e2 : j < i
      · rw [if_pos e2, if_pos (by omega)]
      · rw [if_neg e2, if_neg (by omega)]
  have hp : ∀ a : Nat, a ≠ h0 → a < h0 + 1 + i → ((U.pushCell (arrV cI M (fun _ => .int 0))).setCell h0 ((arrV cA N (fun j => if j < i then .ref (h0 + 1 + j) else .null)).setSlot i (.ref (h0 + 1 + i)))).heap[a]? = U.heap[a]? := fun a h1 h2 => by
    rw [State.heap_setCell, Array.getElem?_setIfInBounds_ne (Ne.symm h1), State.heap_pushCell, Array.getElem?_push, if_neg (by omega)]
  refine ⟨?_, ?_, fun j hj => ?_, fun a ha => ?_, a5, ?_⟩
  · rw [State.heap_setCell, Array.size_setIfInBounds, State.heap_pushCell, Array.size_push, a1, Nat.add_assoc (h0 + 1)]
  · rw [State.heap_setCell, Array.getElem?_setIfInBounds_self_of_lt (by rw [State.heap_pushCell, Array.size_push, a1]; omega), arrV_store, ef]
  · by_cases e : j = i
    · subst e
      rw [State.heap_setCell, Array.getElem?_setIfInBounds_ne (by omega), State.heap_pushCell, ← a1, Array.getElem?_push_size]
    · rw [hp _ (by omega) (by omega)]
      exact a3 j (by omega)
  · rw [hp a (by omega) (by omega)]
    exact a4 a ha
  · rw [State.slotsUsed_setCell, State.slotsUsed_pushCell, arrV_size, a6, Nat.succ_mul, Nat.add_assoc]
def muF (T : State) (h0 : Nat) (cA cI : ClassId) (N M : Nat) : Nat → State
  | 0 => T.pushCell (arrV cA N (fun _ => .null))
  | i + 1 => ((muF T h0 cA cI N M i).pushCell (arrV cI M (fun _ => .int 0))).setCell h0 ((arrV cA N (fun j => if j < i then .ref (h0 + 1 + j) else .null)).setSlot i (.ref (h0 + 1 + i)))
theorem mu_F {T : State} {h0 : Nat} {cA cI : ClassId} {N M : Nat} (hT : T.heap.size = h0) : ∀ i, muM T h0 cA cI N M i (muF T h0 cA cI N M i)
  | 0 => mu_0 hT
  | i + 1 => mu_s (mu_F hT i)
section MUB
variable {p : Program} {l : Launch} {e : Env} {R : Room} {s : State} {m : MethodId} {args : Array Value} {below : List Frame} {meth : Method} {c : Code} {H : Heap} {locs : List Loc} {cells slots : Nat} {Q : State → Prop}
theorem mu_cell {T : State} {h0 : Nat} {cA cI : ClassId} {N M : Nat} (hT : T.heap.size = h0) (i : Nat) : ((muF T h0 cA cI N M i).pushCell (arrV cI M (fun _ => .int 0))).heap[h0]? = some (arrV cA N (fun j => if j < i then .ref (h0 + 1 + j) else .null)) := by
  obtain ⟨a1, a2, -⟩ := mu_F (cA := cA) (cI := cI) (N := N) (M := M) hT i
  rw [State.heap_pushCell, Array.getElem?_push, if_neg (by omega)]
  exact a2
theorem mu_X {T : State} (X : Stand p l e R s m args below meth c T locs cells slots) {h0 : Nat} (hT : T.heap.size = h0) (cA cI : ClassId) (N M : Nat) : ∀ i, ∃ lc : List Loc, Stand p l e R s m args below meth c (muF T h0 cA cI N M i) lc (cells + 1 + i) (slots + N + i * M) ∧ ∀ q ∈ lc, q ∈ locs ∨ q.base = h0
  | 0 => by
    have h9 := X.pushed (arrV cA N (fun _ => .null))
    rw [arrV_size] at h9
    refine ⟨locs, ?_, fun q hq => Or.inl hq⟩
    rw [Nat.zero_mul]
    exact h9
  | i + 1 => by
    obtain ⟨lc, h, hl⟩ := mu_X X hT cA cI N M i
    have h9 := (h.pushed (arrV cI M (fun _ => .int 0))).stored (mu_cell hT i) i (.ref (h0 + 1 + i))
    rw [arrV_size] at h9
    refine ⟨lc ++ [⟨h0, i⟩], ?_, ?_⟩
    · have e1 : slots + N + (i + 1) * M = slots + N + i * M + M := by rw [Nat.succ_mul]; omega
      rw [e1]
      exact h9
    · intro q hq
      rcases List.mem_append.mp hq with h | h
      · exact hl q h
      · exact Or.inr (by rw [List.mem_singleton.mp h])
/-- what is left behind it: the heap, as far as anybody looks -/
def muH (H : Heap) (cA cI : ClassId) (N M : Nat) (H' : Heap) : Prop := H'.size = H.size + 1 + N ∧ H'[H.size]? = some (arrV cA N (fun j => if j < N then .ref (H.size + 1 + j) else .null)) ∧ (∀ j, j < N → H'[H.size + 1 + j]? = some (arrV cI M (fun _ => .int 0))) ∧ ∀ a : Nat, a < H.size → H'[a]? = H[a]?
theorem mu_W (hexec : p.tables.exec = Jvm.exec) {cc : ByteArray} (hb : c.code = cc) {own : String} {index : Nat} (hown : s.vm.findClass own = some m.cls) (hlink : (Cond.classLink own index ("[" ++ (FieldType.array .int).toString)).before args s = true) (hover : (Cond.arrayOver (.array .int)).before args s = true) (harr : (Cond.arrayClass .int).before args s = true) {g : JFrame} (hg : g.method = m) (hdg : decode cc g.pc = .ok (.multianewarray index 2, 4)) {N M : Nat} {rest : List Value} (hstack : g.stack = .int (nI M) :: .int (nI N) :: rest) (hN : N < 1000) (hM : M < 1000) (hcells : cells + (1 + N) ≤ R.cells) (hslots : slots + (N + N * M) ≤ R.slots)
    (kk : ∀ (cA cI : ClassId) (H' : Heap) (locs' : List Loc), s.vm.findClass ("[" ++ (FieldType.array .int).toString) = some cA → s.vm.findClass (FieldType.array .int).toString = some cI → muH H cA cI N M H' → (∀ q ∈ locs', q ∈ locs ∨ q.base = H.size) → W p l e R s m args below meth c H' locs' (cells + 1 + N) (slots + N + N * M) Q { g with pc := g.pc + 4, stack := .ref H.size :: rest }) : W p l e R s m args below meth c H locs cells slots Q g := by
  intro T hT X
  subst hT
  subst hb
  subst hg
  have hpl : e.platform.magicAccessors = ({} : Platform).magicAccessors := by rw [X.admits.platform]
  obtain ⟨cI, cA, kA, hcI, -, hkA, hkindA, hcA⟩ := arrayOverA_spec hover
  obtain ⟨cI', kI, cc', hcI', hkI, hkindI⟩ := Cond.arrayClass_spec harr
  have e1 : cI' = cI := Option.some.inj (hcI'.symm.trans hcI)
  subst e1
  obtain ⟨c0, hc0, hcl⟩ := Cond.classLink_spec hown hlink e.platform hpl
  have e2 : c0 = cA := Option.some.inj (hc0.symm.trans hcA)
  subst e2
  obtain ⟨hg₁, hwarm₁, hready₁⟩ := State.classEntry (e := e) X.warmed hcl
  generalize T.vm.noted g.method.cls index (.cls c0) = vm₁ at hg₁ hwarm₁ hready₁
  have hal : s.vm.Alike vm₁ := hwarm₁.alike
  obtain ⟨kA₁, hkA₁, heA⟩ := hal.2.2 _ _ hkA
  obtain ⟨kI₁, hkI₁, heI⟩ := hal.2.2 _ _ hkI
  have hkindA₁ : kA₁.kind = .array cI' (.array .int) := by rw [heA]; exact hkindA
  have hkindI₁ : kI₁.kind = .array cc' .int := by rw [heI]; exact hkindI
  have X₁ := X.noted hwarm₁
  obtain ⟨hr1, hr2⟩ := X.roomAbove hcells hslots
  have nN : (nI N).toNatClampNeg = N := nI_clamp (by omega)
  have nM : (nI M).toNatClampNeg = M := nI_clamp (by omega)
  have pN : ¬ nI N < 0 := nI_pos (by omega)
  have pM : ¬ nI M < 0 := nI_pos (by omega)
  have l1 : ¬ N > e.platform.arrayLengthLimit := by rw [Launch.admits_arrayLengthLimit X.admits]; omega
  have l2 : ¬ M > e.platform.arrayLengthLimit := by rw [Launch.admits_arrayLengthLimit X.admits]; omega
  have b1 : ¬ N * componentBytes (.array .int) > e.platform.maxHeapBytes := by
    rw [Launch.admits_maxHeapBytes X.admits]
    show ¬ N * 4 > 536870912
    omega
  have b2 : ¬ M * componentBytes .int > e.platform.maxHeapBytes := by
    rw [Launch.admits_maxHeapBytes X.admits]
    show ¬ M * 4 > 536870912
    omega
  have hT1 : (T.setVm vm₁).heap.size = T.heap.size := rfl
  have hF := fun i => mu_F (cA := c0) (cI := cI') (N := N) (M := M) hT1 i
  obtain ⟨lc, XN, hlc⟩ := mu_X X₁ hT1 c0 cI' N M N
  obtain ⟨f1, f2, f3, f4, f5, f6⟩ := hF N
  obtain ⟨t, ht, hQ⟩ := kk c0 cI' (muF (T.setVm vm₁) T.heap.size c0 cI' N M N).heap lc hcA hcI ⟨f1, f2, f3, f4⟩ hlc _ rfl XN
  refine ⟨t, ?_, hQ⟩
  jvm_step X.here [hexec, hdg]
  simp only [multianewarray.sem, wp_bind', Jvm.W.resolveClassAt_links (State.method?_setTop g X.here.top) hg₁]
  rw [Jvm.W.popN, if_neg (by decide)]
  refine ⟨g, State.topJava?_setTop' (s := T.setVm vm₁) g X.here.top, [.int (nI N), .int (nI M)], rest, rfl, hstack, ?_⟩
  simp only [List.mapM_cons, List.mapM_nil, wp_bind', wp_pure']
  have eS : ((T.setTop g).setVm vm₁).setTop { g with stack := rest } = (T.setVm vm₁).setTop { g with stack := rest } := by
    show ((T.setVm vm₁).setTop g).setTop _ = _
    rw [State.setTop_setTop]
  rw [eS]
  rw [multianewarray.make]
  simp only [wp_bind', Jvm.W.ite, pN, if_false, wp_pure', Jvm.W.theClass, State.vm_setTop, nN]
  refine ⟨kA₁, hkA₁, ?_⟩
  rw [hkindA₁]
  simp only [wp_bind']
  refine mu_row hkA₁ hkindA₁ rfl rfl l1 b1 (by show T.heap.size < _; omega) (by show T.slotsUsed + _ ≤ _; omega) ?_
  have hfind : List.find? (fun x : Int32 => decide (x < 0)) [nI M] = none := by simp [pM]
  simp only [hfind]
  rw [ite_self, wp_bind', Std.Legacy.Range.forIn_eq_forIn_range']
  have hsz : ([:N] : Std.Legacy.Range).size = N := by simp [Std.Legacy.Range.size]
  rw [hsz]
  show wp (forIn (List.range' 0 N 1) PUnit.unit _) _ _ e true [] _
  refine wp_forIn_inv (fun rst V => ∃ i, i ≤ N ∧ rst = List.range' i (N - i) ∧ V = (muF (T.setVm vm₁) T.heap.size c0 cI' N M i).setTop { g with stack := rest }) _ _ ⟨0, Nat.zero_le _, rfl, rfl⟩ ?_ ?_
  · rintro x rst V d' acts' Q' ⟨i, hi, hl, rfl⟩ hnext
    have hlt : i < N := by
      rcases Nat.lt_or_ge i N with h | h
      · exact h
      · rw [Nat.sub_eq_zero_of_le h] at hl
        cases hl
    obtain ⟨k9, hk9⟩ : ∃ k, N - i = k + 1 := ⟨N - i - 1, by omega⟩
    rw [hk9, List.range'_succ] at hl
    have hx := (List.cons.inj hl).1
    have hr := (List.cons.inj hl).2
    subst hx
    obtain ⟨a1, a2, a3, a4, a5, a6⟩ := hF x
    have hmul : x * M + M ≤ N * M := by
      have h9 := Nat.mul_le_mul_right M (show x + 1 ≤ N from hlt)
      rw [Nat.succ_mul] at h9
      exact h9
    have u1 : T.slotsUsed = (T.setVm vm₁).slotsUsed := rfl
    have v1 : ((muF (T.setVm vm₁) T.heap.size c0 cI' N M x).setTop { g with stack := rest }).vm = vm₁ := a5
    simp only [wp_bind']
    rw [multianewarray.make]
    simp only [wp_bind', Jvm.W.ite, pM, if_false, wp_pure', Jvm.W.theClass, nM]
    refine ⟨kI₁, by rw [v1]; exact hkI₁, ?_⟩
    rw [hkindI₁]
    refine mu_row (k := kI₁) (by rw [v1]; exact hkI₁) hkindI₁ rfl rfl l2 b2 (by show Array.size (muF _ _ _ _ _ _ _).heap < _; rw [a1]; omega) (by show (muF _ _ _ _ _ _ _).slotsUsed + _ ≤ _; rw [a6, ← u1]; omega) ?_
    simp only [wp_bind', Jvm.W.writeLoc, wp_pure']
    have a5' : (muF (T.setVm vm₁) T.heap.size c0 cI' N M x).vm = vm₁ := a5
    have s1 : Array.size ((muF (T.setVm vm₁) T.heap.size c0 cI' N M x).setTop { g with stack := rest }).heap = T.heap.size + 1 + x := a1
    refine ⟨_, mu_cell (M := M) (cI := cI') hT1 x, ?_, ?_, ?_, hnext _ _ _ ⟨x + 1, hlt, ?_, ?_⟩⟩
    · exact fun h => by cases h
    · rw [arrV_size]
      exact hlt
    · show State.fitsSlot _ c0 .none x _ = true
      simp [State.fitsSlot, State.slotType?, a5', hkA₁, hkindA₁, fits]
    · rw [hr, show N - (x + 1) = k9 by omega]
    · rw [s1, State.pushCell_setTop, State.setCell_setTop]
      rfl
  · rintro V d' acts' ⟨i, hi, hl, rfl⟩
    have hN9 : i = N := by
      rcases Nat.lt_or_ge i N with h | h
      · obtain ⟨k9, hk9⟩ : ∃ k, N - i = k + 1 := ⟨N - i - 1, by omega⟩
        rw [hk9, List.range'_succ] at hl
        cases hl
      · omega
    subst hN9
    simp only [wp_pure', wp_bind', Jvm.W.mark, Jvm.W.pushRef, State.topJava?_setTop' _ XN.here.top, Option.some.injEq, exists_eq_left', State.setTop_setTop, State.heap_setTop]
    intro acts
    rw [afterInstr_ok]
    exact ht
end MUB
