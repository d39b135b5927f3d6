/-! ===== the walk, freed of what stays the same: X cells slots world locals pc stack ===== -/
abbrev rL : Type := List (Nat × Value)
abbrev rT : Type := Nat → Nat → va_W → rL → Nat → List Value → Prop
abbrev rZ : Type := (Nat → Prop) → State → Heap → Prop
def rOk (Z : rZ) : Prop := (∀ (A B : Nat → Prop) (s U : State) (H : Heap), Z A s s.heap → (∀ q : Nat, q < s.heap.size → ¬ A q → H[q]? = s.heap[q]?) → (∀ q, B q → A q) → s.WarmedH U.vm → Z B U H) ∧ ∀ (A : Nat → Prop) (u U : State) (H : Heap), u.vm = U.vm → Z A u H → Z A U H
def rZ0 : rZ := fun _ _ _ => True
theorem rZ0_ok : rOk rZ0 := ⟨fun _ _ _ _ _ _ _ _ _ => trivial, fun _ _ _ _ _ _ => trivial⟩
/-- the links of nest mates -/
def NWF : List (String × Nat × String × String × String × String) := [("LeavesBeforeWind", 100, "LeavesBeforeWind$Lawn", "sky", "[[I", "LeavesBeforeWind"), ("LeavesBeforeWind", 104, "LeavesBeforeWind$Lawn", "trees", "I", "LeavesBeforeWind"), ("LeavesBeforeWind", 107, "LeavesBeforeWind$Lawn", "raking", "I", "LeavesBeforeWind"), ("LeavesBeforeWind", 110, "LeavesBeforeWind$Lawn", "law", "I", "LeavesBeforeWind"), ("LeavesBeforeWind", 113, "LeavesBeforeWind$Reader", "size", "I", "LeavesBeforeWind"), ("LeavesBeforeWind", 130, "LeavesBeforeWind$Lawn", "kind", "[I", "LeavesBeforeWind"), ("LeavesBeforeWind", 143, "LeavesBeforeWind$Lawn", "more", "[I", "LeavesBeforeWind"), ("LeavesBeforeWind", 146, "LeavesBeforeWind$Lawn", "leaves", "[I", "LeavesBeforeWind"), ("LeavesBeforeWind", 149, "LeavesBeforeWind$Lawn", "treeCell", "[I", "LeavesBeforeWind"), ("LeavesBeforeWind", 152, "LeavesBeforeWind$Lawn", "treeSort", "[I", "LeavesBeforeWind"), ("LeavesBeforeWind", 155, "LeavesBeforeWind$Lawn", "treeLeaves", "[I", "LeavesBeforeWind"), ("LeavesBeforeWind", 169, "LeavesBeforeWind$Lawn", "heaps", "J", "LeavesBeforeWind"), ("LeavesBeforeWind", 180, "LeavesBeforeWind$Course", "covered", "[I", "LeavesBeforeWind"), ("LeavesBeforeWind", 183, "LeavesBeforeWind$Course", "lying", "[[I", "LeavesBeforeWind"), ("LeavesBeforeWind", 189, "LeavesBeforeWind$Course", "hanging", "[I", "LeavesBeforeWind"), ("LeavesBeforeWind", 198, "LeavesBeforeWind$Course", "fallen", "[I", "LeavesBeforeWind"), ("LeavesBeforeWind", 216, "LeavesBeforeWind$Course", "cost", "I", "LeavesBeforeWind"), ("LeavesBeforeWind", 241, "LeavesBeforeWind$Course", "off", "[I", "LeavesBeforeWind"), ("LeavesBeforeWind", 252, "LeavesBeforeWind$Sheet", "row", "[I", "LeavesBeforeWind"), ("LeavesBeforeWind", 273, "LeavesBeforeWind$Sheet", "size", "I", "LeavesBeforeWind"), ("LeavesBeforeWind", 277, "LeavesBeforeWind$Sheet", "sort", "I", "LeavesBeforeWind"), ("LeavesBeforeWind$Course", 107, "LeavesBeforeWind$Lawn", "treeSort", "[I", "LeavesBeforeWind"), ("LeavesBeforeWind$Course", 122, "LeavesBeforeWind$Lawn", "treeCell", "[I", "LeavesBeforeWind"), ("LeavesBeforeWind$Course", 140, "LeavesBeforeWind$Lawn", "kind", "[I", "LeavesBeforeWind"), ("LeavesBeforeWind$Course", 143, "LeavesBeforeWind$Lawn", "more", "[I", "LeavesBeforeWind"), ("LeavesBeforeWind$Course", 35, "LeavesBeforeWind$Lawn", "leaves", "[I", "LeavesBeforeWind"), ("LeavesBeforeWind$Course", 52, "LeavesBeforeWind$Lawn", "treeLeaves", "[I", "LeavesBeforeWind"), ("LeavesBeforeWind$Course", 55, "LeavesBeforeWind$Lawn", "trees", "I", "LeavesBeforeWind"), ("LeavesBeforeWind$Course", 68, "LeavesBeforeWind$Lawn", "sky", "[[I", "LeavesBeforeWind"), ("LeavesBeforeWind$Course", 91, "LeavesBeforeWind$Lawn", "raking", "I", "LeavesBeforeWind"), ("LeavesBeforeWind$Course", 94, "LeavesBeforeWind$Lawn", "heaps", "J", "LeavesBeforeWind")]
def NWM : List (String × Nat × MethodName × String) := [("LeavesBeforeWind", 24, ⟨"LeavesBeforeWind$Course", "<init>", "()V"⟩, "LeavesBeforeWind"), ("LeavesBeforeWind", 31, ⟨"LeavesBeforeWind$Heaps", "<init>", "()V"⟩, "LeavesBeforeWind"), ("LeavesBeforeWind", 38, ⟨"LeavesBeforeWind$Reader", "<init>", "()V"⟩, "LeavesBeforeWind"), ("LeavesBeforeWind", 62, ⟨"LeavesBeforeWind$Law", "<init>", "()V"⟩, "LeavesBeforeWind"), ("LeavesBeforeWind", 63, ⟨"LeavesBeforeWind$Sheet", "<init>", "()V"⟩, "LeavesBeforeWind"), ("LeavesBeforeWind", 9, ⟨"LeavesBeforeWind$Lawn", "<init>", "()V"⟩, "LeavesBeforeWind")]
def rN (U : State) : Prop := (∀ q ∈ NWF, va_Nw (.fieldLinkNest q.1 q.2.1 q.2.2.1 q.2.2.2.1 q.2.2.2.2.1 q.2.2.2.2.2) U) ∧ ∀ q ∈ NWM, va_Nw (.methodLinkNest q.1 q.2.1 q.2.2.1 q.2.2.2) U
theorem rN_warm {s U : State} (hW : s.WarmedH U.vm) (h : rN s) : rN U := ⟨fun q hq => va_Nw.warmF hW (h.1 q hq), fun q hq => va_Nw.warmM hW (h.2 q hq)⟩
theorem rN_same {u U : State} (hv : u.vm = U.vm) (h : rN u) : rN U := ⟨fun q hq => va_Nw.same rfl hv (h.1 q hq), fun q hq => va_Nw.same rfl hv (h.2 q hq)⟩
def rW (p : Program) (l : Launch) (e : Env) (R : Room) (s : State) (m : MethodId) (args : Array Value) (below : List Frame) (meth : Method) (c : Code) (D : va_G) (A : Nat → Prop) (nL : Nat) (Q : State → Prop) (k n : Nat) (ws : va_W) (lv : rL) (pc : Nat) (st : List Value) : Prop :=
  ∀ (H : Heap) (locs : List Loc) (ls : Array Slot), va_P D vwCl ws H → va_D A ws → va_S A s.heap H locs → lv_has ls nL lv → W p l e R s m args below meth c H locs k n Q (F0 m pc ls st)
def rC (X : rT) (l : Launch) (cc : ByteArray) (nL : Nat) (own : String) (R : Room) (D : va_G) (tys : List (ClassId × FieldType)) (Z : rZ) (I : Bool) : Prop :=
  ∃ (p : Program) (e : Env) (s : State) (m : MethodId) (args : Array Value) (below : List Frame) (meth : Method) (c : Code) (A : Nat → Prop) (Q : State → Prop),
    X = rW p l e R s m args below meth c D A nL Q ∧ p.tables.exec = Jvm.exec ∧ c.code = cc ∧ c.maxLocals = nL ∧ s.vm.findClass own = some m.cls ∧ (∀ w ∈ GW, w.before args s = true) ∧ va_K D vwCl tys s ∧ (∀ q : Nat, s.heap.size ≤ q → A q) ∧ Z A s s.heap ∧ rN s ∧ (I = true → meth.name = "<init>")
/-- what a method's end is: the outcome, the world behind it -/
abbrev rP : Type := Option Value → va_W → Prop
def rQ (D : va_G) (A : Nat → Prop) (Po : rP) : Array Value → State → Outcome → State → Prop := fun _ st o t => ∃ (v : Option Value) (ws : va_W), o = .returned v ∧ Po v ws ∧ va_P D vwCl ws t.heap ∧ va_D A ws ∧ va_F A st t
def rM (l : Launch) (y : MethodName) (cc : ByteArray) (nL : Nat) (ret : Option FieldType) (rm : Room) (D : va_G) (tys : List (ClassId × FieldType)) (Z : rZ) (av : List Value) (ws : va_W) (Po : rP) : Prop :=
  ∀ sz : Nat, Met l y (.code y cc nL ret :: GW) rm (va_Pc av (fun U => U.heap.size = sz ∧ va_P D vwCl ws U.heap ∧ va_K D vwCl tys U ∧ va_D (fun _ => True) ws ∧ Z (va_A ws sz) U U.heap ∧ rN U)) (rQ D (va_A ws sz) Po) rm.cells rm.slots (va_A ws sz)
theorem r_fm {ws : va_W} : ∀ (is : List Nat) (ws' : va_W), is.map (fun i => ws[i]?) = ws'.map some → is.filterMap (fun i => ws[i]?) = ws'
  | [], ws', h => by
    cases ws' with
    | nil => rfl
    | cons a t => simp at h
  | i :: is, ws', h => by
    cases ws' with
    | nil => simp at h
    | cons a t =>
      rw [List.map_cons, List.map_cons] at h
      injection h with h1 h2
      simp only [List.filterMap_cons, h1, r_fm is t h2]
theorem r_cell {cA : ClassId} {N : Nat} {f g : Nat → Int32} (h : ∀ i, i < N → f i = g i) : vp_cell cA (N, .inl f) = vp_cell cA (N, .inl g) := by
  show arrV cA N (fun j => .int (f j)) = arrV cA N (fun j => .int (g j))
  unfold arrV
  have e : (Array.ofFn (n := N) fun j => Value.int (f j.val)) = Array.ofFn (n := N) fun j => Value.int (g j.val) := by
    congr 1
    funext j
    rw [h j.val j.isLt]
  rw [e]
section RK
variable {X : rT} {l : Launch} {cc : ByteArray} {nL : Nat} {own : String} {R : Room} {D : va_G} {tys : List (ClassId × FieldType)} {Z : rZ} {I : Bool}
variable {k n : Nat} {ws : va_W} {lv : rL} {pc : Nat} {st : List Value}
/-! constants -/
theorem x_iconst (C : rC X l cc nL own R D tys Z I) {z : Int} {v : Int32} (hd : decode cc pc = .ok (.iconst z, 1)) (hv : Int32.ofInt z = v) (kk : X k n ws lv (pc + 1) (.int v :: st)) : X k n ws lv pc st := by
  obtain ⟨p, e, s, m, args, below, meth, c, A, Q, rfl, hx, hb, hml, hown, hts, hK, hA, hZ, hN, hI⟩ := C
  exact fun H locs ls hP hD hS hl => lv_iconst hx hb hd hv (kk H locs ls hP hD hS hl)
theorem x_bipush (C : rC X l cc nL own R D tys Z I) {z : Int} {v : Int32} (hd : decode cc pc = .ok (.bipush z, 2)) (hv : (Int8.ofInt z).toInt32 = v) (kk : X k n ws lv (pc + 2) (.int v :: st)) : X k n ws lv pc st := by
  obtain ⟨p, e, s, m, args, below, meth, c, A, Q, rfl, hx, hb, hml, hown, hts, hK, hA, hZ, hN, hI⟩ := C
  exact fun H locs ls hP hD hS hl => lv_bipush hx hb hd hv (kk H locs ls hP hD hS hl)
theorem x_sipush (C : rC X l cc nL own R D tys Z I) {z : Int} {v : Int32} (hd : decode cc pc = .ok (.sipush z, 3)) (hv : (Int16.ofInt z).toInt32 = v) (kk : X k n ws lv (pc + 3) (.int v :: st)) : X k n ws lv pc st := by
  obtain ⟨p, e, s, m, args, below, meth, c, A, Q, rfl, hx, hb, hml, hown, hts, hK, hA, hZ, hN, hI⟩ := C
  exact fun H locs ls hP hD hS hl => lv_sipush hx hb hd hv (kk H locs ls hP hD hS hl)
theorem x_lconst (C : rC X l cc nL own R D tys Z I) {z : Fin 2} {v : Int64} (hd : decode cc pc = .ok (.lconst z, 1)) (hv : Int64.ofNat (z : Nat) = v) (kk : X k n ws lv (pc + 1) (.long v :: st)) : X k n ws lv pc st := by
  obtain ⟨p, e, s, m, args, below, meth, c, A, Q, rfl, hx, hb, hml, hown, hts, hK, hA, hZ, hN, hI⟩ := C
  exact fun H locs ls hP hD hS hl => lv_lconst hx hb hd hv (kk H locs ls hP hD hS hl)
theorem x_ldc (C : rC X l cc nL own R D tys Z I) {i : Nat} {v : Int32} (hw : Cond.constant own i v ∈ GW) (hd : decode cc pc = .ok (.ldc i, 2)) (kk : X k n ws lv (pc + 2) (.int v :: st)) : X k n ws lv pc st := by
  obtain ⟨p, e, s, m, args, below, meth, c, A, Q, rfl, hx, hb, hml, hown, hts, hK, hA, hZ, hN, hI⟩ := C
  exact fun H locs ls hP hD hS hl => lv_ldc hx hb hown (hts _ hw) hd (kk H locs ls hP hD hS hl)
theorem x_ldc2 (C : rC X l cc nL own R D tys Z I) {i : Nat} {v : Int64} (hw : Cond.constantLong own i v ∈ GW) (hd : decode cc pc = .ok (.ldc2_w i, 3)) (kk : X k n ws lv (pc + 3) (.long v :: st)) : X k n ws lv pc st := by
  obtain ⟨p, e, s, m, args, below, meth, c, A, Q, rfl, hx, hb, hml, hown, hts, hK, hA, hZ, hN, hI⟩ := C
  exact fun H locs ls hP hD hS hl => lv_ldc2 hx hb hown (hts _ hw) hd (kk H locs ls hP hD hS hl)
/-! locals -/
theorem x_iload_n (C : rC X l cc nL own R D tys Z I) {i : Fin 4} {v : Int32} (hd : decode cc pc = .ok (.iload_n i, 1)) (q : Nat) (hl : lv[q]? = some ((i : Nat), .int v)) (kk : X k n ws lv (pc + 1) (.int v :: st)) : X k n ws lv pc st := by
  obtain ⟨p, e, s, m, args, below, meth, c, A, Q, rfl, hx, hb, hml, hown, hts, hK, hA, hZ, hN, hI⟩ := C
  exact fun H locs ls hP hD hS h => lv_iload_n hx hb hd rfl (lv_at h q hl) (kk H locs ls hP hD hS h)
theorem x_iload (C : rC X l cc nL own R D tys Z I) {i : Nat} {v : Int32} (hd : decode cc pc = .ok (.iload i, 2)) (q : Nat) (hl : lv[q]? = some (i, .int v)) (kk : X k n ws lv (pc + 2) (.int v :: st)) : X k n ws lv pc st := by
  obtain ⟨p, e, s, m, args, below, meth, c, A, Q, rfl, hx, hb, hml, hown, hts, hK, hA, hZ, hN, hI⟩ := C
  exact fun H locs ls hP hD hS h => lv_iload hx hb hd (lv_at h q hl) (kk H locs ls hP hD hS h)
theorem x_lload_n (C : rC X l cc nL own R D tys Z I) {i : Fin 4} {v : Int64} (hd : decode cc pc = .ok (.lload_n i, 1)) (q : Nat) (hl : lv[q]? = some ((i : Nat), .long v)) (kk : X k n ws lv (pc + 1) (.long v :: st)) : X k n ws lv pc st := by
  obtain ⟨p, e, s, m, args, below, meth, c, A, Q, rfl, hx, hb, hml, hown, hts, hK, hA, hZ, hN, hI⟩ := C
  exact fun H locs ls hP hD hS h => lv_lload_n hx hb hd rfl (lv_at h q hl) (kk H locs ls hP hD hS h)
theorem x_lload (C : rC X l cc nL own R D tys Z I) {i : Nat} {v : Int64} (hd : decode cc pc = .ok (.lload i, 2)) (q : Nat) (hl : lv[q]? = some (i, .long v)) (kk : X k n ws lv (pc + 2) (.long v :: st)) : X k n ws lv pc st := by
  obtain ⟨p, e, s, m, args, below, meth, c, A, Q, rfl, hx, hb, hml, hown, hts, hK, hA, hZ, hN, hI⟩ := C
  exact fun H locs ls hP hD hS h => lv_lload hx hb hd (lv_at h q hl) (kk H locs ls hP hD hS h)
theorem x_aload_n (C : rC X l cc nL own R D tys Z I) {i : Fin 4} {v : Nat} (hd : decode cc pc = .ok (.aload_n i, 1)) (q : Nat) (hl : lv[q]? = some ((i : Nat), .ref v)) (kk : X k n ws lv (pc + 1) (.ref v :: st)) : X k n ws lv pc st := by
  obtain ⟨p, e, s, m, args, below, meth, c, A, Q, rfl, hx, hb, hml, hown, hts, hK, hA, hZ, hN, hI⟩ := C
  exact fun H locs ls hP hD hS h => lv_aload_n hx hb hd rfl (lv_at h q hl) (kk H locs ls hP hD hS h)
theorem x_aload (C : rC X l cc nL own R D tys Z I) {i : Nat} {v : Nat} (hd : decode cc pc = .ok (.aload i, 2)) (q : Nat) (hl : lv[q]? = some (i, .ref v)) (kk : X k n ws lv (pc + 2) (.ref v :: st)) : X k n ws lv pc st := by
  obtain ⟨p, e, s, m, args, below, meth, c, A, Q, rfl, hx, hb, hml, hown, hts, hK, hA, hZ, hN, hI⟩ := C
  exact fun H locs ls hP hD hS h => lv_aload hx hb hd (lv_at h q hl) (kk H locs ls hP hD hS h)
theorem x_istore_n (C : rC X l cc nL own R D tys Z I) {i : Fin 4} {v : Int32} {lv' : rL} (hd : decode cc pc = .ok (.istore_n i, 1)) (hn : (i : Nat) < nL) (hl : ((i : Nat), Value.int v) :: lv.filter (fun q => !(q.1 == (i : Nat)) && !(q.1 + 1 == (i : Nat) && q.2.category == 2)) = lv') (kk : X k n ws lv' (pc + 1) st) : X k n ws lv pc (.int v :: st) := by
  obtain ⟨p, e, s, m, args, below, meth, c, A, Q, rfl, hx, hb, hml, hown, hts, hK, hA, hZ, hN, hI⟩ := C
  exact fun H locs ls hP hD hS h => lv_istore_n hx hb hd rfl h hn hl (fun ls' h' => kk H locs ls' hP hD hS h')
theorem x_istore (C : rC X l cc nL own R D tys Z I) {i : Nat} {v : Int32} {lv' : rL} (hd : decode cc pc = .ok (.istore i, 2)) (hn : i < nL) (hl : (i, Value.int v) :: lv.filter (fun q => !(q.1 == i) && !(q.1 + 1 == i && q.2.category == 2)) = lv') (kk : X k n ws lv' (pc + 2) st) : X k n ws lv pc (.int v :: st) := by
  obtain ⟨p, e, s, m, args, below, meth, c, A, Q, rfl, hx, hb, hml, hown, hts, hK, hA, hZ, hN, hI⟩ := C
  exact fun H locs ls hP hD hS h => lv_istore hx hb hd h hn hl (fun ls' h' => kk H locs ls' hP hD hS h')
theorem x_lstore_n (C : rC X l cc nL own R D tys Z I) {i : Fin 4} {v : Int64} {lv' : rL} (hd : decode cc pc = .ok (.lstore_n i, 1)) (hn : (i : Nat) + 1 < nL) (hl : ((i : Nat), Value.long v) :: lv.filter (fun q => !(q.1 == (i : Nat)) && (!(q.1 == (i : Nat) + 1) && !(q.1 + 1 == (i : Nat) && q.2.category == 2))) = lv') (kk : X k n ws lv' (pc + 1) st) : X k n ws lv pc (.long v :: st) := by
  obtain ⟨p, e, s, m, args, below, meth, c, A, Q, rfl, hx, hb, hml, hown, hts, hK, hA, hZ, hN, hI⟩ := C
  exact fun H locs ls hP hD hS h => lv_lstore_n hx hb hd rfl h hn hl (fun ls' h' => kk H locs ls' hP hD hS h')
theorem x_lstore (C : rC X l cc nL own R D tys Z I) {i : Nat} {v : Int64} {lv' : rL} (hd : decode cc pc = .ok (.lstore i, 2)) (hn : i + 1 < nL) (hl : (i, Value.long v) :: lv.filter (fun q => !(q.1 == i) && (!(q.1 == i + 1) && !(q.1 + 1 == i && q.2.category == 2))) = lv') (kk : X k n ws lv' (pc + 2) st) : X k n ws lv pc (.long v :: st) := by
  obtain ⟨p, e, s, m, args, below, meth, c, A, Q, rfl, hx, hb, hml, hown, hts, hK, hA, hZ, hN, hI⟩ := C
  exact fun H locs ls hP hD hS h => lv_lstore hx hb hd h hn hl (fun ls' h' => kk H locs ls' hP hD hS h')
theorem x_astore_n (C : rC X l cc nL own R D tys Z I) {i : Fin 4} {v : Nat} {lv' : rL} (hd : decode cc pc = .ok (.astore_n i, 1)) (hn : (i : Nat) < nL) (hl : ((i : Nat), Value.ref v) :: lv.filter (fun q => !(q.1 == (i : Nat)) && !(q.1 + 1 == (i : Nat) && q.2.category == 2)) = lv') (kk : X k n ws lv' (pc + 1) st) : X k n ws lv pc (.ref v :: st) := by
  obtain ⟨p, e, s, m, args, below, meth, c, A, Q, rfl, hx, hb, hml, hown, hts, hK, hA, hZ, hN, hI⟩ := C
  exact fun H locs ls hP hD hS h => lv_astore_n hx hb hd rfl h hn hl (fun ls' h' => kk H locs ls' hP hD hS h')
theorem x_astore (C : rC X l cc nL own R D tys Z I) {i : Nat} {v : Nat} {lv' : rL} (hd : decode cc pc = .ok (.astore i, 2)) (hn : i < nL) (hl : (i, Value.ref v) :: lv.filter (fun q => !(q.1 == i) && !(q.1 + 1 == i && q.2.category == 2)) = lv') (kk : X k n ws lv' (pc + 2) st) : X k n ws lv pc (.ref v :: st) := by
  obtain ⟨p, e, s, m, args, below, meth, c, A, Q, rfl, hx, hb, hml, hown, hts, hK, hA, hZ, hN, hI⟩ := C
  exact fun H locs ls hP hD hS h => lv_astore hx hb hd h hn hl (fun ls' h' => kk H locs ls' hP hD hS h')
theorem x_iinc (C : rC X l cc nL own R D tys Z I) {i : Nat} {z : Int} {x v : Int32} {lv' : rL} (hd : decode cc pc = .ok (.iinc i z, 3)) (q : Nat) (hq : lv[q]? = some (i, .int x)) (hv : x + Int32.ofInt z = v) (hn : i < nL) (hl : (i, Value.int v) :: lv.filter (fun q => !(q.1 == i) && !(q.1 + 1 == i && q.2.category == 2)) = lv') (kk : X k n ws lv' (pc + 3) st) : X k n ws lv pc st := by
  obtain ⟨p, e, s, m, args, below, meth, c, A, Q, rfl, hx, hb, hml, hown, hts, hK, hA, hZ, hN, hI⟩ := C
  exact fun H locs ls hP hD hS h => lv_iinc hx hb hd h hq hv hn hl (fun ls' h' => kk H locs ls' hP hD hS h')
theorem x_iadd (C : rC X l cc nL own R D tys Z I) {x y : Int32} (hd : decode cc pc = .ok (.iadd, 1)) (kk : X k n ws lv (pc + 1) (.int (x + y) :: st)) : X k n ws lv pc (.int y :: .int x :: st) := by
  obtain ⟨p, e, s, m, args, below, meth, c, A, Q, rfl, hx, hb, hml, hown, hts, hK, hA, hZ, hN, hI⟩ := C
  exact fun H locs ls hP hD hS h => lv_iadd hx hb hd (kk H locs ls hP hD hS h)
theorem x_isub (C : rC X l cc nL own R D tys Z I) {x y : Int32} (hd : decode cc pc = .ok (.isub, 1)) (kk : X k n ws lv (pc + 1) (.int (x - y) :: st)) : X k n ws lv pc (.int y :: .int x :: st) := by
  obtain ⟨p, e, s, m, args, below, meth, c, A, Q, rfl, hx, hb, hml, hown, hts, hK, hA, hZ, hN, hI⟩ := C
  exact fun H locs ls hP hD hS h => lv_isub hx hb hd (kk H locs ls hP hD hS h)
theorem x_imul (C : rC X l cc nL own R D tys Z I) {x y : Int32} (hd : decode cc pc = .ok (.imul, 1)) (kk : X k n ws lv (pc + 1) (.int (x * y) :: st)) : X k n ws lv pc (.int y :: .int x :: st) := by
  obtain ⟨p, e, s, m, args, below, meth, c, A, Q, rfl, hx, hb, hml, hown, hts, hK, hA, hZ, hN, hI⟩ := C
  exact fun H locs ls hP hD hS h => lv_imul hx hb hd (kk H locs ls hP hD hS h)
theorem x_iand (C : rC X l cc nL own R D tys Z I) {x y : Int32} (hd : decode cc pc = .ok (.iand, 1)) (kk : X k n ws lv (pc + 1) (.int (x &&& y) :: st)) : X k n ws lv pc (.int y :: .int x :: st) := by
  obtain ⟨p, e, s, m, args, below, meth, c, A, Q, rfl, hx, hb, hml, hown, hts, hK, hA, hZ, hN, hI⟩ := C
  exact fun H locs ls hP hD hS h => lv_iand hx hb hd (kk H locs ls hP hD hS h)
theorem x_ior (C : rC X l cc nL own R D tys Z I) {x y : Int32} (hd : decode cc pc = .ok (.ior, 1)) (kk : X k n ws lv (pc + 1) (.int (x ||| y) :: st)) : X k n ws lv pc (.int y :: .int x :: st) := by
  obtain ⟨p, e, s, m, args, below, meth, c, A, Q, rfl, hx, hb, hml, hown, hts, hK, hA, hZ, hN, hI⟩ := C
  exact fun H locs ls hP hD hS h => lv_ior hx hb hd (kk H locs ls hP hD hS h)
theorem x_idiv (C : rC X l cc nL own R D tys Z I) {x y : Int32} (hd : decode cc pc = .ok (.idiv, 1)) (hne : ¬ y = 0) (kk : X k n ws lv (pc + 1) (.int (x / y) :: st)) : X k n ws lv pc (.int y :: .int x :: st) := by
  obtain ⟨p, e, s, m, args, below, meth, c, A, Q, rfl, hx, hb, hml, hown, hts, hK, hA, hZ, hN, hI⟩ := C
  exact fun H locs ls hP hD hS h => lv_idiv hx hb hd hne (kk H locs ls hP hD hS h)
theorem x_irem (C : rC X l cc nL own R D tys Z I) {x y : Int32} (hd : decode cc pc = .ok (.irem, 1)) (hne : ¬ y = 0) (kk : X k n ws lv (pc + 1) (.int (x - x / y * y) :: st)) : X k n ws lv pc (.int y :: .int x :: st) := by
  obtain ⟨p, e, s, m, args, below, meth, c, A, Q, rfl, hx, hb, hml, hown, hts, hK, hA, hZ, hN, hI⟩ := C
  exact fun H locs ls hP hD hS h => lv_irem hx hb hd hne (kk H locs ls hP hD hS h)
theorem x_ladd (C : rC X l cc nL own R D tys Z I) {x y : Int64} (hd : decode cc pc = .ok (.ladd, 1)) (kk : X k n ws lv (pc + 1) (.long (x + y) :: st)) : X k n ws lv pc (.long y :: .long x :: st) := by
  obtain ⟨p, e, s, m, args, below, meth, c, A, Q, rfl, hx, hb, hml, hown, hts, hK, hA, hZ, hN, hI⟩ := C
  exact fun H locs ls hP hD hS h => lv_ladd hx hb hd (kk H locs ls hP hD hS h)
theorem x_lsub (C : rC X l cc nL own R D tys Z I) {x y : Int64} (hd : decode cc pc = .ok (.lsub, 1)) (kk : X k n ws lv (pc + 1) (.long (x - y) :: st)) : X k n ws lv pc (.long y :: .long x :: st) := by
  obtain ⟨p, e, s, m, args, below, meth, c, A, Q, rfl, hx, hb, hml, hown, hts, hK, hA, hZ, hN, hI⟩ := C
  exact fun H locs ls hP hD hS h => lv_lsub hx hb hd (kk H locs ls hP hD hS h)
theorem x_lmul (C : rC X l cc nL own R D tys Z I) {x y : Int64} (hd : decode cc pc = .ok (.lmul, 1)) (kk : X k n ws lv (pc + 1) (.long (x * y) :: st)) : X k n ws lv pc (.long y :: .long x :: st) := by
  obtain ⟨p, e, s, m, args, below, meth, c, A, Q, rfl, hx, hb, hml, hown, hts, hK, hA, hZ, hN, hI⟩ := C
  exact fun H locs ls hP hD hS h => lv_lmul hx hb hd (kk H locs ls hP hD hS h)
theorem x_land (C : rC X l cc nL own R D tys Z I) {x y : Int64} (hd : decode cc pc = .ok (.land, 1)) (kk : X k n ws lv (pc + 1) (.long (x &&& y) :: st)) : X k n ws lv pc (.long y :: .long x :: st) := by
  obtain ⟨p, e, s, m, args, below, meth, c, A, Q, rfl, hx, hb, hml, hown, hts, hK, hA, hZ, hN, hI⟩ := C
  exact fun H locs ls hP hD hS h => lv_land hx hb hd (kk H locs ls hP hD hS h)
theorem x_lor (C : rC X l cc nL own R D tys Z I) {x y : Int64} (hd : decode cc pc = .ok (.lor, 1)) (kk : X k n ws lv (pc + 1) (.long (x ||| y) :: st)) : X k n ws lv pc (.long y :: .long x :: st) := by
  obtain ⟨p, e, s, m, args, below, meth, c, A, Q, rfl, hx, hb, hml, hown, hts, hK, hA, hZ, hN, hI⟩ := C
  exact fun H locs ls hP hD hS h => lv_lor hx hb hd (kk H locs ls hP hD hS h)
theorem x_ldiv (C : rC X l cc nL own R D tys Z I) {x y : Int64} (hd : decode cc pc = .ok (.ldiv, 1)) (hne : ¬ y = 0) (kk : X k n ws lv (pc + 1) (.long (x / y) :: st)) : X k n ws lv pc (.long y :: .long x :: st) := by
  obtain ⟨p, e, s, m, args, below, meth, c, A, Q, rfl, hx, hb, hml, hown, hts, hK, hA, hZ, hN, hI⟩ := C
  exact fun H locs ls hP hD hS h => lv_ldiv hx hb hd hne (kk H locs ls hP hD hS h)
theorem x_lrem (C : rC X l cc nL own R D tys Z I) {x y : Int64} (hd : decode cc pc = .ok (.lrem, 1)) (hne : ¬ y = 0) (kk : X k n ws lv (pc + 1) (.long (x - x / y * y) :: st)) : X k n ws lv pc (.long y :: .long x :: st) := by
  obtain ⟨p, e, s, m, args, below, meth, c, A, Q, rfl, hx, hb, hml, hown, hts, hK, hA, hZ, hN, hI⟩ := C
  exact fun H locs ls hP hD hS h => lv_lrem hx hb hd hne (kk H locs ls hP hD hS h)
theorem x_ishl (C : rC X l cc nL own R D tys Z I) {x y : Int32} (hd : decode cc pc = .ok (.ishl, 1)) (kk : X k n ws lv (pc + 1) (.int (x <<< (y &&& 31)) :: st)) : X k n ws lv pc (.int y :: .int x :: st) := by
  obtain ⟨p, e, s, m, args, below, meth, c, A, Q, rfl, hx, hb, hml, hown, hts, hK, hA, hZ, hN, hI⟩ := C
  exact fun H locs ls hP hD hS h => lv_ishl hx hb hd (kk H locs ls hP hD hS h)
theorem x_ishr (C : rC X l cc nL own R D tys Z I) {x y : Int32} (hd : decode cc pc = .ok (.ishr, 1)) (kk : X k n ws lv (pc + 1) (.int (x >>> (y &&& 31)) :: st)) : X k n ws lv pc (.int y :: .int x :: st) := by
  obtain ⟨p, e, s, m, args, below, meth, c, A, Q, rfl, hx, hb, hml, hown, hts, hK, hA, hZ, hN, hI⟩ := C
  exact fun H locs ls hP hD hS h => lv_ishr hx hb hd (kk H locs ls hP hD hS h)
theorem x_ineg (C : rC X l cc nL own R D tys Z I) {x : Int32} (hd : decode cc pc = .ok (.ineg, 1)) (kk : X k n ws lv (pc + 1) (.int (-x) :: st)) : X k n ws lv pc (.int x :: st) := by
  obtain ⟨p, e, s, m, args, below, meth, c, A, Q, rfl, hx, hb, hml, hown, hts, hK, hA, hZ, hN, hI⟩ := C
  exact fun H locs ls hP hD hS h => lv_ineg hx hb hd (kk H locs ls hP hD hS h)
theorem x_lneg (C : rC X l cc nL own R D tys Z I) {x : Int64} (hd : decode cc pc = .ok (.lneg, 1)) (kk : X k n ws lv (pc + 1) (.long (-x) :: st)) : X k n ws lv pc (.long x :: st) := by
  obtain ⟨p, e, s, m, args, below, meth, c, A, Q, rfl, hx, hb, hml, hown, hts, hK, hA, hZ, hN, hI⟩ := C
  exact fun H locs ls hP hD hS h => lv_lneg hx hb hd (kk H locs ls hP hD hS h)
theorem x_i2l (C : rC X l cc nL own R D tys Z I) {x : Int32} (hd : decode cc pc = .ok (.i2l, 1)) (kk : X k n ws lv (pc + 1) (.long (x.toInt64) :: st)) : X k n ws lv pc (.int x :: st) := by
  obtain ⟨p, e, s, m, args, below, meth, c, A, Q, rfl, hx, hb, hml, hown, hts, hK, hA, hZ, hN, hI⟩ := C
  exact fun H locs ls hP hD hS h => lv_i2l hx hb hd rfl (kk H locs ls hP hD hS h)
theorem x_l2i (C : rC X l cc nL own R D tys Z I) {x : Int64} (hd : decode cc pc = .ok (.l2i, 1)) (kk : X k n ws lv (pc + 1) (.int (x.toInt32) :: st)) : X k n ws lv pc (.long x :: st) := by
  obtain ⟨p, e, s, m, args, below, meth, c, A, Q, rfl, hx, hb, hml, hown, hts, hK, hA, hZ, hN, hI⟩ := C
  exact fun H locs ls hP hD hS h => lv_l2i hx hb hd rfl (kk H locs ls hP hD hS h)
theorem x_i2b (C : rC X l cc nL own R D tys Z I) {x : Int32} (hd : decode cc pc = .ok (.i2b, 1)) (kk : X k n ws lv (pc + 1) (.int (x.toInt8.toInt32) :: st)) : X k n ws lv pc (.int x :: st) := by
  obtain ⟨p, e, s, m, args, below, meth, c, A, Q, rfl, hx, hb, hml, hown, hts, hK, hA, hZ, hN, hI⟩ := C
  exact fun H locs ls hP hD hS h => lv_i2b hx hb hd rfl (kk H locs ls hP hD hS h)
theorem x_i2s (C : rC X l cc nL own R D tys Z I) {x : Int32} (hd : decode cc pc = .ok (.i2s, 1)) (kk : X k n ws lv (pc + 1) (.int (x.toInt16.toInt32) :: st)) : X k n ws lv pc (.int x :: st) := by
  obtain ⟨p, e, s, m, args, below, meth, c, A, Q, rfl, hx, hb, hml, hown, hts, hK, hA, hZ, hN, hI⟩ := C
  exact fun H locs ls hP hD hS h => lv_i2s hx hb hd rfl (kk H locs ls hP hD hS h)
theorem x_lushr (C : rC X l cc nL own R D tys Z I) {x : Int64} {y : Int32} (hd : decode cc pc = .ok (.lushr, 1)) (kk : X k n ws lv (pc + 1) (.long ((x.toUInt64 >>> (y.toInt64.toUInt64 &&& Int64.toUInt64 63)).toInt64) :: st)) : X k n ws lv pc (.int y :: .long x :: st) := by
  obtain ⟨p, e, s, m, args, below, meth, c, A, Q, rfl, hx, hb, hml, hown, hts, hK, hA, hZ, hN, hI⟩ := C
  exact fun H locs ls hP hD hS h => lv_lushr hx hb hd rfl (kk H locs ls hP hD hS h)
theorem x_lshl (C : rC X l cc nL own R D tys Z I) {x : Int64} {y : Int32} (hd : decode cc pc = .ok (.lshl, 1)) (kk : X k n ws lv (pc + 1) (.long (x <<< (y.toInt64 &&& 63)) :: st)) : X k n ws lv pc (.int y :: .long x :: st) := by
  obtain ⟨p, e, s, m, args, below, meth, c, A, Q, rfl, hx, hb, hml, hown, hts, hK, hA, hZ, hN, hI⟩ := C
  exact fun H locs ls hP hD hS h => lv_lshl hx hb hd rfl (kk H locs ls hP hD hS h)
theorem x_lshr (C : rC X l cc nL own R D tys Z I) {x : Int64} {y : Int32} (hd : decode cc pc = .ok (.lshr, 1)) (kk : X k n ws lv (pc + 1) (.long (x >>> (y.toInt64 &&& 63)) :: st)) : X k n ws lv pc (.int y :: .long x :: st) := by
  obtain ⟨p, e, s, m, args, below, meth, c, A, Q, rfl, hx, hb, hml, hown, hts, hK, hA, hZ, hN, hI⟩ := C
  exact fun H locs ls hP hD hS h => lv_lshr hx hb hd rfl (kk H locs ls hP hD hS h)
theorem x_lcmp (C : rC X l cc nL own R D tys Z I) {x y : Int64} (hd : decode cc pc = .ok (.lcmp, 1)) (kk : X k n ws lv (pc + 1) (.int (lg_cmp x y) :: st)) : X k n ws lv pc (.long y :: .long x :: st) := by
  obtain ⟨p, e, s, m, args, below, meth, c, A, Q, rfl, hx, hb, hml, hown, hts, hK, hA, hZ, hN, hI⟩ := C
  exact fun H locs ls hP hD hS h => W.lcmp hx hb hd (kk H locs ls hP hD hS h)
theorem x_dup (C : rC X l cc nL own R D tys Z I) {a : Value} (hd : decode cc pc = .ok (.dup, 1)) (ha : a.category = 1) (kk : X k n ws lv (pc + 1) (a :: a :: st)) : X k n ws lv pc (a :: st) := by
  obtain ⟨p, e, s, m, args, below, meth, c, A, Q, rfl, hx, hb, hml, hown, hts, hK, hA, hZ, hN, hI⟩ := C
  exact fun H locs ls hP hD hS h => lv_dup hx hb hd ha (kk H locs ls hP hD hS h)
theorem x_pop (C : rC X l cc nL own R D tys Z I) {a : Value} (hd : decode cc pc = .ok (.pop, 1)) (ha : a.category = 1) (kk : X k n ws lv (pc + 1) st) : X k n ws lv pc (a :: st) := by
  obtain ⟨p, e, s, m, args, below, meth, c, A, Q, rfl, hx, hb, hml, hown, hts, hK, hA, hZ, hN, hI⟩ := C
  exact fun H locs ls hP hD hS h => lv_pop hx hb hd ha (kk H locs ls hP hD hS h)
theorem x_dup_x1 (C : rC X l cc nL own R D tys Z I) {a b : Value} (hd : decode cc pc = .ok (.dup_x1, 1)) (ha : a.category = 1) (hb9 : b.category = 1) (kk : X k n ws lv (pc + 1) (a :: b :: a :: st)) : X k n ws lv pc (a :: b :: st) := by
  obtain ⟨p, e, s, m, args, below, meth, c, A, Q, rfl, hx, hb, hml, hown, hts, hK, hA, hZ, hN, hI⟩ := C
  exact fun H locs ls hP hD hS h => lv_dup_x1 hx hb hd ha hb9 (kk H locs ls hP hD hS h)
theorem x_dup2 (C : rC X l cc nL own R D tys Z I) {a b : Value} (hd : decode cc pc = .ok (.dup2, 1)) (ha : a.category = 1) (hb9 : b.category = 1) (kk : X k n ws lv (pc + 1) (a :: b :: a :: b :: st)) : X k n ws lv pc (a :: b :: st) := by
  obtain ⟨p, e, s, m, args, below, meth, c, A, Q, rfl, hx, hb, hml, hown, hts, hK, hA, hZ, hN, hI⟩ := C
  exact fun H locs ls hP hD hS h => lv_dup2_11 hx hb hd ha hb9 (kk H locs ls hP hD hS h)
theorem x_if_eq (C : rC X l cc nL own R D tys Z I) {x : Int32} {off : Int} {tgt : Nat} (hd : decode cc pc = .ok (.ifCond .eq off, 3)) (ht : (pc : Int) + off = (tgt : Int)) (kt : x = 0 → X k n ws lv tgt st) (kf : ¬ x = 0 → X k n ws lv (pc + 3) st) : X k n ws lv pc (.int x :: st) := by
  obtain ⟨p, e, s, m, args, below, meth, c, A, Q, rfl, hx, hb, hml, hown, hts, hK, hA, hZ, hN, hI⟩ := C
  exact fun H locs ls hP hD hS h => lv_if_eq hx hb hd ht (fun q => kt q H locs ls hP hD hS h) (fun q => kf q H locs ls hP hD hS h)
theorem x_if_ne (C : rC X l cc nL own R D tys Z I) {x : Int32} {off : Int} {tgt : Nat} (hd : decode cc pc = .ok (.ifCond .ne off, 3)) (ht : (pc : Int) + off = (tgt : Int)) (kt : ¬ x = 0 → X k n ws lv tgt st) (kf : x = 0 → X k n ws lv (pc + 3) st) : X k n ws lv pc (.int x :: st) := by
  obtain ⟨p, e, s, m, args, below, meth, c, A, Q, rfl, hx, hb, hml, hown, hts, hK, hA, hZ, hN, hI⟩ := C
  exact fun H locs ls hP hD hS h => lv_if_ne hx hb hd ht (fun q => kt q H locs ls hP hD hS h) (fun q => kf q H locs ls hP hD hS h)
theorem x_if_lt (C : rC X l cc nL own R D tys Z I) {x : Int32} {off : Int} {tgt : Nat} (hd : decode cc pc = .ok (.ifCond .lt off, 3)) (ht : (pc : Int) + off = (tgt : Int)) (kt : x < 0 → X k n ws lv tgt st) (kf : ¬ x < 0 → X k n ws lv (pc + 3) st) : X k n ws lv pc (.int x :: st) := by
  obtain ⟨p, e, s, m, args, below, meth, c, A, Q, rfl, hx, hb, hml, hown, hts, hK, hA, hZ, hN, hI⟩ := C
  exact fun H locs ls hP hD hS h => lv_if_lt hx hb hd ht (fun q => kt q H locs ls hP hD hS h) (fun q => kf q H locs ls hP hD hS h)
theorem x_if_ge (C : rC X l cc nL own R D tys Z I) {x : Int32} {off : Int} {tgt : Nat} (hd : decode cc pc = .ok (.ifCond .ge off, 3)) (ht : (pc : Int) + off = (tgt : Int)) (kt : 0 ≤ x → X k n ws lv tgt st) (kf : ¬ 0 ≤ x → X k n ws lv (pc + 3) st) : X k n ws lv pc (.int x :: st) := by
  obtain ⟨p, e, s, m, args, below, meth, c, A, Q, rfl, hx, hb, hml, hown, hts, hK, hA, hZ, hN, hI⟩ := C
  exact fun H locs ls hP hD hS h => lv_if_ge hx hb hd ht (fun q => kt q H locs ls hP hD hS h) (fun q => kf q H locs ls hP hD hS h)
theorem x_if_gt (C : rC X l cc nL own R D tys Z I) {x : Int32} {off : Int} {tgt : Nat} (hd : decode cc pc = .ok (.ifCond .gt off, 3)) (ht : (pc : Int) + off = (tgt : Int)) (kt : 0 < x → X k n ws lv tgt st) (kf : ¬ 0 < x → X k n ws lv (pc + 3) st) : X k n ws lv pc (.int x :: st) := by
  obtain ⟨p, e, s, m, args, below, meth, c, A, Q, rfl, hx, hb, hml, hown, hts, hK, hA, hZ, hN, hI⟩ := C
  exact fun H locs ls hP hD hS h => lv_if_gt hx hb hd ht (fun q => kt q H locs ls hP hD hS h) (fun q => kf q H locs ls hP hD hS h)
theorem x_if_le (C : rC X l cc nL own R D tys Z I) {x : Int32} {off : Int} {tgt : Nat} (hd : decode cc pc = .ok (.ifCond .le off, 3)) (ht : (pc : Int) + off = (tgt : Int)) (kt : x ≤ 0 → X k n ws lv tgt st) (kf : ¬ x ≤ 0 → X k n ws lv (pc + 3) st) : X k n ws lv pc (.int x :: st) := by
  obtain ⟨p, e, s, m, args, below, meth, c, A, Q, rfl, hx, hb, hml, hown, hts, hK, hA, hZ, hN, hI⟩ := C
  exact fun H locs ls hP hD hS h => lv_if_le hx hb hd ht (fun q => kt q H locs ls hP hD hS h) (fun q => kf q H locs ls hP hD hS h)
theorem x_icmp_eq (C : rC X l cc nL own R D tys Z I) {x y : Int32} {off : Int} {tgt : Nat} (hd : decode cc pc = .ok (.if_icmp .eq off, 3)) (ht : (pc : Int) + off = (tgt : Int)) (kt : x = y → X k n ws lv tgt st) (kf : ¬ x = y → X k n ws lv (pc + 3) st) : X k n ws lv pc (.int y :: .int x :: st) := by
  obtain ⟨p, e, s, m, args, below, meth, c, A, Q, rfl, hx, hb, hml, hown, hts, hK, hA, hZ, hN, hI⟩ := C
  exact fun H locs ls hP hD hS h => lv_icmp_eq hx hb hd ht (fun q => kt q H locs ls hP hD hS h) (fun q => kf q H locs ls hP hD hS h)
theorem x_icmp_ne (C : rC X l cc nL own R D tys Z I) {x y : Int32} {off : Int} {tgt : Nat} (hd : decode cc pc = .ok (.if_icmp .ne off, 3)) (ht : (pc : Int) + off = (tgt : Int)) (kt : ¬ x = y → X k n ws lv tgt st) (kf : x = y → X k n ws lv (pc + 3) st) : X k n ws lv pc (.int y :: .int x :: st) := by
  obtain ⟨p, e, s, m, args, below, meth, c, A, Q, rfl, hx, hb, hml, hown, hts, hK, hA, hZ, hN, hI⟩ := C
  exact fun H locs ls hP hD hS h => lv_icmp_ne hx hb hd ht (fun q => kt q H locs ls hP hD hS h) (fun q => kf q H locs ls hP hD hS h)
theorem x_icmp_lt (C : rC X l cc nL own R D tys Z I) {x y : Int32} {off : Int} {tgt : Nat} (hd : decode cc pc = .ok (.if_icmp .lt off, 3)) (ht : (pc : Int) + off = (tgt : Int)) (kt : x < y → X k n ws lv tgt st) (kf : ¬ x < y → X k n ws lv (pc + 3) st) : X k n ws lv pc (.int y :: .int x :: st) := by
  obtain ⟨p, e, s, m, args, below, meth, c, A, Q, rfl, hx, hb, hml, hown, hts, hK, hA, hZ, hN, hI⟩ := C
  exact fun H locs ls hP hD hS h => lv_icmp_lt hx hb hd ht (fun q => kt q H locs ls hP hD hS h) (fun q => kf q H locs ls hP hD hS h)
theorem x_icmp_ge (C : rC X l cc nL own R D tys Z I) {x y : Int32} {off : Int} {tgt : Nat} (hd : decode cc pc = .ok (.if_icmp .ge off, 3)) (ht : (pc : Int) + off = (tgt : Int)) (kt : y ≤ x → X k n ws lv tgt st) (kf : ¬ y ≤ x → X k n ws lv (pc + 3) st) : X k n ws lv pc (.int y :: .int x :: st) := by
  obtain ⟨p, e, s, m, args, below, meth, c, A, Q, rfl, hx, hb, hml, hown, hts, hK, hA, hZ, hN, hI⟩ := C
  exact fun H locs ls hP hD hS h => lv_icmp_ge hx hb hd ht (fun q => kt q H locs ls hP hD hS h) (fun q => kf q H locs ls hP hD hS h)
theorem x_icmp_gt (C : rC X l cc nL own R D tys Z I) {x y : Int32} {off : Int} {tgt : Nat} (hd : decode cc pc = .ok (.if_icmp .gt off, 3)) (ht : (pc : Int) + off = (tgt : Int)) (kt : y < x → X k n ws lv tgt st) (kf : ¬ y < x → X k n ws lv (pc + 3) st) : X k n ws lv pc (.int y :: .int x :: st) := by
  obtain ⟨p, e, s, m, args, below, meth, c, A, Q, rfl, hx, hb, hml, hown, hts, hK, hA, hZ, hN, hI⟩ := C
  exact fun H locs ls hP hD hS h => lv_icmp_gt hx hb hd ht (fun q => kt q H locs ls hP hD hS h) (fun q => kf q H locs ls hP hD hS h)
theorem x_icmp_le (C : rC X l cc nL own R D tys Z I) {x y : Int32} {off : Int} {tgt : Nat} (hd : decode cc pc = .ok (.if_icmp .le off, 3)) (ht : (pc : Int) + off = (tgt : Int)) (kt : x ≤ y → X k n ws lv tgt st) (kf : ¬ x ≤ y → X k n ws lv (pc + 3) st) : X k n ws lv pc (.int y :: .int x :: st) := by
  obtain ⟨p, e, s, m, args, below, meth, c, A, Q, rfl, hx, hb, hml, hown, hts, hK, hA, hZ, hN, hI⟩ := C
  exact fun H locs ls hP hD hS h => lv_icmp_le hx hb hd ht (fun q => kt q H locs ls hP hD hS h) (fun q => kf q H locs ls hP hD hS h)
theorem x_goto (C : rC X l cc nL own R D tys Z I) {off : Int} {tgt : Nat} (hd : decode cc pc = .ok (.goto off, 3)) (ht : (pc : Int) + off = (tgt : Int)) (kk : X k n ws lv tgt st) : X k n ws lv pc st := by
  obtain ⟨p, e, s, m, args, below, meth, c, A, Q, rfl, hx, hb, hml, hown, hts, hK, hA, hZ, hN, hI⟩ := C
  exact fun H locs ls hP hD hS h => lv_goto hx hb hd ht (kk H locs ls hP hD hS h)
theorem x_tableOut (C : rC X l cc nL own R D tys Z I) {dflt lo hi : Int} {offs : Array Int} {len : Nat} {x : Int32} {tgt : Nat} (hd : decode cc pc = .ok (.tableswitch dflt lo hi offs, len)) (h9 : x.toInt < lo ∨ hi < x.toInt) (ht : (pc : Int) + dflt = (tgt : Int)) (kk : X k n ws lv tgt st) : X k n ws lv pc (.int x :: st) := by
  obtain ⟨p, e, s, m, args, below, meth, c, A, Q, rfl, hx, hb, hml, hown, hts, hK, hA, hZ, hN, hI⟩ := C
  exact fun H locs ls hP hD hS h => lv_tableOut hx hb hd h9 ht (kk H locs ls hP hD hS h)
theorem x_tableIn (C : rC X l cc nL own R D tys Z I) {dflt lo hi : Int} {offs : Array Int} {len : Nat} {x : Int32} {off : Int} {tgt : Nat} (hd : decode cc pc = .ok (.tableswitch dflt lo hi offs, len)) (h1 : ¬ x.toInt < lo) (h2 : ¬ hi < x.toInt) (ho : offs[(x.toInt - lo).toNat]? = some off) (ht : (pc : Int) + off = (tgt : Int)) (kk : X k n ws lv tgt st) : X k n ws lv pc (.int x :: st) := by
  obtain ⟨p, e, s, m, args, below, meth, c, A, Q, rfl, hx, hb, hml, hown, hts, hK, hA, hZ, hN, hI⟩ := C
  exact fun H locs ls hP hD hS h => lv_tableIn hx hb hd h1 h2 ho ht (kk H locs ls hP hD hS h)
theorem x_lookup (C : rC X l cc nL own R D tys Z I) {dflt : Int} {ps : Array (Int × Int)} {len : Nat} {x : Int32} {off : Int} {tgt : Nat} (hd : decode cc pc = .ok (.lookupswitch dflt ps, len)) (hp : (ps.toList.zip (ps.toList.drop 1)).all (fun (a, next) => a.1 < next.1) = true) (ho : Op.lookupswitch.offset ps.toList dflt x.toInt = off) (ht : (pc : Int) + off = (tgt : Int)) (kk : X k n ws lv tgt st) : X k n ws lv pc (.int x :: st) := by
  obtain ⟨p, e, s, m, args, below, meth, c, A, Q, rfl, hx, hb, hml, hown, hts, hK, hA, hZ, hN, hI⟩ := C
  exact fun H locs ls hP hD hS h => lv_lookup hx hb hd hp ho ht (kk H locs ls hP hD hS h)
theorem x_get (C : rC X l cc nL own R D tys Z I) {Cn : String} {T : u_T} {N ci idx : Nat} (hin : ∀ w ∈ u_ws Cn T N, w ∈ GW) (hc : vwCl[ci]? = some (Cn, T, N)) {a : Nat} {fs : List Value} (f : Nat) (hf : f < N) (hl : Cond.fieldLink own idx (T f).1 (T f).2.1 (T f).2.2.1 ∈ GW) (hd : decode cc pc = .ok (.getfield idx, 3)) (q : Nat) (he : ws[q]? = some (a, .inr (ci, fs))) {v : Value} (hv : fs[f]? = some v) (kk : X k n ws lv (pc + 3) (v :: st)) : X k n ws lv pc (.ref a :: st) := by
  obtain ⟨p, e, s, m, args, below, meth, c, A, Q, rfl, hx, hb, hml, hown, hts, hK, hA, hZ, hN, hI⟩ := C
  exact fun H locs ls hP hD hS h => va_get hx hb hts hin hown hK hP q he hc f hf (hts _ hl) (fun _ h9 => h9) hv hd (kk H locs ls hP hD hS h)
theorem x_put (C : rC X l cc nL own R D tys Z I) {Cn : String} {T : u_T} {N ci idx : Nat} (hin : ∀ w ∈ u_ws Cn T N, w ∈ GW) (hc : vwCl[ci]? = some (Cn, T, N)) (ty0 : Nat → FieldType) (hty : ∀ k, k < N → parseFieldDescriptor (T k).2.2.1 = some (ty0 k)) (hnm : ∀ a, a < N → ∀ b, b < N → a ≠ b → (T a).2.1 ≠ (T b).2.1) {a : Nat} {fs : List Value} (f : Nat) (hf : f < N) (hl : Cond.fieldLink own idx (T f).1 (T f).2.1 (T f).2.2.1 ∈ GW) (hfin : (T f).2.2.2 = false) (hd : decode cc pc = .ok (.putfield idx, 3)) (q : Nat) (he : ws[q]? = some (a, .inr (ci, fs))) {v : Value} (hn : narrow (ty0 f) v = v) (hfit : fits (ty0 f) v = true) (hlen : f < fs.length) (kk : X k n (ws.set q (a, .inr (ci, fs.set f v))) lv (pc + 3) st) : X k n ws lv pc (v :: .ref a :: st) := by
  obtain ⟨p, e, s, m, args, below, meth, c, A, Q, rfl, hx, hb, hml, hown, hts, hK, hA, hZ, hN, hI⟩ := C
  exact fun H locs ls hP hD hS h => va_put hx hb hts hin ty0 hty hnm hown hK hP hD hS q he hc f hf (hts _ hl) (fun _ h9 => h9) hfin (hty f hf) hn hfit hlen hd (fun H1 l1 hP1 hD1 hS1 => kk H1 l1 ls hP1 hD1 hS1 h)
theorem x_getN (C : rC X l cc nL own R D tys Z I) {Cn host : String} {T : u_T} {N ci idx : Nat} (hin : ∀ w ∈ u_ws Cn T N, w ∈ GW) (hc : vwCl[ci]? = some (Cn, T, N)) {a : Nat} {fs : List Value} (f : Nat) (hf : f < N) (hl : (own, idx, (T f).1, (T f).2.1, (T f).2.2.1, host) ∈ NWF) (hd : decode cc pc = .ok (.getfield idx, 3)) (q : Nat) (he : ws[q]? = some (a, .inr (ci, fs))) {v : Value} (hv : fs[f]? = some v) (kk : X k n ws lv (pc + 3) (v :: st)) : X k n ws lv pc (.ref a :: st) := by
  obtain ⟨p, e, s, m, args, below, meth, c, A, Q, rfl, hx, hb, hml, hown, hts, hK, hA, hZ, hN, hI⟩ := C
  exact fun H locs ls hP hD hS h => va_getN hx hb hts hin hown hK hP q he hc f hf (va_Nw.use rfl (hN.1 _ hl)) (fun _ h9 => h9) hv hd (kk H locs ls hP hD hS h)
theorem x_putN (C : rC X l cc nL own R D tys Z I) {Cn host : String} {T : u_T} {N ci idx : Nat} (hin : ∀ w ∈ u_ws Cn T N, w ∈ GW) (hc : vwCl[ci]? = some (Cn, T, N)) (ty0 : Nat → FieldType) (hty : ∀ k, k < N → parseFieldDescriptor (T k).2.2.1 = some (ty0 k)) (hnm : ∀ a, a < N → ∀ b, b < N → a ≠ b → (T a).2.1 ≠ (T b).2.1) {a : Nat} {fs : List Value} (f : Nat) (hf : f < N) (hl : (own, idx, (T f).1, (T f).2.1, (T f).2.2.1, host) ∈ NWF) (hfin : (T f).2.2.2 = false) (hd : decode cc pc = .ok (.putfield idx, 3)) (q : Nat) (he : ws[q]? = some (a, .inr (ci, fs))) {v : Value} (hn : narrow (ty0 f) v = v) (hfit : fits (ty0 f) v = true) (hlen : f < fs.length) (kk : X k n (ws.set q (a, .inr (ci, fs.set f v))) lv (pc + 3) st) : X k n ws lv pc (v :: .ref a :: st) := by
  obtain ⟨p, e, s, m, args, below, meth, c, A, Q, rfl, hx, hb, hml, hown, hts, hK, hA, hZ, hN, hI⟩ := C
  exact fun H locs ls hP hD hS h => va_putN hx hb hts hin ty0 hty hnm hown hK hP hD hS q he hc f hf (va_Nw.use rfl (hN.1 _ hl)) (fun _ h9 => h9) hfin (hty f hf) hn hfit hlen hd (fun H1 l1 hP1 hD1 hS1 => kk H1 l1 ls hP1 hD1 hS1 h)
theorem x_putF (C : rC X l cc nL own R D tys Z true) {T : u_T} {N ci idx : Nat} (hin : ∀ w ∈ u_ws own T N, w ∈ GW) (hc : vwCl[ci]? = some (own, T, N)) (ty0 : Nat → FieldType) (hty : ∀ k, k < N → parseFieldDescriptor (T k).2.2.1 = some (ty0 k)) (hnm : ∀ a, a < N → ∀ b, b < N → a ≠ b → (T a).2.1 ≠ (T b).2.1) {a : Nat} {fs : List Value} (f : Nat) (hf : f < N) (hl : Cond.fieldLink own idx (T f).1 (T f).2.1 (T f).2.2.1 ∈ GW) (hfin : (T f).2.2.2 = true) (hdecl : (T f).1 = own) (hd : decode cc pc = .ok (.putfield idx, 3)) (q : Nat) (he : ws[q]? = some (a, .inr (ci, fs))) {v : Value} (hn : narrow (ty0 f) v = v) (hfit : fits (ty0 f) v = true) (hlen : f < fs.length) (kk : X k n (ws.set q (a, .inr (ci, fs.set f v))) lv (pc + 3) st) : X k n ws lv pc (v :: .ref a :: st) := by
  obtain ⟨p, e, s, m, args, below, meth, c, A, Q, rfl, hx, hb, hml, hown, hts, hK, hA, hZ, hN, hI⟩ := C
  exact fun H locs ls hP hD hS h => va_putF hx hb hts hin ty0 hty hnm hown hK hP hD hS q he hc f hf (hts _ hl) (fun _ h9 => h9) hfin (hI rfl) hdecl (hty f hf) hn hfit hlen hd (fun H1 l1 hP1 hD1 hS1 => kk H1 l1 ls hP1 hD1 hS1 h)
theorem x_iaload (C : rC X l cc nL own R D tys Z I) (t : Nat) {cA : ClassId} (ht : tys[t]? = some (cA, .int)) (hd : decode cc pc = .ok (.iaload, 1)) {a N : Nat} {f : Nat → Int32} {i : Int32} (j : Nat) (hij : i.toNatClampNeg = j) (hin : vp_in i N) (q : Nat) (he : ws[q]? = some (a, .inl (cA, N, .inl f))) (kk : X k n ws lv (pc + 1) (.int (f j) :: st)) : X k n ws lv pc (.int i :: .ref a :: st) := by
  obtain ⟨p, e, s, m, args, below, meth, c, A, Q, rfl, hx, hb, hml, hown, hts, hK, hA, hZ, hN, hI⟩ := C
  subst hij
  exact fun H locs ls hP hD hS h => va_iald hx hb hK hP q t he ht hin hd (kk H locs ls hP hD hS h)
theorem x_iastore (C : rC X l cc nL own R D tys Z I) (t : Nat) {cA : ClassId} (ht : tys[t]? = some (cA, .int)) (hd : decode cc pc = .ok (.iastore, 1)) {a N : Nat} {f : Nat → Int32} {i x : Int32} (j : Nat) (hij : i.toNatClampNeg = j) (hin : vp_in i N) (q : Nat) (he : ws[q]? = some (a, .inl (cA, N, .inl f))) (kk : X k n (ws.set q (a, .inl (cA, N, .inl (upd f j x)))) lv (pc + 1) st) : X k n ws lv pc (.int x :: .int i :: .ref a :: st) := by
  obtain ⟨p, e, s, m, args, below, meth, c, A, Q, rfl, hx, hb, hml, hown, hts, hK, hA, hZ, hN, hI⟩ := C
  subst hij
  exact fun H locs ls hP hD hS h => va_iast hx hb hK hP hD hS q t he ht hin hd (fun H1 l1 hP1 hD1 hS1 => kk H1 l1 ls hP1 hD1 hS1 h)
theorem x_aaload (C : rC X l cc nL own R D tys Z I) (t : Nat) {cA : ClassId} {Cn : String} (ht : tys[t]? = some (cA, .object Cn)) (hd : decode cc pc = .ok (.aaload, 1)) {a N : Nat} {f : Nat → Option Nat} {i : Int32} (j : Nat) (hij : i.toNatClampNeg = j) (hin : vp_in i N) (q : Nat) (he : ws[q]? = some (a, .inl (cA, N, .inr (.inr (.inr (.inr f)))))) {v : Nat} (hv : f j = some v) (kk : X k n ws lv (pc + 1) (.ref v :: st)) : X k n ws lv pc (.int i :: .ref a :: st) := by
  obtain ⟨p, e, s, m, args, below, meth, c, A, Q, rfl, hx, hb, hml, hown, hts, hK, hA, hZ, hN, hI⟩ := C
  intro H locs ls hP hD hS h
  have hlt : i.toNatClampNeg < N := Nat.not_le.mp fun q => hin (Or.inr q)
  exact W.aald (v := .ref v) (ty := .object Cn) hx hb (hP q _ he) ((hK.2 t _ ht).1 N (fun j => va_rf (f j))) rfl (fun q => by cases q) (by show ¬ (i < 0 ∨ (arrV _ _ _).slots.size ≤ _); rw [arrV_size]; exact hin) (by show (arrV _ _ _).slots[_]? = _; rw [arrV_read _ _ hlt, hij, hv]; rfl) rfl rfl hd (kk H locs ls hP hD hS h)
theorem x_aaloadA (C : rC X l cc nL own R D tys Z I) (t : Nat) {cA : ClassId} {ty9 : FieldType} (ht : tys[t]? = some (cA, .array ty9)) (hd : decode cc pc = .ok (.aaload, 1)) {a N : Nat} {f : Nat → Option Nat} {i : Int32} (j : Nat) (hij : i.toNatClampNeg = j) (hin : vp_in i N) (q : Nat) (he : ws[q]? = some (a, .inl (cA, N, .inr (.inr (.inr (.inr f)))))) {v : Nat} (hv : f j = some v) (kk : X k n ws lv (pc + 1) (.ref v :: st)) : X k n ws lv pc (.int i :: .ref a :: st) := by
  obtain ⟨p, e, s, m, args, below, meth, c, A, Q, rfl, hx, hb, hml, hown, hts, hK, hA, hZ, hN, hI⟩ := C
  intro H locs ls hP hD hS h
  have hlt : i.toNatClampNeg < N := Nat.not_le.mp fun q => hin (Or.inr q)
  exact W.aald (v := .ref v) (ty := .array ty9) hx hb (hP q _ he) ((hK.2 t _ ht).1 N (fun j => va_rf (f j))) rfl (fun q => by cases q) (by show ¬ (i < 0 ∨ (arrV _ _ _).slots.size ≤ _); rw [arrV_size]; exact hin) (by show (arrV _ _ _).slots[_]? = _; rw [arrV_read _ _ hlt, hij, hv]; rfl) rfl rfl hd (kk H locs ls hP hD hS h)
theorem x_sub (C : rC X l cc nL own R D tys Z I) (is : List Nat) {ws' : va_W} (hn : va_nd is = true) (hs : is.map (fun i => ws[i]?) = ws'.map some) (kk : X k n ws' lv pc st) : X k n ws lv pc st := by
  obtain ⟨p, e, s, m, args, below, meth, c, A, Q, rfl, hx, hb, hml, hown, hts, hK, hA, hZ, hN, hI⟩ := C
  refine fun H locs ls hP hD hS h => kk H locs ls (hP.sub is ?_) (hD.sub is hn hs) hS h
  exact r_fm is _ hs
theorem x_lv (C : rC X l cc nL own R D tys Z I) (ks : List Nat) {lv' : rL} (hl : lv_pick lv ks = lv') (kk : X k n ws lv' pc st) : X k n ws lv pc st := by
  obtain ⟨p, e, s, m, args, below, meth, c, A, Q, rfl, hx, hb, hml, hown, hts, hK, hA, hZ, hN, hI⟩ := C
  exact fun H locs ls hP hD hS h => kk H locs ls hP hD hS (lv_sub h ks hl)
theorem x_arr (C : rC X l cc nL own R D tys Z I) (q : Nat) {a N : Nat} {cA : ClassId} {f : Nat → Int32} (he : ws[q]? = some (a, .inl (cA, N, .inl f))) (g : Nat → Int32) (hg : ∀ i, i < N → f i = g i) (kk : X k n (ws.set q (a, .inl (cA, N, .inl g))) lv pc st) : X k n ws lv pc st := by
  obtain ⟨p, e, s, m, args, below, meth, c, A, Q, rfl, hx, hb, hml, hown, hts, hK, hA, hZ, hN, hI⟩ := C
  refine fun H locs ls hP hD hS h => kk H locs ls (hP.set hD he ?_ (fun _ _ => rfl)) (hD.set he) hS h
  have h9 := hP q _ he
  show H[a]? = some (vp_cell cA (N, .inl g))
  rw [← r_cell hg]
  exact h9
theorem x_alen (C : rC X l cc nL own R D tys Z I) (t : Nat) {cA : ClassId} {ty : FieldType} (ht : tys[t]? = some (cA, ty)) (hd : decode cc pc = .ok (.arraylength, 1)) {a : Nat} {x : vp_A} (q : Nat) (he : ws[q]? = some (a, .inl (cA, x))) {v : Int32} (hv : Int32.ofNat x.1 = v) (kk : X k n ws lv (pc + 1) (.int v :: st)) : X k n ws lv pc (.ref a :: st) := by
  obtain ⟨p, e, s, m, args, below, meth, c, A, Q, rfl, hx, hb, hml, hown, hts, hK, hA, hZ, hN, hI⟩ := C
  exact fun H locs ls hP hD hS h => va_alen hx hb hK hP q t he ht hv hd (kk H locs ls hP hD hS h)
theorem x_topi (C : rC X l cc nL own R D tys Z I) {v : Int32} (w : Int32) (h : v = w) (kk : X k n ws lv pc (.int w :: st)) : X k n ws lv pc (.int v :: st) := h ▸ kk
theorem x_topl (C : rC X l cc nL own R D tys Z I) {v : Int64} (w : Int64) (h : v = w) (kk : X k n ws lv pc (.long w :: st)) : X k n ws lv pc (.long v :: st) := h ▸ kk
theorem x_ldcw (C : rC X l cc nL own R D tys Z I) {i : Nat} {v : Int32} (hw : Cond.constant own i v ∈ GW) (hd : decode cc pc = .ok (.ldc_w i, 3)) (kk : X k n ws lv (pc + 3) (.int v :: st)) : X k n ws lv pc st := by
  obtain ⟨p, e, s, m, args, below, meth, c, A, Q, rfl, hx, hb, hml, hown, hts, hK, hA, hZ, hN, hI⟩ := C
  exact fun H locs ls hP hD hS hl => lv_ldcw hx hb hown (hts _ hw) hd (kk H locs ls hP hD hS hl)
theorem x_widen (C : rC X l cc nL own R D tys Z I) {k' n' : Nat} (h1 : k ≤ k') (h2 : n ≤ n') (kk : X k' n' ws lv pc st) : X k n ws lv pc st := by
  obtain ⟨p, e, s, m, args, below, meth, c, A, Q, rfl, hx, hb, hml, hown, hts, hK, hA, hZ, hN, hI⟩ := C
  exact fun H locs ls hP hD hS hl => W.widen h1 h2 (kk H locs ls hP hD hS hl)
/-! calls -/
def rB (X : rT) (k n : Nat) (lv : rL) (pc : Nat) (st : List Value) (rm : Room) (Po : rP) (wr : va_W) : Prop := ∀ (v : Option Value) (ws1 : va_W), Po v ws1 → X (k + rm.cells) (n + rm.slots) (wr ++ ws1) lv (pc + 3) (v.toList ++ st)
theorem r_blind {D : va_G} {tys : List (ClassId × FieldType)} {Z : rZ} (hZ : rOk Z) {av : List Value} {ws : va_W} {sz : Nat} {A : Nat → Prop} : FrameBlind (va_Pc av (fun U => U.heap.size = sz ∧ va_P D vwCl ws U.heap ∧ va_K D vwCl tys U ∧ va_D (fun _ => True) ws ∧ Z A U U.heap ∧ rN U)) := fun a U g mk q => by
  obtain ⟨q0, q1, qP, qK, qD, qZ, qN⟩ := q
  exact ⟨q0, q1, qP, va_K.moved (u := U) (U := U.calling g mk a) (Vm.Alike.refl U.vm) qK, qD, hZ.2 A U (U.calling g mk a) _ rfl qZ, rN_same (u := U) (U := U.calling g mk a) rfl qN⟩
theorem r_back {p : Program} {l : Launch} {e : Env} {R : Room} {s : State} {m : MethodId} {args : Array Value} {below : List Frame} {meth : Method} {c : Code} {D : va_G} {A : Nat → Prop} {nL : Nat} {Q : State → Prop} {H : Heap} {locs : List Loc} {ls : Array Slot} {k n : Nat} {ws wc wr : va_W} {lv : rL} {pc : Nat} {st st0 : List Value} {rm : Room} {Po : rP} {av : Array Value}
    (hP : va_P D vwCl ws H) (hD : va_D A ws) (hS : va_S A s.heap H locs) (h : lv_has ls nL lv) (hA : ∀ q : Nat, s.heap.size ≤ q → A q) (isC isR : List Nat) (hC : isC.map (fun i => ws[i]?) = wc.map some) (hR : isR.map (fun i => ws[i]?) = wr.map some) (hn : va_nd isR = true) (hdis : ∀ i ∈ isR, i ∉ isC)
    (hr : va_Run p l e R s m args below meth c H locs k n rm.cells rm.slots (F0 m pc ls st0) st (rQ D (va_A wc H.size) Po av) (va_A wc H.size))
    (kk : rB (rW p l e R s m args below meth c D A nL Q) k n lv pc st rm Po wr) : W p l e R s m args below meth c H locs k n Q (F0 m pc ls st0) := by
  have hF := va_free (wc := wc) hD hS hA isC hC
  intro T hT X
  obtain ⟨v, st₀, t, T', L, h0, X', hL, e1, e2, ⟨v9, ws1, hv, hPo, hP1, hD1, hz, hk⟩, sq⟩ := hr T hT X
  cases hv
  rw [h0] at hz hk
  rw [← e1] at hP1 hz
  have hk1 : ∀ q : Nat, q < H.size → ¬ va_A wc H.size q → T'.heap[q]? = H[q]? := fun q a b => by rw [e1]; exact hk q a b
  obtain ⟨hP2, hD2⟩ := va_join hP hD isC isR hC hR hn hdis hk1 hF hP1 hD1
  have hS2 : va_S A s.heap T'.heap (locs ++ L) := ⟨Nat.le_trans hS.1 hz, fun q h1 h2 => (hk1 q (Nat.lt_of_lt_of_le h1 hS.1) (fun z => h2 (hF q z))).trans (hS.2.1 q h1 h2), fun q hq => by
    rcases List.mem_append.mp hq with h | h
    · exact hS.2.2 q h
    · exact hF _ (hL q h)⟩
  obtain ⟨t2, a1, b1⟩ := kk v ws1 hPo T'.heap (locs ++ L) ls hP2 hD2 hS2 h T' rfl X'
  exact ⟨t2, sq t2 a1, b1⟩
theorem r_pre {D : va_G} {tys : List (ClassId × FieldType)} {Z Z' : rZ} {s : State} {A : Nat → Prop} {H : Heap} {locs : List Loc} {ws wc : va_W} {av : List Value} (hZ : rOk Z') (hZZ : Z A s s.heap → Z' A s s.heap) (hz : Z A s s.heap) (hN : rN s) (hK : va_K D vwCl tys s) (hA : ∀ q : Nat, s.heap.size ≤ q → A q) (hP : va_P D vwCl ws H) (hD : va_D A ws) (hS : va_S A s.heap H locs) (isC : List Nat) (hC : isC.map (fun i => ws[i]?) = wc.map some) (hnC : va_nd isC = true) :
    ∀ U : State, U.heap = H → s.WarmedH U.vm → va_Pc av (fun U => U.heap.size = H.size ∧ va_P D vwCl wc U.heap ∧ va_K D vwCl tys U ∧ va_D (fun _ => True) wc ∧ Z' (va_A wc H.size) U U.heap ∧ rN U) av.toArray U := fun U hU hW => by
  have hF := va_free (wc := wc) hD hS hA isC hC
  exact ⟨rfl, by rw [hU], by rw [hU]; exact hP.sub isC (r_fm isC wc hC), va_K.moved hW.alike hK, (hD.sub isC hnC hC).weaken (fun _ _ _ _ => trivial), by rw [hU]; exact hZ.1 A _ s U H (hZZ hz) hS.2.1 hF hW, rN_warm hW hN⟩
theorem r_gV {own : String} {idx : Nat} {y : MethodName} {cw : Cond} (h1 : Cond.methodLink own idx y ∈ GW) (h2 : Cond.instanceMethod y ∈ GW) (h3 : Cond.selects y.cls y y ∈ GW) (h4 : Cond.initialized y.cls ∈ GW) (h5 : cw ∈ GW) : GoodIn GW (wsV own idx y.cls y (cw :: GW)) := by
  refine goodIn_sub (fun w hw => ?_) ?_
  · unfold wsV at hw
    rcases List.mem_append.mp hw with h | h
    · simp only [List.mem_cons, List.not_mem_nil, or_false] at h
      rcases h with rfl | rfl | rfl | rfl
      · exact h1
      · exact h2
      · exact h3
      · exact h4
    · rcases List.mem_cons.mp h with rfl | h
      · exact h5
      · exact h
  · have ga : ∀ w ∈ GW, goodWord w = true := List.all_eq_true.mp gg_all
    rw [List.all_eq_true]
    intro w hw
    unfold wsV at hw
    rcases List.mem_append.mp hw with h | h
    · simp only [List.mem_cons, List.not_mem_nil, or_false] at h
      rcases h with rfl | rfl | rfl | rfl
      · exact ga _ h1
      · exact ga _ h2
      · exact ga _ h3
      · exact ga _ h4
    · rcases List.mem_cons.mp h with rfl | h
      · exact ga _ h5
      · exact ga _ h
theorem r_gS {own : String} {idx : Nat} {y : MethodName} {cw : Cond} (h1 : Cond.methodLink own idx y ∈ GW) (h2 : Cond.static y ∈ GW) (h4 : Cond.initialized y.cls ∈ GW) (h5 : cw ∈ GW) : GoodIn GW (va_wsS own idx y (cw :: GW)) := by
  have ga : ∀ w ∈ GW, goodWord w = true := List.all_eq_true.mp gg_all
  have key : ∀ w ∈ va_wsS own idx y (cw :: GW), w ∈ GW := by
    intro w hw
    unfold va_wsS at hw
    rcases List.mem_append.mp hw with h | h
    · simp only [List.mem_cons, List.not_mem_nil, or_false] at h
      rcases h with rfl | rfl | rfl
      · exact h1
      · exact h2
      · exact h4
    · rcases List.mem_cons.mp h with rfl | h
      · exact h5
      · exact h
  exact goodIn_sub key (List.all_eq_true.mpr fun w hw => ga w (key w hw))
theorem r_gI {cw : Cond} (h5 : cw ∈ GW) : GoodIn GW (cw :: GW) := by
  have ga : ∀ w ∈ GW, goodWord w = true := List.all_eq_true.mp gg_all
  have key : ∀ w ∈ cw :: GW, w ∈ GW := by
    intro w hw
    rcases List.mem_cons.mp hw with rfl | h
    · exact h5
    · exact h
  exact goodIn_sub key (List.all_eq_true.mpr fun w hw => ga w (key w hw))
section RKC
variable {y : MethodName} {bytes : ByteArray} {maxL idx : Nat} {ret : Option FieldType} {rm : Room} {Z' : rZ} {As : List Value} {wc wr : va_W} {Po : rP} {b : Nat} {st' : List Value}
theorem x_callV (C : rC X l cc nL own R D tys Z I) (hM : rM l y bytes maxL ret rm D tys Z' (.ref b :: As) wc Po) (hZ' : rOk Z') (hZZ : ∀ A s H, Z A s H → Z' A s H) (g : GoodIn GW (wsV own idx y.cls y (.code y bytes maxL ret :: GW)))
    (hy : y.cls = y.cls ∧ y.cls ≠ "java/lang/invoke/MethodHandle" ∧ y.cls ≠ "java/lang/invoke/VarHandle" ∧ (parseMethodDescriptor y.desc).map (fun d => d.parameters.length) = some As.length) (hR : rm.frames + 1 ≤ R.frames ∧ 8 + (maxL + 11) + rm.locals ≤ R.locals) (hcs : k + rm.cells ≤ R.cells ∧ n + rm.slots ≤ R.slots)
    (hd : decode cc pc = .ok (.invokevirtual idx, 3)) (q0 : Nat) {ci : Nat} {fs : List Value} (he : ws[q0]? = some (b, .inr (ci, fs))) {T : u_T} {N : Nat} (hc : vwCl[ci]? = some (y.cls, T, N)) (isC isR : List Nat) (hC : isC.map (fun i => ws[i]?) = wc.map some) (hRr : isR.map (fun i => ws[i]?) = wr.map some) (hnC : va_nd isC = true) (hnR : va_nd isR = true) (hdis : ∀ i ∈ isR, i ∉ isC)
    (hst : st' = As.reverse ++ .ref b :: st) (hcat : (st.map fun v => v.category).sum ≤ 8) (kk : rB X k n lv pc st rm Po wr) : X k n ws lv pc st' := by
  obtain ⟨p, e, s, m, args, below, meth, c, A, Q, rfl, hx, hb, hml, hown, hts, hK, hA, hZ, hN, hI⟩ := C
  intro H locs ls hP hD hS h
  subst hst
  exact r_back hP hD hS h hA isC isR hC hRr hnR hdis (va_runV (As := As) (rest := st) ⟨hx, hb, hml, hown, hts⟩ (hM H.size) (cwV As.length hts g rfl rfl rfl hy hR) ⟨r_blind hZ', va_recv hK hP hc he, r_pre hZ' (hZZ A s s.heap) hZ hN hK hA hP hD hS isC hC hnC⟩ rfl rfl h.1 rfl (lv_room hcat) hd hcs) kk
theorem x_callS (C : rC X l cc nL own R D tys Z I) (hM : rM l y bytes maxL ret rm D tys Z' As wc Po) (hZ' : rOk Z') (hZZ : ∀ A s H, Z A s H → Z' A s H) (g : GoodIn GW (va_wsS own idx y (.code y bytes maxL ret :: GW)))
    (hy : y.cls ≠ "java/lang/invoke/MethodHandle" ∧ y.cls ≠ "java/lang/invoke/VarHandle" ∧ (parseMethodDescriptor y.desc).map (fun d => d.parameters.length) = some As.length) (hR : rm.frames + 1 ≤ R.frames ∧ 8 + (maxL + 11) + rm.locals ≤ R.locals) (hcs : k + rm.cells ≤ R.cells ∧ n + rm.slots ≤ R.slots)
    (hd : decode cc pc = .ok (.invokestatic idx, 3)) (isC isR : List Nat) (hC : isC.map (fun i => ws[i]?) = wc.map some) (hRr : isR.map (fun i => ws[i]?) = wr.map some) (hnC : va_nd isC = true) (hnR : va_nd isR = true) (hdis : ∀ i ∈ isR, i ∉ isC)
    (hst : st' = As.reverse ++ st) (hcat : (st.map fun v => v.category).sum ≤ 8) (kk : rB X k n lv pc st rm Po wr) : X k n ws lv pc st' := by
  obtain ⟨p, e, s, m, args, below, meth, c, A, Q, rfl, hx, hb, hml, hown, hts, hK, hA, hZ, hN, hI⟩ := C
  intro H locs ls hP hD hS h
  subst hst
  exact r_back hP hD hS h hA isC isR hC hRr hnR hdis (va_runS (As := As) (rest := st) ⟨hx, hb, hml, hown, hts⟩ (hM H.size) (va_cwS As.length hts g rfl rfl rfl hy hR) ⟨r_blind hZ', r_pre hZ' (hZZ A s s.heap) hZ hN hK hA hP hD hS isC hC hnC⟩ rfl rfl h.1 rfl (lv_room hcat) hd hcs) kk
theorem x_callI (C : rC X l cc nL own R D tys Z I) (hM : rM l y bytes maxL none rm D tys Z' (.ref b :: As) wc Po) (hZ' : rOk Z') (hZZ : ∀ A s H, Z A s H → Z' A s H) {host : String} (hl : (own, idx, y, host) ∈ NWM) (h5 : Cond.code y bytes maxL none ∈ GW) (h6 : Cond.initialized y.cls ∈ GW) (h7 : Cond.instanceMethod y ∈ GW) (h8 : y.name = "<init>")
    (hy : y.cls ≠ "java/lang/invoke/MethodHandle" ∧ y.cls ≠ "java/lang/invoke/VarHandle" ∧ (parseMethodDescriptor y.desc).map (fun d => d.parameters.length) = some As.length) (hR : rm.frames + 1 ≤ R.frames ∧ 8 + (maxL + 11) + rm.locals ≤ R.locals) (hcs : k + rm.cells ≤ R.cells ∧ n + rm.slots ≤ R.slots)
    (hd : decode cc pc = .ok (.invokespecial idx, 3)) (isC isR : List Nat) (hC : isC.map (fun i => ws[i]?) = wc.map some) (hRr : isR.map (fun i => ws[i]?) = wr.map some) (hnC : va_nd isC = true) (hnR : va_nd isR = true) (hdis : ∀ i ∈ isR, i ∉ isC)
    (hst : st' = As.reverse ++ .ref b :: st) (hcat : (st.map fun v => v.category).sum ≤ 8) (kk : rB X k n lv pc st rm Po wr) : X k n ws lv pc st' := by
  obtain ⟨p, e, s, m, args, below, meth, c, A, Q, rfl, hx, hb, hml, hown, hts, hK, hA, hZ, hN, hI⟩ := C
  intro H locs ls hP hD hS h
  subst hst
  exact r_back hP hD hS h hA isC isR hC hRr hnR hdis (va_runIN (As := As) (rest := st) ⟨hx, hb, hml, hown, hts⟩ (hM H.size) ⟨va_cnB As.length hts (r_gI h5) rfl rfl rfl (hN.2 _ hl) (hts _ h6) hy hR, h8, hts _ h7⟩ ⟨r_blind hZ', r_pre hZ' (hZZ A s s.heap) hZ hN hK hA hP hD hS isC hC hnC⟩ rfl rfl h.1 rfl (lv_room hcat) hd hcs) kk
theorem x_mmax (C : rC X l cc nL own R D tys Z I) {x y : Int32} (h1 : Cond.methodLink own idx Lib.Math.max.name ∈ GW) (h2 : Cond.static Lib.Math.max.name ∈ GW) (h3 : Cond.initialized "java/lang/Math" ∈ GW) (h4 : Cond.code Lib.Math.max.name Lib.Math.max.code 2 (some .int) ∈ GW) (hf : 1 ≤ R.frames) (hlo : (st.map fun v => v.category).sum + 13 ≤ R.locals) (hc : k ≤ R.cells) (hs : n ≤ R.slots) (hd : decode cc pc = .ok (.invokestatic idx, 3)) (kk : X k n ws lv (pc + 3) (.int (if x < y then y else x) :: st)) : X k n ws lv pc (.int y :: .int x :: st) := by
  obtain ⟨p, e, s, m, args, below, meth, c, A, Q, rfl, hx, hb, hml, hown, hts, hK, hA, hZ, hN, hI⟩ := C
  exact fun H locs ls hP hD hS h => va_mmax hx hb (hml.trans h.1.symm) hown (hts _ h1) (hts _ h2) (hts _ h3) (hts _ h4) hf hlo hc hs hd (kk H locs ls hP hD hS h)
theorem x_mmin (C : rC X l cc nL own R D tys Z I) {x y : Int32} (h1 : Cond.methodLink own idx Lib.Math.min.name ∈ GW) (h2 : Cond.static Lib.Math.min.name ∈ GW) (h3 : Cond.initialized "java/lang/Math" ∈ GW) (h4 : Cond.code Lib.Math.min.name Lib.Math.min.code 2 (some .int) ∈ GW) (hf : 1 ≤ R.frames) (hlo : (st.map fun v => v.category).sum + 13 ≤ R.locals) (hc : k ≤ R.cells) (hs : n ≤ R.slots) (hd : decode cc pc = .ok (.invokestatic idx, 3)) (kk : X k n ws lv (pc + 3) (.int (if y < x then y else x) :: st)) : X k n ws lv pc (.int y :: .int x :: st) := by
  obtain ⟨p, e, s, m, args, below, meth, c, A, Q, rfl, hx, hb, hml, hown, hts, hK, hA, hZ, hN, hI⟩ := C
  exact fun H locs ls hP hD hS h => va_mmin hx hb (hml.trans h.1.symm) hown (hts _ h1) (hts _ h2) (hts _ h3) (hts _ h4) hf hlo hc hs hd (kk H locs ls hP hD hS h)
theorem x_mabs (C : rC X l cc nL own R D tys Z I) {x : Int32} (h1 : Cond.methodLink own idx Lib.Math.abs.name ∈ GW) (h2 : Cond.static Lib.Math.abs.name ∈ GW) (h3 : Cond.initialized "java/lang/Math" ∈ GW) (h4 : Cond.code Lib.Math.abs.name Lib.Math.abs.code 1 (some .int) ∈ GW) (hf : 1 ≤ R.frames) (hlo : (st.map fun v => v.category).sum + 13 ≤ R.locals) (hc : k ≤ R.cells) (hs : n ≤ R.slots) (hd : decode cc pc = .ok (.invokestatic idx, 3)) (kk : X k n ws lv (pc + 3) (.int (if 0 ≤ x then x else 0 - x) :: st)) : X k n ws lv pc (.int x :: st) := by
  obtain ⟨p, e, s, m, args, below, meth, c, A, Q, rfl, hx, hb, hml, hown, hts, hK, hA, hZ, hN, hI⟩ := C
  exact fun H locs ls hP hD hS h => va_mabs hx hb (hml.trans h.1.symm) hown (hts _ h1) (hts _ h2) (hts _ h3) (hts _ h4) hf hlo hc hs hd (kk H locs ls hP hD hS h)
theorem x_copyi (C : rC X l cc nL own R D tys Z I) (t : Nat) {cA : ClassId} (ht : tys[t]? = some (cA, .int)) (h1 : Cond.methodLink own idx arraycopyName ∈ GW) (h2 : Cond.native arraycopyName ∈ GW) (h3 : Cond.static arraycopyName ∈ GW) (h4 : Cond.initialized "java/lang/System" ∈ GW) (hf : 1 ≤ R.frames) (hlo : (st.map fun v => v.category).sum + (nativeFrameWords "java/lang/System" "arraycopy" 5 + 11) ≤ R.locals) (hd : decode cc pc = .ok (.invokestatic idx, 3))
    (q0 q1 : Nat) {a0 a n0 n1 : Nat} {f g : Nat → Int32} (e0 : ws[q0]? = some (a0, .inl (cA, n0, .inl f))) (e1 : ws[q1]? = some (a, .inl (cA, n1, .inl g))) {sp dp z : Int32} {sp' dp' z' : Nat} (i1 : sp = nI sp') (i2 : dp = nI dp') (i3 : z = nI z') (i4 : sp' + z' ≤ n0) (i5 : dp' + z' ≤ n1) (i6 : n0 < 2 ^ 31) (i7 : n1 < 2 ^ 31)
    (kk : X k n (ws.set q1 (a, .inl (cA, n1, .inl (va_cpy f g sp' dp' z')))) lv (pc + 3) st) : X k n ws lv pc (.int z :: .int dp :: .ref a :: .int sp :: .ref a0 :: st) := by
  obtain ⟨p, e, s, m, args, below, meth, c, A, Q, rfl, hx, hb, hml, hown, hts, hK, hA, hZ, hN, hI⟩ := C
  subst i1; subst i2; subst i3
  have w1 : (nI sp').toNatClampNeg = sp' := nI_clamp (by omega)
  have w2 : (nI dp').toNatClampNeg = dp' := nI_clamp (by omega)
  have w3 : (nI z').toNatClampNeg = z' := nI_clamp (by omega)
  exact fun H locs ls hP hD hS h => va_copyi hx hb (hml.trans h.1.symm) hown (hts _ h1) (hts _ h2) (hts _ h3) (hts _ h4) hK hP hD hS q0 q1 t t e0 e1 ht ht rfl (nI_pos (by omega)) (nI_pos (by omega)) (nI_pos (by omega)) (by rw [w1, w3]; exact i4) (by rw [w2, w3]; exact i5) (fun i hi => rfl) hf hlo hd (fun H1 l1 hP1 hD1 hS1 => by rw [w1, w2, w3] at hP1 hD1; exact kk H1 l1 ls hP1 hD1 hS1 h)
end RKC
end RK
/-! a method's contract out of its walk -/
theorem rM_ofI {l : Launch} {y : MethodName} {cc : ByteArray} {nL : Nat} {rm : Room} {D : va_G} {tys : List (ClassId × FieldType)} {Z : rZ} {av : List Value} {ws : va_W} {Po : rP} {lv : rL} {ty : FieldType} (hy : plainName y.cls = true) (hl : (lg_sl av).length ≤ nL) (hlv : lv_args 0 av = lv)
    (body : ∀ X : rT, rC X l cc nL y.cls rm D tys Z false → (∀ {ws' : va_W} {lv' : rL} {pc : Nat} {v : Int32}, decode cc pc = .ok (.ireturn, 1) → narrow ty (.int v) = .int v → Po (some (.int v)) ws' → X rm.cells rm.slots ws' lv' pc [.int v]) → X 0 0 ws lv 0 []) : rM l y cc nL (some ty) rm D tys Z av ws Po := by
  intro sz
  refine Met.ofW (cc := cc) (maxL := nL) (ret := some ty) hy rfl ?_
  intro p e s m args below meth c s₁ B hml hv
  obtain ⟨rfl, hsz, hP, hK, hD0, hZ, hN⟩ := hv
  have hts := atoms_spec B.pre
  subst hsz
  have hlk := B.notSynchronized
  have hret := B.returns
  have h := lv_entry av hl
  rw [hlv] at h
  rw [lg_entry_eq]
  refine body (rW p l e rm s m av.toArray below meth c D (va_A ws s.heap.size) nL (MQ below (rQ D (va_A ws s.heap.size) Po) av.toArray s rm.cells rm.slots (va_A ws s.heap.size))) ⟨p, e, s, m, av.toArray, below, meth, c, va_A ws s.heap.size, _, rfl, B.exec, B.bytes, hml, findClass_of_methodNamed B.named, fun w hw => hts w (List.mem_cons_of_mem _ hw), hK, fun q hq => Or.inr hq, hZ, hN, fun h9 => by cases h9⟩ ?_ s.heap [] _ hP hD0.self va_S.rf h
  intro ws' lv' pc v hd hn hPo H locs ls hP' hD' hS' h'
  exact W.zret B.exec B.bytes hret hn (fun t ht hW => ⟨_, ws', rfl, hPo, by rw [ht]; exact hP', hD', hS'.F ht⟩) hS'.2.2 hd hlk
theorem rM_ofL {l : Launch} {y : MethodName} {cc : ByteArray} {nL : Nat} {rm : Room} {D : va_G} {tys : List (ClassId × FieldType)} {Z : rZ} {av : List Value} {ws : va_W} {Po : rP} {lv : rL} (hy : plainName y.cls = true) (hl : (lg_sl av).length ≤ nL) (hlv : lv_args 0 av = lv)
    (body : ∀ X : rT, rC X l cc nL y.cls rm D tys Z false → (∀ {ws' : va_W} {lv' : rL} {pc : Nat} {v : Int64}, decode cc pc = .ok (.lreturn, 1) → Po (some (.long v)) ws' → X rm.cells rm.slots ws' lv' pc [.long v]) → X 0 0 ws lv 0 []) : rM l y cc nL (some .long) rm D tys Z av ws Po := by
  intro sz
  refine Met.ofW (cc := cc) (maxL := nL) (ret := some .long) hy rfl ?_
  intro p e s m args below meth c s₁ B hml hv
  obtain ⟨rfl, hsz, hP, hK, hD0, hZ, hN⟩ := hv
  have hts := atoms_spec B.pre
  subst hsz
  have hlk := B.notSynchronized
  have hret := B.returns
  have h := lv_entry av hl
  rw [hlv] at h
  rw [lg_entry_eq]
  refine body (rW p l e rm s m av.toArray below meth c D (va_A ws s.heap.size) nL (MQ below (rQ D (va_A ws s.heap.size) Po) av.toArray s rm.cells rm.slots (va_A ws s.heap.size))) ⟨p, e, s, m, av.toArray, below, meth, c, va_A ws s.heap.size, _, rfl, B.exec, B.bytes, hml, findClass_of_methodNamed B.named, fun w hw => hts w (List.mem_cons_of_mem _ hw), hK, fun q hq => Or.inr hq, hZ, hN, fun h9 => by cases h9⟩ ?_ s.heap [] _ hP hD0.self va_S.rf h
  intro ws' lv' pc v hd hPo H locs ls hP' hD' hS' h'
  exact W.lret B.exec B.bytes hret (fun t ht hW => ⟨_, ws', rfl, hPo, by rw [ht]; exact hP', hD', hS'.F ht⟩) hS'.2.2 hd hlk
theorem rM_ofV {l : Launch} {y : MethodName} {cc : ByteArray} {nL : Nat} {rm : Room} {D : va_G} {tys : List (ClassId × FieldType)} {Z : rZ} {av : List Value} {ws : va_W} {Po : rP} {lv : rL} (I : Bool) (hI : I = true → y.name = "<init>") (hy : plainName y.cls = true) (hl : (lg_sl av).length ≤ nL) (hlv : lv_args 0 av = lv)
    (body : ∀ X : rT, rC X l cc nL y.cls rm D tys Z I → (∀ {ws' : va_W} {lv' : rL} {pc : Nat}, decode cc pc = .ok (.return_, 1) → Po none ws' → X rm.cells rm.slots ws' lv' pc []) → X 0 0 ws lv 0 []) : rM l y cc nL none rm D tys Z av ws Po := by
  intro sz
  refine Met.ofW (cc := cc) (maxL := nL) (ret := none) hy rfl ?_
  intro p e s m args below meth c s₁ B hml hv
  obtain ⟨rfl, hsz, hP, hK, hD0, hZ, hN⟩ := hv
  have hts := atoms_spec B.pre
  subst hsz
  have hlk := B.notSynchronized
  have hret := B.returns
  have h := lv_entry av hl
  rw [hlv] at h
  rw [lg_entry_eq]
  refine body (rW p l e rm s m av.toArray below meth c D (va_A ws s.heap.size) nL (MQ below (rQ D (va_A ws s.heap.size) Po) av.toArray s rm.cells rm.slots (va_A ws s.heap.size))) ⟨p, e, s, m, av.toArray, below, meth, c, va_A ws s.heap.size, _, rfl, B.exec, B.bytes, hml, findClass_of_methodNamed B.named, fun w hw => hts w (List.mem_cons_of_mem _ hw), hK, fun q hq => Or.inr hq, hZ, hN, fun h9 => (name_of_methodNamed B.named B.method).1.trans (hI h9)⟩ ?_ s.heap [] _ hP hD0.self va_S.rf h
  intro ws' lv' pc hd hPo H locs ls hP' hD' hS' h'
  exact W.vret B.exec B.bytes hret (fun t ht hW => ⟨_, ws', rfl, hPo, by rw [ht]; exact hP', hD', hS'.F ht⟩) hS'.2.2 hd hlk
