/-! ===== worlds put in another order; a world's rest that nobody looks at ===== -/
theorem r_Pmem {D : va_G} {cl : List vw_C} {ws : va_W} {H : Heap} : va_P D cl ws H ↔ ∀ q ∈ ws, va_at D cl q H := by
  constructor
  · intro h q hq
    obtain ⟨k, hk⟩ := List.mem_iff_getElem?.mp hq
    exact h k q hk
  · intro h k q hk
    exact h q (List.mem_of_getElem? hk)
theorem r_Dmem {A : Nat → Prop} {ws : va_W} : va_D A ws ↔ (ws.map Prod.fst).Nodup ∧ ∀ q ∈ ws, A q.1 := by
  constructor
  · intro h
    refine ⟨List.pairwise_iff_getElem.mpr fun i j hi hj hij he => ?_, fun q hq => ?_⟩
    · rw [List.length_map] at hi hj
      rw [List.getElem_map, List.getElem_map] at he
      have := h.1 i j _ _ (List.getElem?_eq_getElem hi) (List.getElem?_eq_getElem hj) he
      omega
    · obtain ⟨k, hk⟩ := List.mem_iff_getElem?.mp hq
      exact h.2 k q hk
  · intro h
    refine ⟨fun i j p q hi hj he => ?_, fun k q hk => h.2 q (List.mem_of_getElem? hk)⟩
    have hp := List.pairwise_iff_getElem.mp h.1
    obtain ⟨hi1, hi2⟩ := List.getElem?_eq_some_iff.mp hi
    obtain ⟨hj1, hj2⟩ := List.getElem?_eq_some_iff.mp hj
    have li : i < (ws.map Prod.fst).length := by rw [List.length_map]; exact hi1
    have lj : j < (ws.map Prod.fst).length := by rw [List.length_map]; exact hj1
    rcases Nat.lt_trichotomy i j with hlt | heq | hlt
    · exact absurd (by rw [List.getElem_map, List.getElem_map, hi2, hj2]; exact he) (hp i j li lj hlt)
    · exact heq
    · exact absurd (by rw [List.getElem_map, List.getElem_map, hi2, hj2]; exact he.symm) (hp j i lj li hlt)
theorem r_nd : ∀ {l : List Nat}, l.Nodup → va_nd l = true
  | [], _ => rfl
  | a :: l, h => by
    rw [List.nodup_cons] at h
    simp only [va_nd, Bool.and_eq_true, decide_eq_true_eq]
    exact ⟨h.1, r_nd h.2⟩
theorem r_rg1 (l b : va_W) : (List.range l.length).map (fun i => (l ++ b)[i]?) = l.map some := by
  refine List.ext_getElem (by simp) fun i h1 h2 => ?_
  have h3 : i < l.length := by simpa using h2
  simp [List.getElem?_append_left h3, h3]
theorem r_rg2 (a l : va_W) : ((List.range l.length).map (fun i => a.length + i)).map (fun i => (a ++ l)[i]?) = l.map some := by
  refine List.ext_getElem (by simp) fun i h1 h2 => ?_
  have h3 : i < l.length := by simpa using h2
  simp [List.getElem?_append_right, h3]
theorem r_rgn (n a : Nat) : va_nd ((List.range n).map (fun i => a + i)) = true := by
  refine r_nd ?_
  refine List.pairwise_map.mpr ?_
  exact (List.nodup_range (n := n)).imp (fun h e => h (by omega))
theorem r_memof {ws ws' : va_W} {is : List Nat} (hs : is.map (fun i => ws[i]?) = ws'.map some) {q : Nat × va_E} (hq : q ∈ ws') : q ∈ ws := by
  have h : some q ∈ is.map (fun i => ws[i]?) := by rw [hs]; exact List.mem_map.mpr ⟨q, hq, rfl⟩
  obtain ⟨i, -, hi⟩ := List.mem_map.mp h
  exact List.mem_of_getElem? hi
section RF
variable {X : rT} {l : Launch} {cc : ByteArray} {nL : Nat} {own : String} {R : Room} {D : va_G} {tys : List (ClassId × FieldType)} {Z : rZ} {I : Bool}
variable {k n : Nat} {ws : va_W} {lv : rL} {pc : Nat} {st : List Value}
theorem x_perm (C : rC X l cc nL own R D tys Z I) {ws' : va_W} (h : ws'.Perm ws) (kk : X k n ws' lv pc st) : X k n ws lv pc st := by
  obtain ⟨p, e, s, m, args, below, meth, c, A, Q, rfl, hx, hb, hml, hown, hts, hK, hA, hZ, hN, hI⟩ := C
  exact fun H locs ls hP hD hS hl => kk H locs ls (r_Pmem.mpr fun q hq => r_Pmem.mp hP q (h.mem_iff.mp hq)) (r_Dmem.mpr ⟨(h.map Prod.fst).nodup_iff.mpr (r_Dmem.mp hD).1, fun q hq => (r_Dmem.mp hD).2 q (h.mem_iff.mp hq)⟩) hS hl
theorem x_swap (C : rC X l cc nL own R D tys Z I) {wa wb : va_W} (kk : X k n (wb ++ wa) lv pc st) : X k n (wa ++ wb) lv pc st := x_perm C List.perm_append_comm kk
theorem x_subT (C : rC X l cc nL own R D tys Z I) {T ws' : va_W} (is : List Nat) (hn : va_nd is = true) (hs : is.map (fun i => ws[i]?) = ws'.map some) (kk : X k n (ws' ++ T) lv pc st) : X k n (ws ++ T) lv pc st := by
  obtain ⟨p, e, s, m, args, below, meth, c, A, Q, rfl, hx, hb, hml, hown, hts, hK, hA, hZ, hN, hI⟩ := C
  have hm : ∀ q, q ∈ ws' ++ T → q ∈ ws ++ T := fun q hq => by
    rcases List.mem_append.mp hq with h | h
    · exact List.mem_append_left _ (r_memof hs h)
    · exact List.mem_append_right _ h
  refine fun H locs ls hP hD hS hl => kk H locs ls (r_Pmem.mpr fun q hq => r_Pmem.mp hP q (hm q hq)) (r_Dmem.mpr ⟨?_, fun q hq => (r_Dmem.mp hD).2 q (hm q hq)⟩) hS hl
  have hd := r_Dmem.mp hD
  have h0 := hd.1
  rw [List.map_append] at h0 ⊢
  obtain ⟨h1, h2, h3⟩ := List.nodup_append.mp h0
  have hw : va_D A ws := r_Dmem.mpr ⟨h1, fun q hq => hd.2 q (List.mem_append_left _ hq)⟩
  refine List.nodup_append.mpr ⟨(r_Dmem.mp (hw.sub is hn hs)).1, h2, fun a ha b hb => h3 a ?_ b hb⟩
  obtain ⟨q, hq, rfl⟩ := List.mem_map.mp ha
  exact List.mem_map.mpr ⟨q, r_memof hs hq, rfl⟩
/-- a method called, its cells first in the world -/
theorem x_callP {y : MethodName} {bytes : ByteArray} {maxL idx : Nat} {ret : Option FieldType} {rm : Room} {Z' : rZ} {As : List Value} {wc wr : va_W} {Po : rP} {b : Nat} {st' : List Value} (C : rC X l cc nL own R D tys Z I) (hM : rM l y bytes maxL ret rm D tys Z' (.ref b :: As) wc Po) (hZ' : rOk Z') (hZZ : ∀ A s H, Z A s H → Z' A s H) (g : GoodIn GW (wsV own idx y.cls y (.code y bytes maxL ret :: GW)))
    (hy : y.cls = y.cls ∧ y.cls ≠ "java/lang/invoke/MethodHandle" ∧ y.cls ≠ "java/lang/invoke/VarHandle" ∧ (parseMethodDescriptor y.desc).map (fun d => d.parameters.length) = some As.length) (hR : rm.frames + 1 ≤ R.frames ∧ 8 + (maxL + 11) + rm.locals ≤ R.locals) (hcs : k + rm.cells ≤ R.cells ∧ n + rm.slots ≤ R.slots)
    (hd : decode cc pc = .ok (.invokevirtual idx, 3)) {ci : Nat} {fs : List Value} (he : (wc ++ wr)[0]? = some (b, .inr (ci, fs))) {T : u_T} {N : Nat} (hc : vwCl[ci]? = some (y.cls, T, N))
    (hst : st' = As.reverse ++ .ref b :: st) (hcat : (st.map fun v => v.category).sum ≤ 8) (kk : ∀ (v : Option Value) (ws1 : va_W), Po v ws1 → X (k + rm.cells) (n + rm.slots) (ws1 ++ wr) lv (pc + 3) (v.toList ++ st)) : X k n (wc ++ wr) lv pc st' := by
  refine x_callV C hM hZ' hZZ g hy hR hcs hd 0 he hc (List.range wc.length) ((List.range wr.length).map (fun i => wc.length + i)) (r_rg1 wc wr) (r_rg2 wc wr) (r_nd List.nodup_range) (r_rgn _ _) (fun i hi hi2 => ?_) hst hcat ?_
  · obtain ⟨j, -, rfl⟩ := List.mem_map.mp hi
    have := List.mem_range.mp hi2
    omega
  · intro v ws1 hPo
    exact x_swap C (kk v ws1 hPo)
/-- the same with a rest of the world behind; the cells that are looked at by their places -/
theorem r_fmap {ws : va_W} : ∀ {is : List Nat}, is.all (fun i => Nat.blt i ws.length) = true → is.map (fun i => ws[i]?) = (is.filterMap (fun i => ws[i]?)).map some
  | [], _ => rfl
  | i :: is, h => by
    rw [List.all_cons, Bool.and_eq_true] at h
    have h1 : i < ws.length := Nat.le_of_ble_eq_true h.1
    rw [List.map_cons, r_fmap h.2, List.filterMap_cons, List.getElem?_eq_getElem h1]
    rfl
theorem x_callT {y : MethodName} {bytes : ByteArray} {maxL idx : Nat} {ret : Option FieldType} {rm : Room} {Z' : rZ} {As : List Value} {T wc : va_W} {Po : rP} {b : Nat} {st' : List Value} (C : rC X l cc nL own R D tys Z I) (hM : rM l y bytes maxL ret rm D tys Z' (.ref b :: As) wc Po) (isC isR : List Nat) (hC : isC.map (fun i => ws[i]?) = wc.map some) (hR9 : isR.all (fun i => Nat.blt i ws.length) = true) (hn : va_nd (isC ++ isR) = true) (hZ' : rOk Z') (hZZ : ∀ A s H, Z A s H → Z' A s H) (g : GoodIn GW (wsV own idx y.cls y (.code y bytes maxL ret :: GW)))
    (hy : y.cls = y.cls ∧ y.cls ≠ "java/lang/invoke/MethodHandle" ∧ y.cls ≠ "java/lang/invoke/VarHandle" ∧ (parseMethodDescriptor y.desc).map (fun d => d.parameters.length) = some As.length) (hR : rm.frames + 1 ≤ R.frames ∧ 8 + (maxL + 11) + rm.locals ≤ R.locals) (hcs : k + rm.cells ≤ R.cells ∧ n + rm.slots ≤ R.slots)
    (hd : decode cc pc = .ok (.invokevirtual idx, 3)) {ci : Nat} {fs : List Value} (he : wc.head? = some (b, .inr (ci, fs))) {T9 : u_T} {N : Nat} (hc : vwCl[ci]? = some (y.cls, T9, N))
    (hst : st' = As.reverse ++ .ref b :: st) (hcat : (st.map fun v => v.category).sum ≤ 8) (kk : ∀ (v : Option Value) (ws1 : va_W), Po v ws1 → X (k + rm.cells) (n + rm.slots) ((ws1 ++ isR.filterMap (fun i => ws[i]?)) ++ T) lv (pc + 3) (v.toList ++ st)) : X k n (ws ++ T) lv pc st' := by
  refine x_subT C (isC ++ isR) hn (ws' := wc ++ isR.filterMap (fun i => ws[i]?)) (by rw [List.map_append, List.map_append, hC, r_fmap hR9]) ?_
  rw [List.append_assoc]
  refine x_callP C hM hZ' hZZ g hy hR hcs hd (fs := fs) ?_ hc hst hcat (fun v ws1 hPo => ?_)
  · cases wc with
    | nil => cases he
    | cons a t =>
      rw [List.head?_cons] at he
      rw [List.cons_append, List.getElem?_cons_zero]
      exact he
  · have h9 := kk v ws1 hPo
    rw [List.append_assoc] at h9
    exact h9
/-! the law's own script -/
def zLw (adK adV : Nat → Nat) (fm : Option Nat) (b L : Nat) (xs : Nat → Int32) : rZ := fun A U H => rZs adK adV fm A U H ∧ va_X b L xs U H ∧ b < H.size ∧ ¬ A b
theorem x_sld {adK adV : Nat → Nat} {fm : Option Nat} {b L : Nat} {xs : Nat → Int32} (C : rC X l cc nL own R D tys (zLw adK adV fm b L xs) I) {j : Nat} (hj : j < L) (hL : L < 2 ^ 31) (hd : decode cc pc = .ok (.iaload, 1)) (kk : X k n ws lv (pc + 1) (.int (xs j) :: st)) : X k n ws lv pc (.int (nI j) :: .ref b :: st) := by
  obtain ⟨p, e, s, m, args, below, meth, c, A, Q, rfl, hx, hb, hml, hown, hts, hK, hA, hZ, hN, hI⟩ := C
  have e9 : (nI j).toNatClampNeg = j := nI_clamp (by omega)
  exact fun H locs ls hP hD hS h => va_sld hx hb hZ.2.1 hZ.2.2.1 hZ.2.2.2 hS (vp_in_nI hj hL) hd (by rw [e9]; exact kk H locs ls hP hD hS h)
theorem x_slen {adK adV : Nat → Nat} {fm : Option Nat} {b L : Nat} {xs : Nat → Int32} (C : rC X l cc nL own R D tys (zLw adK adV fm b L xs) I) (hd : decode cc pc = .ok (.arraylength, 1)) (kk : X k n ws lv (pc + 1) (.int (nI L) :: st)) : X k n ws lv pc (.ref b :: st) := by
  obtain ⟨p, e, s, m, args, below, meth, c, A, Q, rfl, hx, hb, hml, hown, hts, hK, hA, hZ, hN, hI⟩ := C
  exact fun H locs ls hP hD hS h => va_slen hx hb hZ.2.1 hZ.2.2.1 hZ.2.2.2 hS hd (kk H locs ls hP hD hS h)
/-- one number of the script -/
theorem x_arg {adK adV : Nat → Nat} {fm : Option Nat} {b L i x m9 : Nat} {xs : Nat → Int32} (C : rC X l cc nL own R D tys (zLw adK adV fm b L xs) I) (hL : L < 2 ^ 31) (j : Nat) (hj : i + j < L) (hj9 : j < 7) (d0 : decode cc pc = .ok (.aload_n 0, 1)) (d1 : decode cc (pc + 1) = .ok (.iload_n 3, 1)) (d2 : decode cc (pc + 2) = .ok (.iconst (j : Int), 1)) (d3 : decode cc (pc + 3) = .ok (.iadd, 1)) (d4 : decode cc (pc + 4) = .ok (.iaload, 1)) (kk : X k n ws [(0, .ref b), (1, .ref x), (2, .ref m9), (3, .int (nI i))] (pc + 5) (.int (xs (i + j)) :: st)) : X k n ws [(0, .ref b), (1, .ref x), (2, .ref m9), (3, .int (nI i))] pc st := by
  refine x_aload_n C d0 0 rfl ?_
  refine x_iload_n C d1 3 rfl ?_
  refine x_iconst C d2 (v := nI j) (by rcases (show j = 0 ∨ j = 1 ∨ j = 2 ∨ j = 3 ∨ j = 4 ∨ j = 5 ∨ j = 6 by omega) with rfl | rfl | rfl | rfl | rfl | rfl | rfl <;> rfl) ?_
  refine x_iadd C d3 ?_
  refine x_topi C (nI (i + j)) (nI_add i j) ?_
  exact x_sld C hj hL d4 kk
theorem x_arg6 {adK adV : Nat → Nat} {fm : Option Nat} {b L i x m9 : Nat} {xs : Nat → Int32} (C : rC X l cc nL own R D tys (zLw adK adV fm b L xs) I) (hL : L < 2 ^ 31) (hj : i + 6 < L) (d0 : decode cc pc = .ok (.aload_n 0, 1)) (d1 : decode cc (pc + 1) = .ok (.iload_n 3, 1)) (d2 : decode cc (pc + 2) = .ok (.bipush 6, 2)) (d3 : decode cc (pc + 4) = .ok (.iadd, 1)) (d4 : decode cc (pc + 5) = .ok (.iaload, 1)) (kk : X k n ws [(0, .ref b), (1, .ref x), (2, .ref m9), (3, .int (nI i))] (pc + 6) (.int (xs (i + 6)) :: st)) : X k n ws [(0, .ref b), (1, .ref x), (2, .ref m9), (3, .int (nI i))] pc st := by
  refine x_aload_n C d0 0 rfl ?_
  refine x_iload_n C d1 3 rfl ?_
  refine x_bipush C d2 (v := nI 6) rfl ?_
  refine x_iadd C d3 ?_
  refine x_topi C (nI (i + 6)) (nI_add i 6) ?_
  exact x_sld C hj hL d4 kk
end RF
