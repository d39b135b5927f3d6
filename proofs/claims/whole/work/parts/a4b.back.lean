/-! ===== runs of places ===== -/
def r_ix (rs : List (Nat × Nat)) : List Nat := rs.flatMap (fun r => List.range' r.1 r.2)
def r_sl (rs : List (Nat × Nat)) (ws : va_W) : va_W := rs.flatMap (fun r => (ws.drop r.1).take r.2)
theorem r_slice (ws : va_W) : ∀ (len a : Nat), (List.range' a len).filterMap (fun i => ws[i]?) = (ws.drop a).take len
  | 0, a => by simp
  | len + 1, a => by
    have ih := r_slice ws len (a + 1)
    by_cases h : a < ws.length
    · have e : ws[a]? = some ws[a] := List.getElem?_eq_getElem h
      simp only [List.range'_succ, List.filterMap_cons, e, ih, List.drop_eq_getElem_cons h, List.take_succ_cons]
    · have e : ws[a]? = none := List.getElem?_eq_none (by omega)
      have d1 : ws.drop a = [] := List.drop_eq_nil_of_le (by omega)
      have d2 : ws.drop (a + 1) = [] := List.drop_eq_nil_of_le (by omega)
      simp only [List.range'_succ, List.filterMap_cons, e, ih, d1, d2, List.take_nil]
theorem r_ixsl (ws : va_W) : ∀ (rs : List (Nat × Nat)), (r_ix rs).filterMap (fun i => ws[i]?) = r_sl rs ws
  | [] => rfl
  | r :: rs => by
    have ih := r_ixsl ws rs
    unfold r_ix r_sl at ih ⊢
    rw [List.flatMap_cons, List.flatMap_cons, List.filterMap_append, r_slice, ih]
theorem r_fm2 {ws : va_W} {is : List Nat} {ws' : va_W} (h : is.map (fun i => ws[i]?) = ws'.map some) : is.filterMap (fun i => ws[i]?) = ws' := r_fm is ws' h
section RBK
variable {X : rT} {l : Launch} {cc : ByteArray} {nL : Nat} {own : String} {R : Room} {D : va_G} {tys : List (ClassId × FieldType)} {Z : rZ} {I : Bool}
variable {k n : Nat} {ws : va_W} {lv : rL} {pc : Nat} {st : List Value}
theorem x_back (C : rC X l cc nL own R D tys Z I) {T ws1 wsN : va_W} (isC : List Nat) (rs : List (Nat × Nat)) (N : Nat) (hl : wsN.length = N) (hp : (isC ++ r_ix rs).Perm (List.range N)) (h1 : isC.map (fun i => wsN[i]?) = ws1.map some) (h2 : r_sl rs ws = r_sl rs wsN) (kk : X k n (wsN ++ T) lv pc st) : X k n ((ws1 ++ (r_ix rs).filterMap (fun i => ws[i]?)) ++ T) lv pc st := by
  have e1 : ws1 ++ (r_ix rs).filterMap (fun i => ws[i]?) = (isC ++ r_ix rs).filterMap (fun i => wsN[i]?) := by
    rw [List.filterMap_append, r_fm2 h1, r_ixsl, r_ixsl, h2]
  have e2 : (List.range N).filterMap (fun i => wsN[i]?) = wsN := by
    rw [← hl, List.range_eq_range', r_slice, List.drop_zero, List.take_length]
  have hq : wsN.Perm (ws1 ++ (r_ix rs).filterMap (fun i => ws[i]?)) := by
    rw [e1]
    have h9 := (hp.filterMap (fun i => wsN[i]?)).symm
    rw [e2] at h9
    exact h9
  exact x_perm C (hq.append_right T) kk
theorem x_callB {y : MethodName} {bytes : ByteArray} {maxL idx : Nat} {ret : Option FieldType} {rm : Room} {Z' : rZ} {As : List Value} {T wc : va_W} {Po : rP} {b : Nat} {st' : List Value} (C : rC X l cc nL own R D tys Z I) (hM : rM l y bytes maxL ret rm D tys Z' (.ref b :: As) wc Po) (isC : List Nat) (rs : List (Nat × Nat)) (N9 : Nat) (hl : ws.length = N9) (hp : (isC ++ r_ix rs).Perm (List.range N9)) (hC : isC.map (fun i => ws[i]?) = wc.map some) (hZ' : rOk Z') (hZZ : ∀ A s H, Z A s H → Z' A s H) (g : GoodIn GW (wsV own idx y.cls y (.code y bytes maxL ret :: GW)))
    (hy : y.cls = y.cls ∧ y.cls ≠ "java/lang/invoke/MethodHandle" ∧ y.cls ≠ "java/lang/invoke/VarHandle" ∧ (parseMethodDescriptor y.desc).map (fun d => d.parameters.length) = some As.length) (hR : rm.frames + 1 ≤ R.frames ∧ 8 + (maxL + 11) + rm.locals ≤ R.locals) (hcs : k + rm.cells ≤ R.cells ∧ n + rm.slots ≤ R.slots)
    (hd : decode cc pc = .ok (.invokevirtual idx, 3)) {ci : Nat} {fs : List Value} (he : wc.head? = some (b, .inr (ci, fs))) {T9 : u_T} {N : Nat} (hc : vwCl[ci]? = some (y.cls, T9, N))
    (hst : st' = As.reverse ++ .ref b :: st) (hcat : (st.map fun v => v.category).sum ≤ 8) (kk : ∀ (v : Option Value) (ws1 : va_W), Po v ws1 → X (k + rm.cells) (n + rm.slots) ((ws1 ++ (r_ix rs).filterMap (fun i => ws[i]?)) ++ T) lv (pc + 3) (v.toList ++ st)) : X k n (ws ++ T) lv pc st' := by
  refine x_callT C hM isC (r_ix rs) hC ?_ (r_nd (hp.nodup_iff.mpr List.nodup_range)) hZ' hZZ g hy hR hcs hd he hc hst hcat kk
  rw [List.all_eq_true]
  intro i hi
  have h9 := List.mem_range.mp (hp.mem_iff.mp (List.mem_append_right isC hi))
  rw [hl]
  exact Nat.ble_eq_true_of_le h9
end RBK
