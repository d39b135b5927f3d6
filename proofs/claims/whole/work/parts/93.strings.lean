/-! ===== the texts that the class files hold ===== -/
def zL : List (List Int32) := [[102, 97, 108, 108, 115, 32, 115, 116, 114, 111, 110, 103, 32, 43, 32, 102, 114, 111, 115, 116, 32, 42, 32, 52, 48, 32, 43, 32, 50, 32, 45, 32, 115, 111, 114, 116, 32, 59, 32, 98, 108, 111, 119, 115, 32, 115, 116, 114, 111, 110, 103, 32, 42, 32, 49, 48, 32, 45, 32, 119, 101, 116, 32, 42, 32, 54, 48, 32, 59, 32, 114, 111, 116, 115, 32, 119, 101, 116, 32, 59], [102, 97, 108, 108, 115, 32, 98, 108, 111, 119, 115, 32, 114, 111, 116, 115, 32, 111, 114, 32, 97, 110, 100, 32, 110, 111, 116, 32, 108, 101, 102, 116, 32, 115, 116, 114, 111, 110, 103, 32, 102, 114, 111, 115, 116, 32, 119, 101, 116, 32, 115, 111, 114, 116, 32, 109, 97, 110, 121, 32], [102, 97, 108, 108, 115, 32, 115, 116, 114, 111, 110, 103, 32, 43, 32, 102, 114, 111, 115, 116, 32, 42, 32, 52, 48, 32, 43, 32, 50, 32, 45, 32, 115, 111, 114, 116, 32, 59, 32, 98, 108, 111, 119, 115, 32, 115, 116, 114, 111, 110, 103, 32, 42, 32, 49, 48, 32, 45, 32, 119, 101, 116, 32, 42, 32, 54, 48, 32, 59, 32, 114, 111, 116, 115, 32, 119, 101, 116, 32, 59], [108, 101, 102, 116], [115, 116, 114, 111, 110, 103], [102, 114, 111, 115, 116], [119, 101, 116], [115, 111, 114, 116], [109, 97, 110, 121], [111, 114], [97, 110, 100], [110, 111, 116], [102, 97, 108, 108, 115], [98, 108, 111, 119, 115], [114, 111, 116, 115]]
def zW : List (String × Nat × String) := [("LeavesBeforeWind", 64, "falls strong + frost * 40 + 2 - sort ; blows strong * 10 - wet * 60 ; rots wet ;"), ("LeavesBeforeWind$Reader", 103, "falls blows rots or and not left strong frost wet sort many "), ("LeavesBeforeWindModel", 89, "falls strong + frost * 40 + 2 - sort ; blows strong * 10 - wet * 60 ; rots wet ;"), ("LeavesBeforeWindModel", 143, "left"), ("LeavesBeforeWindModel", 149, "strong"), ("LeavesBeforeWindModel", 151, "frost"), ("LeavesBeforeWindModel", 153, "wet"), ("LeavesBeforeWindModel", 154, "sort"), ("LeavesBeforeWindModel", 155, "many"), ("LeavesBeforeWindModel", 164, "or"), ("LeavesBeforeWindModel", 176, "and"), ("LeavesBeforeWindModel", 178, "not"), ("LeavesBeforeWindModel", 200, "falls"), ("LeavesBeforeWindModel", 206, "blows"), ("LeavesBeforeWindModel", 208, "rots")]
def zbyt (i j : Nat) : Int32 := (zL.getD i []).getD j 0
def zlen (i : Nat) : Nat := (zL.getD i []).length
def zw (i : Nat) : String × Nat × String := zW.getD i ("", 0, "")
theorem z_len : ∀ i, i < 15 → zlen i < 100 := by decide +kernel
theorem z_chr : ∀ i, i < 15 → ∀ j, j < zlen i → ((zbyt i j &&& 255).toUInt32 % 65536).toInt32 = zbyt i j ∧ ((zbyt i j).toUInt32 % 65536).toInt32 = zbyt i j := by decide +kernel
def rZs (adK adV : Nat → Nat) (fm : Option Nat) : rZ := fun A U H => (∀ i, i < 15 → va_O "java/lang/String" (adK i) A U H ∧ va_OF "java/lang/String" "coder" "B" (.int 0) (adK i) A U H ∧ va_OF "java/lang/String" "value" "[B" (.ref (adV i)) (adK i) A U H ∧ va_T .byte (adV i) (zlen i) (fun j => .int (zbyt i j)) A U H) ∧ (∀ i, i < 15 → vk_R (zw i).1 (zw i).2.1 (zw i).2.2 (adK i) U) ∧ va_Z "java/lang/String" "COMPACT_STRINGS" "Z" (.int 1) A U H ∧ va_Z "jdk/internal/util/Preconditions" "SIOOBE_FORMATTER" "Ljava/util/function/BiFunction;" (va_rf fm) A U H
theorem rZs_ok (adK adV : Nat → Nat) (fm : Option Nat) : rOk (rZs adK adV fm) := by
  refine ⟨fun A B s U H h hq hAB hW => ?_, fun A u U H hv h => ?_⟩
  · obtain ⟨h1, h2, h3, h4⟩ := h
    have ha : s.vm.Alike U.vm := hW.alike
    exact ⟨fun i hi => ⟨(((h1 i hi).1.kept hq).narrow hAB).moved ha, (((h1 i hi).2.1.kept hq).narrow hAB).moved ha, (((h1 i hi).2.2.1.kept hq).narrow hAB).moved ha, (((h1 i hi).2.2.2.kept hq).narrow hAB).moved ha⟩, fun i hi => (h2 i hi).warm hW, ((h3.kept hq).narrow hAB).moved ha, ((h4.kept hq).narrow hAB).moved ha⟩
  · obtain ⟨h1, h2, h3, h4⟩ := h
    have ha : u.vm.Alike U.vm := by rw [hv]; exact Vm.Alike.refl _
    exact ⟨fun i hi => ⟨(h1 i hi).1.moved ha, (h1 i hi).2.1.moved ha, (h1 i hi).2.2.1.moved ha, (h1 i hi).2.2.2.moved ha⟩, fun i hi => (h2 i hi).same hv.symm, h3.moved ha, h4.moved ha⟩
section ZRW
variable {X : rT} {l : Launch} {cc : ByteArray} {nL : Nat} {own : String} {R : Room} {D : va_G} {tys : List (ClassId × FieldType)} {I : Bool} {adK adV : Nat → Nat} {fm : Option Nat}
variable {k n : Nat} {ws : va_W} {lv : rL} {pc : Nat} {st : List Value}
theorem x_i2c (C : rC X l cc nL own R D tys (rZs adK adV fm) I) {x : Int32} (v : Int32) (hd : decode cc pc = .ok (.i2c, 1)) (hv : (x.toUInt32 % 65536).toInt32 = v) (kk : X k n ws lv (pc + 1) (.int v :: st)) : X k n ws lv pc (.int x :: st) := by
  obtain ⟨p, e, s, m, args, below, meth, c, A, Q, rfl, hx, hb, hml, hown, hts, hK, hA, hZ, hN, hI⟩ := C
  exact fun H locs ls hP hD hS h => lv_i2c hx hb hd hv (kk H locs ls hP hD hS h)
theorem x_sval (C : rC X l cc nL own R D tys (rZs adK adV fm) I) {i idx : Nat} (hi : i < 15) (hl : Cond.fieldLink own idx "java/lang/String" "value" "[B" ∈ GW) (hd : decode cc pc = .ok (.getfield idx, 3)) (kk : X k n ws lv (pc + 3) (.ref (adV i) :: st)) : X k n ws lv pc (.ref (adK i) :: st) := by
  obtain ⟨p, e, s, m, args, below, meth, c, A, Q, rfl, hx, hb, hml, hown, hts, hK, hA, hZ, hN, hI⟩ := C
  exact fun H locs ls hP hD hS h => vk_getf hx hb (hZ.1 i hi).2.2.1 hS hown (hts _ hl) (fun _ h9 => h9) hd (kk H locs ls hP hD hS h)
theorem x_scod (C : rC X l cc nL own R D tys (rZs adK adV fm) I) {i idx : Nat} (hi : i < 15) (hl : Cond.fieldLink own idx "java/lang/String" "coder" "B" ∈ GW) (hd : decode cc pc = .ok (.getfield idx, 3)) (kk : X k n ws lv (pc + 3) (.int 0 :: st)) : X k n ws lv pc (.ref (adK i) :: st) := by
  obtain ⟨p, e, s, m, args, below, meth, c, A, Q, rfl, hx, hb, hml, hown, hts, hK, hA, hZ, hN, hI⟩ := C
  exact fun H locs ls hP hD hS h => vk_getf hx hb (hZ.1 i hi).2.1 hS hown (hts _ hl) (fun _ h9 => h9) hd (kk H locs ls hP hD hS h)
theorem x_scs (C : rC X l cc nL own R D tys (rZs adK adV fm) I) {idx : Nat} (hl : Cond.fieldLink own idx "java/lang/String" "COMPACT_STRINGS" "Z" ∈ GW) (hd : decode cc pc = .ok (.getstatic idx, 3)) (kk : X k n ws lv (pc + 3) (.int 1 :: st)) : X k n ws lv pc st := by
  obtain ⟨p, e, s, m, args, below, meth, c, A, Q, rfl, hx, hb, hml, hown, hts, hK, hA, hZ, hN, hI⟩ := C
  exact fun H locs ls hP hD hS h => va_gets hx hb hZ.2.2.1 hS hown (hts _ hl) (fun _ h9 => h9) hd (kk H locs ls hP hD hS h)
theorem x_sfm (C : rC X l cc nL own R D tys (rZs adK adV fm) I) {idx : Nat} (hl : Cond.fieldLink own idx "jdk/internal/util/Preconditions" "SIOOBE_FORMATTER" "Ljava/util/function/BiFunction;" ∈ GW) (hd : decode cc pc = .ok (.getstatic idx, 3)) (kk : X k n ws lv (pc + 3) (va_rf fm :: st)) : X k n ws lv pc st := by
  obtain ⟨p, e, s, m, args, below, meth, c, A, Q, rfl, hx, hb, hml, hown, hts, hK, hA, hZ, hN, hI⟩ := C
  exact fun H locs ls hP hD hS h => va_gets hx hb hZ.2.2.2 hS hown (hts _ hl) (fun _ h9 => h9) hd (kk H locs ls hP hD hS h)
theorem x_salen (C : rC X l cc nL own R D tys (rZs adK adV fm) I) {i : Nat} (hi : i < 15) (hd : decode cc pc = .ok (.arraylength, 1)) (kk : X k n ws lv (pc + 1) (.int (nI (zlen i)) :: st)) : X k n ws lv pc (.ref (adV i) :: st) := by
  obtain ⟨p, e, s, m, args, below, meth, c, A, Q, rfl, hx, hb, hml, hown, hts, hK, hA, hZ, hN, hI⟩ := C
  exact fun H locs ls hP hD hS h => va_tlen hx hb (hZ.1 i hi).2.2.2 hS rfl hd (kk H locs ls hP hD hS h)
theorem x_sbald (C : rC X l cc nL own R D tys (rZs adK adV fm) I) {i j : Nat} (hi : i < 15) (hj : j < zlen i) (hd : decode cc pc = .ok (.baload, 1)) (kk : X k n ws lv (pc + 1) (.int (zbyt i j) :: st)) : X k n ws lv pc (.int (nI j) :: .ref (adV i) :: st) := by
  obtain ⟨p, e, s, m, args, below, meth, c, A, Q, rfl, hx, hb, hml, hown, hts, hK, hA, hZ, hN, hI⟩ := C
  have h9 := z_len i hi
  have e9 : (nI j).toNatClampNeg = j := nI_clamp (by omega)
  exact fun H locs ls hP hD hS h => va_tb hx hb (hZ.1 i hi).2.2.2 hS (vp_in_nI hj (by omega)) (by rw [e9]) hd (kk H locs ls hP hD hS h)
theorem x_ldcS (C : rC X l cc nL own R D tys (rZs adK adV fm) I) (i : Nat) {idx : Nat} (hi : i < 15) (hw : (zw i).1 = own) (hx9 : (zw i).2.1 = idx) (hd : decode cc pc = .ok (.ldc idx, 2)) (kk : X k n ws lv (pc + 2) (.ref (adK i) :: st)) : X k n ws lv pc st := by
  obtain ⟨p, e, s, m, args, below, meth, c, A, Q, rfl, hx, hb, hml, hown, hts, hK, hA, hZ, hN, hI⟩ := C
  have h9 := hZ.2.1 i hi
  rw [hw, hx9] at h9
  exact fun H locs ls hP hD hS h => va_ldcS hx hb hown h9 hd (kk H locs ls hP hD hS h)
theorem x_callVs {y : MethodName} {bytes : ByteArray} {maxL idx : Nat} {ret : Option FieldType} {rm : Room} {As : List Value} {wr : va_W} {Po : rP} {st' : List Value} {i : Nat} (C : rC X l cc nL own R D tys (rZs adK adV fm) I) (hM : rM l y bytes maxL ret rm D tys (rZs adK adV fm) (.ref (adK i) :: As) [] Po) (hi : i < 15) (hc : y.cls = "java/lang/String") (g : GoodIn GW (wsV own idx y.cls y (.code y bytes maxL ret :: GW)))
    (hy : y.cls = y.cls ∧ y.cls ≠ "java/lang/invoke/MethodHandle" ∧ y.cls ≠ "java/lang/invoke/VarHandle" ∧ (parseMethodDescriptor y.desc).map (fun d => d.parameters.length) = some As.length) (hR : rm.frames + 1 ≤ R.frames ∧ 8 + (maxL + 11) + rm.locals ≤ R.locals) (hcs : k + rm.cells ≤ R.cells ∧ n + rm.slots ≤ R.slots)
    (hd : decode cc pc = .ok (.invokevirtual idx, 3)) (isR : List Nat) (hRr : isR.map (fun i => ws[i]?) = wr.map some) (hnR : va_nd isR = true)
    (hst : st' = As.reverse ++ .ref (adK i) :: st) (hcat : (st.map fun v => v.category).sum ≤ 8) (kk : rB X k n lv pc st rm Po wr) : X k n ws lv pc st' := by
  obtain ⟨p, e, s, m, args, below, meth, c, A, Q, rfl, hx, hb, hml, hown, hts, hK, hA, hZ, hN, hI⟩ := C
  intro H locs ls hP hD hS h
  subst hst
  have hr : ∃ cell : Cell, H[adK i]? = some cell ∧ cell.vm.isStatics = false ∧ s.vm.findClass y.cls = some cell.cls := by
    obtain ⟨cell, g1, g2, g3, -⟩ := (hZ.1 i hi).1.kept hS.2.1
    exact ⟨cell, g1, g2, by rw [hc]; exact g3⟩
  exact r_back hP hD hS h hA [] isR rfl hRr hnR (fun _ _ => List.not_mem_nil) (va_runV (As := As) (rest := st) ⟨hx, hb, hml, hown, hts⟩ (hM H.size) (cwV As.length hts g rfl rfl rfl hy hR) ⟨r_blind (rZs_ok adK adV fm), hr, r_pre (rZs_ok adK adV fm) (fun h9 => h9) hZ hN hK hA hP hD hS [] rfl rfl⟩ rfl rfl h.1 rfl (lv_room hcat) hd hcs) kk
end ZRW
theorem q_sh0 {a : Nat} : nI a >>> ((0 : Int32) &&& 31) = nI a := Int32.shiftRight_zero
