set_option maxHeartbeats 4000000 in
set_option maxRecDepth 100000 in
theorem c_J7_fill_53178 (l : Launch) (dG : va_G) (cI cM cW cS : ClassId) (a z : Nat) (v : Int32) (f : Nat → Int32) (hz : z < 2 ^ 31) : rM l yJ7_fill_53178 cJ7_fill_53178 4 none ({ frames := 0, cells := 0, slots := 0, locals := 0 } : Room) dG (tY cI cM cW cS) rZ0 [.ref a, .int v] [(a, .inl (cI, z, .inl f))] (fun ov oz => ov = none ∧ oz = [(a, .inl (cI, z, .inl (fun _ => v)))] ∧ True) := by
  refine rM_ofV false (by intro h; cases h) rfl (Nat.le_of_ble_eq_true rfl) rfl (fun X C E => ?_)
  show X 0 0 [(a, .inl (cI, z, .inl f))] [(0, .ref a), (1, .int v)] 0 []
  refine x_iconst C dJ7_fill_53178_0 (v := 0) rfl ?_
  refine x_istore_n C dJ7_fill_53178_1 (by decide) (lv' := [(2, .int 0), (0, .ref a), (1, .int v)]) rfl ?_
  refine x_aload_n C dJ7_fill_53178_2 1 rfl ?_
  refine x_alen C 0 rfl dJ7_fill_53178_3 0 rfl (v := nI z) rfl ?_
  refine x_istore_n C dJ7_fill_53178_4 (by decide) (lv' := [(3, .int (nI z)), (2, .int 0), (0, .ref a), (1, .int v)]) rfl ?_
  have L5_0 : ∀ (fuel : Nat) (i : Nat) (g : Nat → Int32), (hi : i ≤ z) → (hgg : ∀ j, g j = if j < i then (fun _ => v) j else f j) → z - i < fuel → X 0 0 [(a, .inl (cI, z, .inl g))] [(2, .int (nI i)), (3, .int (nI z)), (1, .int v), (0, .ref a)] 5 [] := by
    intro fuel
    induction fuel with
    | zero => intros; omega
    | succ fuel ihL5_0 =>
      intro i g hi hgg hfu
      refine x_iload_n C dJ7_fill_53178_5 0 rfl ?_
      refine x_iload_n C dJ7_fill_53178_6 1 rfl ?_
      refine x_icmp_ge C dJ7_fill_53178_7 (tgt := 20) rfl (fun c2 => ?_) (fun c2 => ?_)
      ·
        have c2 : i ≥ z := q_ge_t rfl rfl (by omega) (by omega) c2
        rw [show i = z by omega] at hgg
        refine x_arr C 0 rfl (fun _ => v) (q_end hgg) ?_
        show X _ _ [(a, .inl (cI, z, .inl (fun _ => v)))] _ _ _
        refine E dJ7_fill_53178_20 ?_
        exact ⟨rfl, rfl, by trivial⟩
      ·
        have c2 : i < z := q_ge_f rfl rfl (by omega) (by omega) c2
        refine x_aload_n C dJ7_fill_53178_10 3 rfl ?_
        refine x_iload_n C dJ7_fill_53178_11 0 rfl ?_
        refine x_iload_n C dJ7_fill_53178_12 2 rfl ?_
        refine x_iastore C 0 rfl dJ7_fill_53178_13 i (q_cl rfl (by omega)) (q_ix rfl (by omega) (by omega)) 0 rfl ?_
        show X _ _ [(a, .inl (cI, z, .inl (upd g i v)))] _ _ _
        refine x_iinc C dJ7_fill_53178_14 0 rfl (v := nI (i + 1)) (nI_1 _) (by decide) (lv' := [(2, .int (nI (i + 1))), (3, .int (nI z)), (1, .int v), (0, .ref a)]) rfl ?_
        refine x_goto C dJ7_fill_53178_17 (tgt := 5) rfl ?_
        exact ihL5_0 (i + 1) (upd g i v) (by omega) (q_up hgg rfl) (by omega)
  refine x_lv C [1, 0, 3, 2] (lv' := [(2, .int 0), (3, .int (nI z)), (1, .int v), (0, .ref a)]) rfl ?_
  show X 0 0 [(a, .inl (cI, z, .inl f))] [(2, .int (nI 0)), (3, .int (nI z)), (1, .int v), (0, .ref a)] 5 []
  exact L5_0 ((z - 0) + 1) 0 f (by omega) (q_0) (Nat.lt_succ_self _)
set_option maxHeartbeats 4000000 in
set_option maxRecDepth 100000 in
theorem c_J13_bitCount_95d88 (l : Launch) (dG : va_G) (cI cM cW cS : ClassId) (x : Int64) : rM l yJ13_bitCount_95d88 cJ13_bitCount_95d88 2 (some .int) ({ frames := 0, cells := 0, slots := 0, locals := 0 } : Room) dG (tY cI cM cW cS) rZ0 [.long x] [] (fun ov oz => ∃ (r : Int32), ov = some (.int r) ∧ oz = [] ∧ r = s_bc x) := by
  refine rM_ofI rfl (Nat.le_of_ble_eq_true rfl) rfl (fun X C E => ?_)
  show X 0 0 [] [(0, .long x)] 0 []
  refine x_lload_n C dJ13_bitCount_95d88_0 0 rfl ?_
  refine x_lload_n C dJ13_bitCount_95d88_1 0 rfl ?_
  refine x_iconst C dJ13_bitCount_95d88_2 (v := 1) rfl ?_
  refine x_lushr C dJ13_bitCount_95d88_3 ?_
  refine x_ldc2 C gw_27_3 dJ13_bitCount_95d88_4 ?_
  refine x_land C dJ13_bitCount_95d88_7 ?_
  refine x_lsub C dJ13_bitCount_95d88_8 ?_
  refine x_lstore_n C dJ13_bitCount_95d88_9 (by decide) (lv' := [(0, .long (x - (((x.toUInt64 >>> ((1 : Int32).toInt64.toUInt64 &&& Int64.toUInt64 63)).toInt64) &&& 6148914691236517205)))]) rfl ?_
  refine x_lload_n C dJ13_bitCount_95d88_10 0 rfl ?_
  refine x_ldc2 C gw_27_4 dJ13_bitCount_95d88_11 ?_
  show X _ _ _ _ 14 _
  refine x_land C dJ13_bitCount_95d88_14 ?_
  refine x_lload_n C dJ13_bitCount_95d88_15 0 rfl ?_
  refine x_iconst C dJ13_bitCount_95d88_16 (v := 2) rfl ?_
  refine x_lushr C dJ13_bitCount_95d88_17 ?_
  refine x_ldc2 C gw_27_4 dJ13_bitCount_95d88_18 ?_
  refine x_land C dJ13_bitCount_95d88_21 ?_
  refine x_ladd C dJ13_bitCount_95d88_22 ?_
  refine x_lstore_n C dJ13_bitCount_95d88_23 (by decide) (lv' := [(0, .long (((x - (((x.toUInt64 >>> ((1 : Int32).toInt64.toUInt64 &&& Int64.toUInt64 63)).toInt64) &&& 6148914691236517205)) &&& 3689348814741910323) + ((((x - (((x.toUInt64 >>> ((1 : Int32).toInt64.toUInt64 &&& Int64.toUInt64 63)).toInt64) &&& 6148914691236517205)).toUInt64 >>> ((2 : Int32).toInt64.toUInt64 &&& Int64.toUInt64 63)).toInt64) &&& 3689348814741910323)))]) rfl ?_
  refine x_lload_n C dJ13_bitCount_95d88_24 0 rfl ?_
  refine x_lload_n C dJ13_bitCount_95d88_25 0 rfl ?_
  show X _ _ _ _ 26 _
  refine x_iconst C dJ13_bitCount_95d88_26 (v := 4) rfl ?_
  refine x_lushr C dJ13_bitCount_95d88_27 ?_
  refine x_ladd C dJ13_bitCount_95d88_28 ?_
  refine x_ldc2 C gw_27_5 dJ13_bitCount_95d88_29 ?_
  refine x_land C dJ13_bitCount_95d88_32 ?_
  refine x_lstore_n C dJ13_bitCount_95d88_33 (by decide) (lv' := [(0, .long (((((x - (((x.toUInt64 >>> ((1 : Int32).toInt64.toUInt64 &&& Int64.toUInt64 63)).toInt64) &&& 6148914691236517205)) &&& 3689348814741910323) + ((((x - (((x.toUInt64 >>> ((1 : Int32).toInt64.toUInt64 &&& Int64.toUInt64 63)).toInt64) &&& 6148914691236517205)).toUInt64 >>> ((2 : Int32).toInt64.toUInt64 &&& Int64.toUInt64 63)).toInt64) &&& 3689348814741910323)) + (((((x - (((x.toUInt64 >>> ((1 : Int32).toInt64.toUInt64 &&& Int64.toUInt64 63)).toInt64) &&& 6148914691236517205)) &&& 3689348814741910323) + ((((x - (((x.toUInt64 >>> ((1 : Int32).toInt64.toUInt64 &&& Int64.toUInt64 63)).toInt64) &&& 6148914691236517205)).toUInt64 >>> ((2 : Int32).toInt64.toUInt64 &&& Int64.toUInt64 63)).toInt64) &&& 3689348814741910323)).toUInt64 >>> ((4 : Int32).toInt64.toUInt64 &&& Int64.toUInt64 63)).toInt64)) &&& 1085102592571150095))]) rfl ?_
  refine x_lload_n C dJ13_bitCount_95d88_34 0 rfl ?_
  refine x_lload_n C dJ13_bitCount_95d88_35 0 rfl ?_
  refine x_bipush C dJ13_bitCount_95d88_36 (v := 8) rfl ?_
  refine x_lushr C dJ13_bitCount_95d88_38 ?_
  show X _ _ _ _ 39 _
  refine x_ladd C dJ13_bitCount_95d88_39 ?_
  refine x_lstore_n C dJ13_bitCount_95d88_40 (by decide) (lv' := [(0, .long ((((((x - (((x.toUInt64 >>> ((1 : Int32).toInt64.toUInt64 &&& Int64.toUInt64 63)).toInt64) &&& 6148914691236517205)) &&& 3689348814741910323) + ((((x - (((x.toUInt64 >>> ((1 : Int32).toInt64.toUInt64 &&& Int64.toUInt64 63)).toInt64) &&& 6148914691236517205)).toUInt64 >>> ((2 : Int32).toInt64.toUInt64 &&& Int64.toUInt64 63)).toInt64) &&& 3689348814741910323)) + (((((x - (((x.toUInt64 >>> ((1 : Int32).toInt64.toUInt64 &&& Int64.toUInt64 63)).toInt64) &&& 6148914691236517205)) &&& 3689348814741910323) + ((((x - (((x.toUInt64 >>> ((1 : Int32).toInt64.toUInt64 &&& Int64.toUInt64 63)).toInt64) &&& 6148914691236517205)).toUInt64 >>> ((2 : Int32).toInt64.toUInt64 &&& Int64.toUInt64 63)).toInt64) &&& 3689348814741910323)).toUInt64 >>> ((4 : Int32).toInt64.toUInt64 &&& Int64.toUInt64 63)).toInt64)) &&& 1085102592571150095) + (((((((x - (((x.toUInt64 >>> ((1 : Int32).toInt64.toUInt64 &&& Int64.toUInt64 63)).toInt64) &&& 6148914691236517205)) &&& 3689348814741910323) + ((((x - (((x.toUInt64 >>> ((1 : Int32).toInt64.toUInt64 &&& Int64.toUInt64 63)).toInt64) &&& 6148914691236517205)).toUInt64 >>> ((2 : Int32).toInt64.toUInt64 &&& Int64.toUInt64 63)).toInt64) &&& 3689348814741910323)) + (((((x - (((x.toUInt64 >>> ((1 : Int32).toInt64.toUInt64 &&& Int64.toUInt64 63)).toInt64) &&& 6148914691236517205)) &&& 3689348814741910323) + ((((x - (((x.toUInt64 >>> ((1 : Int32).toInt64.toUInt64 &&& Int64.toUInt64 63)).toInt64) &&& 6148914691236517205)).toUInt64 >>> ((2 : Int32).toInt64.toUInt64 &&& Int64.toUInt64 63)).toInt64) &&& 3689348814741910323)).toUInt64 >>> ((4 : Int32).toInt64.toUInt64 &&& Int64.toUInt64 63)).toInt64)) &&& 1085102592571150095).toUInt64 >>> ((8 : Int32).toInt64.toUInt64 &&& Int64.toUInt64 63)).toInt64)))]) rfl ?_
  refine x_lload_n C dJ13_bitCount_95d88_41 0 rfl ?_
  refine x_lload_n C dJ13_bitCount_95d88_42 0 rfl ?_
  refine x_bipush C dJ13_bitCount_95d88_43 (v := 16) rfl ?_
  refine x_lushr C dJ13_bitCount_95d88_45 ?_
  refine x_ladd C dJ13_bitCount_95d88_46 ?_
  refine x_lstore_n C dJ13_bitCount_95d88_47 (by decide) (lv' := [(0, .long (((((((x - (((x.toUInt64 >>> ((1 : Int32).toInt64.toUInt64 &&& Int64.toUInt64 63)).toInt64) &&& 6148914691236517205)) &&& 3689348814741910323) + ((((x - (((x.toUInt64 >>> ((1 : Int32).toInt64.toUInt64 &&& Int64.toUInt64 63)).toInt64) &&& 6148914691236517205)).toUInt64 >>> ((2 : Int32).toInt64.toUInt64 &&& Int64.toUInt64 63)).toInt64) &&& 3689348814741910323)) + (((((x - (((x.toUInt64 >>> ((1 : Int32).toInt64.toUInt64 &&& Int64.toUInt64 63)).toInt64) &&& 6148914691236517205)) &&& 3689348814741910323) + ((((x - (((x.toUInt64 >>> ((1 : Int32).toInt64.toUInt64 &&& Int64.toUInt64 63)).toInt64) &&& 6148914691236517205)).toUInt64 >>> ((2 : Int32).toInt64.toUInt64 &&& Int64.toUInt64 63)).toInt64) &&& 3689348814741910323)).toUInt64 >>> ((4 : Int32).toInt64.toUInt64 &&& Int64.toUInt64 63)).toInt64)) &&& 1085102592571150095) + (((((((x - (((x.toUInt64 >>> ((1 : Int32).toInt64.toUInt64 &&& Int64.toUInt64 63)).toInt64) &&& 6148914691236517205)) &&& 3689348814741910323) + ((((x - (((x.toUInt64 >>> ((1 : Int32).toInt64.toUInt64 &&& Int64.toUInt64 63)).toInt64) &&& 6148914691236517205)).toUInt64 >>> ((2 : Int32).toInt64.toUInt64 &&& Int64.toUInt64 63)).toInt64) &&& 3689348814741910323)) + (((((x - (((x.toUInt64 >>> ((1 : Int32).toInt64.toUInt64 &&& Int64.toUInt64 63)).toInt64) &&& 6148914691236517205)) &&& 3689348814741910323) + ((((x - (((x.toUInt64 >>> ((1 : Int32).toInt64.toUInt64 &&& Int64.toUInt64 63)).toInt64) &&& 6148914691236517205)).toUInt64 >>> ((2 : Int32).toInt64.toUInt64 &&& Int64.toUInt64 63)).toInt64) &&& 3689348814741910323)).toUInt64 >>> ((4 : Int32).toInt64.toUInt64 &&& Int64.toUInt64 63)).toInt64)) &&& 1085102592571150095).toUInt64 >>> ((8 : Int32).toInt64.toUInt64 &&& Int64.toUInt64 63)).toInt64)) + ((((((((x - (((x.toUInt64 >>> ((1 : Int32).toInt64.toUInt64 &&& Int64.toUInt64 63)).toInt64) &&& 6148914691236517205)) &&& 3689348814741910323) + ((((x - (((x.toUInt64 >>> ((1 : Int32).toInt64.toUInt64 &&& Int64.toUInt64 63)).toInt64) &&& 6148914691236517205)).toUInt64 >>> ((2 : Int32).toInt64.toUInt64 &&& Int64.toUInt64 63)).toInt64) &&& 3689348814741910323)) + (((((x - (((x.toUInt64 >>> ((1 : Int32).toInt64.toUInt64 &&& Int64.toUInt64 63)).toInt64) &&& 6148914691236517205)) &&& 3689348814741910323) + ((((x - (((x.toUInt64 >>> ((1 : Int32).toInt64.toUInt64 &&& Int64.toUInt64 63)).toInt64) &&& 6148914691236517205)).toUInt64 >>> ((2 : Int32).toInt64.toUInt64 &&& Int64.toUInt64 63)).toInt64) &&& 3689348814741910323)).toUInt64 >>> ((4 : Int32).toInt64.toUInt64 &&& Int64.toUInt64 63)).toInt64)) &&& 1085102592571150095) + (((((((x - (((x.toUInt64 >>> ((1 : Int32).toInt64.toUInt64 &&& Int64.toUInt64 63)).toInt64) &&& 6148914691236517205)) &&& 3689348814741910323) + ((((x - (((x.toUInt64 >>> ((1 : Int32).toInt64.toUInt64 &&& Int64.toUInt64 63)).toInt64) &&& 6148914691236517205)).toUInt64 >>> ((2 : Int32).toInt64.toUInt64 &&& Int64.toUInt64 63)).toInt64) &&& 3689348814741910323)) + (((((x - (((x.toUInt64 >>> ((1 : Int32).toInt64.toUInt64 &&& Int64.toUInt64 63)).toInt64) &&& 6148914691236517205)) &&& 3689348814741910323) + ((((x - (((x.toUInt64 >>> ((1 : Int32).toInt64.toUInt64 &&& Int64.toUInt64 63)).toInt64) &&& 6148914691236517205)).toUInt64 >>> ((2 : Int32).toInt64.toUInt64 &&& Int64.toUInt64 63)).toInt64) &&& 3689348814741910323)).toUInt64 >>> ((4 : Int32).toInt64.toUInt64 &&& Int64.toUInt64 63)).toInt64)) &&& 1085102592571150095).toUInt64 >>> ((8 : Int32).toInt64.toUInt64 &&& Int64.toUInt64 63)).toInt64)).toUInt64 >>> ((16 : Int32).toInt64.toUInt64 &&& Int64.toUInt64 63)).toInt64)))]) rfl ?_
  refine x_lload_n C dJ13_bitCount_95d88_48 0 rfl ?_
  refine x_lload_n C dJ13_bitCount_95d88_49 0 rfl ?_
  show X _ _ _ _ 50 _
  refine x_bipush C dJ13_bitCount_95d88_50 (v := 32) rfl ?_
  refine x_lushr C dJ13_bitCount_95d88_52 ?_
  refine x_ladd C dJ13_bitCount_95d88_53 ?_
  refine x_lstore_n C dJ13_bitCount_95d88_54 (by decide) (lv' := [(0, .long ((((((((x - (((x.toUInt64 >>> ((1 : Int32).toInt64.toUInt64 &&& Int64.toUInt64 63)).toInt64) &&& 6148914691236517205)) &&& 3689348814741910323) + ((((x - (((x.toUInt64 >>> ((1 : Int32).toInt64.toUInt64 &&& Int64.toUInt64 63)).toInt64) &&& 6148914691236517205)).toUInt64 >>> ((2 : Int32).toInt64.toUInt64 &&& Int64.toUInt64 63)).toInt64) &&& 3689348814741910323)) + (((((x - (((x.toUInt64 >>> ((1 : Int32).toInt64.toUInt64 &&& Int64.toUInt64 63)).toInt64) &&& 6148914691236517205)) &&& 3689348814741910323) + ((((x - (((x.toUInt64 >>> ((1 : Int32).toInt64.toUInt64 &&& Int64.toUInt64 63)).toInt64) &&& 6148914691236517205)).toUInt64 >>> ((2 : Int32).toInt64.toUInt64 &&& Int64.toUInt64 63)).toInt64) &&& 3689348814741910323)).toUInt64 >>> ((4 : Int32).toInt64.toUInt64 &&& Int64.toUInt64 63)).toInt64)) &&& 1085102592571150095) + (((((((x - (((x.toUInt64 >>> ((1 : Int32).toInt64.toUInt64 &&& Int64.toUInt64 63)).toInt64) &&& 6148914691236517205)) &&& 3689348814741910323) + ((((x - (((x.toUInt64 >>> ((1 : Int32).toInt64.toUInt64 &&& Int64.toUInt64 63)).toInt64) &&& 6148914691236517205)).toUInt64 >>> ((2 : Int32).toInt64.toUInt64 &&& Int64.toUInt64 63)).toInt64) &&& 3689348814741910323)) + (((((x - (((x.toUInt64 >>> ((1 : Int32).toInt64.toUInt64 &&& Int64.toUInt64 63)).toInt64) &&& 6148914691236517205)) &&& 3689348814741910323) + ((((x - (((x.toUInt64 >>> ((1 : Int32).toInt64.toUInt64 &&& Int64.toUInt64 63)).toInt64) &&& 6148914691236517205)).toUInt64 >>> ((2 : Int32).toInt64.toUInt64 &&& Int64.toUInt64 63)).toInt64) &&& 3689348814741910323)).toUInt64 >>> ((4 : Int32).toInt64.toUInt64 &&& Int64.toUInt64 63)).toInt64)) &&& 1085102592571150095).toUInt64 >>> ((8 : Int32).toInt64.toUInt64 &&& Int64.toUInt64 63)).toInt64)) + ((((((((x - (((x.toUInt64 >>> ((1 : Int32).toInt64.toUInt64 &&& Int64.toUInt64 63)).toInt64) &&& 6148914691236517205)) &&& 3689348814741910323) + ((((x - (((x.toUInt64 >>> ((1 : Int32).toInt64.toUInt64 &&& Int64.toUInt64 63)).toInt64) &&& 6148914691236517205)).toUInt64 >>> ((2 : Int32).toInt64.toUInt64 &&& Int64.toUInt64 63)).toInt64) &&& 3689348814741910323)) + (((((x - (((x.toUInt64 >>> ((1 : Int32).toInt64.toUInt64 &&& Int64.toUInt64 63)).toInt64) &&& 6148914691236517205)) &&& 3689348814741910323) + ((((x - (((x.toUInt64 >>> ((1 : Int32).toInt64.toUInt64 &&& Int64.toUInt64 63)).toInt64) &&& 6148914691236517205)).toUInt64 >>> ((2 : Int32).toInt64.toUInt64 &&& Int64.toUInt64 63)).toInt64) &&& 3689348814741910323)).toUInt64 >>> ((4 : Int32).toInt64.toUInt64 &&& Int64.toUInt64 63)).toInt64)) &&& 1085102592571150095) + (((((((x - (((x.toUInt64 >>> ((1 : Int32).toInt64.toUInt64 &&& Int64.toUInt64 63)).toInt64) &&& 6148914691236517205)) &&& 3689348814741910323) + ((((x - (((x.toUInt64 >>> ((1 : Int32).toInt64.toUInt64 &&& Int64.toUInt64 63)).toInt64) &&& 6148914691236517205)).toUInt64 >>> ((2 : Int32).toInt64.toUInt64 &&& Int64.toUInt64 63)).toInt64) &&& 3689348814741910323)) + (((((x - (((x.toUInt64 >>> ((1 : Int32).toInt64.toUInt64 &&& Int64.toUInt64 63)).toInt64) &&& 6148914691236517205)) &&& 3689348814741910323) + ((((x - (((x.toUInt64 >>> ((1 : Int32).toInt64.toUInt64 &&& Int64.toUInt64 63)).toInt64) &&& 6148914691236517205)).toUInt64 >>> ((2 : Int32).toInt64.toUInt64 &&& Int64.toUInt64 63)).toInt64) &&& 3689348814741910323)).toUInt64 >>> ((4 : Int32).toInt64.toUInt64 &&& Int64.toUInt64 63)).toInt64)) &&& 1085102592571150095).toUInt64 >>> ((8 : Int32).toInt64.toUInt64 &&& Int64.toUInt64 63)).toInt64)).toUInt64 >>> ((16 : Int32).toInt64.toUInt64 &&& Int64.toUInt64 63)).toInt64)) + (((((((((x - (((x.toUInt64 >>> ((1 : Int32).toInt64.toUInt64 &&& Int64.toUInt64 63)).toInt64) &&& 6148914691236517205)) &&& 3689348814741910323) + ((((x - (((x.toUInt64 >>> ((1 : Int32).toInt64.toUInt64 &&& Int64.toUInt64 63)).toInt64) &&& 6148914691236517205)).toUInt64 >>> ((2 : Int32).toInt64.toUInt64 &&& Int64.toUInt64 63)).toInt64) &&& 3689348814741910323)) + (((((x - (((x.toUInt64 >>> ((1 : Int32).toInt64.toUInt64 &&& Int64.toUInt64 63)).toInt64) &&& 6148914691236517205)) &&& 3689348814741910323) + ((((x - (((x.toUInt64 >>> ((1 : Int32).toInt64.toUInt64 &&& Int64.toUInt64 63)).toInt64) &&& 6148914691236517205)).toUInt64 >>> ((2 : Int32).toInt64.toUInt64 &&& Int64.toUInt64 63)).toInt64) &&& 3689348814741910323)).toUInt64 >>> ((4 : Int32).toInt64.toUInt64 &&& Int64.toUInt64 63)).toInt64)) &&& 1085102592571150095) + (((((((x - (((x.toUInt64 >>> ((1 : Int32).toInt64.toUInt64 &&& Int64.toUInt64 63)).toInt64) &&& 6148914691236517205)) &&& 3689348814741910323) + ((((x - (((x.toUInt64 >>> ((1 : Int32).toInt64.toUInt64 &&& Int64.toUInt64 63)).toInt64) &&& 6148914691236517205)).toUInt64 >>> ((2 : Int32).toInt64.toUInt64 &&& Int64.toUInt64 63)).toInt64) &&& 3689348814741910323)) + (((((x - (((x.toUInt64 >>> ((1 : Int32).toInt64.toUInt64 &&& Int64.toUInt64 63)).toInt64) &&& 6148914691236517205)) &&& 3689348814741910323) + ((((x - (((x.toUInt64 >>> ((1 : Int32).toInt64.toUInt64 &&& Int64.toUInt64 63)).toInt64) &&& 6148914691236517205)).toUInt64 >>> ((2 : Int32).toInt64.toUInt64 &&& Int64.toUInt64 63)).toInt64) &&& 3689348814741910323)).toUInt64 >>> ((4 : Int32).toInt64.toUInt64 &&& Int64.toUInt64 63)).toInt64)) &&& 1085102592571150095).toUInt64 >>> ((8 : Int32).toInt64.toUInt64 &&& Int64.toUInt64 63)).toInt64)) + ((((((((x - (((x.toUInt64 >>> ((1 : Int32).toInt64.toUInt64 &&& Int64.toUInt64 63)).toInt64) &&& 6148914691236517205)) &&& 3689348814741910323) + ((((x - (((x.toUInt64 >>> ((1 : Int32).toInt64.toUInt64 &&& Int64.toUInt64 63)).toInt64) &&& 6148914691236517205)).toUInt64 >>> ((2 : Int32).toInt64.toUInt64 &&& Int64.toUInt64 63)).toInt64) &&& 3689348814741910323)) + (((((x - (((x.toUInt64 >>> ((1 : Int32).toInt64.toUInt64 &&& Int64.toUInt64 63)).toInt64) &&& 6148914691236517205)) &&& 3689348814741910323) + ((((x - (((x.toUInt64 >>> ((1 : Int32).toInt64.toUInt64 &&& Int64.toUInt64 63)).toInt64) &&& 6148914691236517205)).toUInt64 >>> ((2 : Int32).toInt64.toUInt64 &&& Int64.toUInt64 63)).toInt64) &&& 3689348814741910323)).toUInt64 >>> ((4 : Int32).toInt64.toUInt64 &&& Int64.toUInt64 63)).toInt64)) &&& 1085102592571150095) + (((((((x - (((x.toUInt64 >>> ((1 : Int32).toInt64.toUInt64 &&& Int64.toUInt64 63)).toInt64) &&& 6148914691236517205)) &&& 3689348814741910323) + ((((x - (((x.toUInt64 >>> ((1 : Int32).toInt64.toUInt64 &&& Int64.toUInt64 63)).toInt64) &&& 6148914691236517205)).toUInt64 >>> ((2 : Int32).toInt64.toUInt64 &&& Int64.toUInt64 63)).toInt64) &&& 3689348814741910323)) + (((((x - (((x.toUInt64 >>> ((1 : Int32).toInt64.toUInt64 &&& Int64.toUInt64 63)).toInt64) &&& 6148914691236517205)) &&& 3689348814741910323) + ((((x - (((x.toUInt64 >>> ((1 : Int32).toInt64.toUInt64 &&& Int64.toUInt64 63)).toInt64) &&& 6148914691236517205)).toUInt64 >>> ((2 : Int32).toInt64.toUInt64 &&& Int64.toUInt64 63)).toInt64) &&& 3689348814741910323)).toUInt64 >>> ((4 : Int32).toInt64.toUInt64 &&& Int64.toUInt64 63)).toInt64)) &&& 1085102592571150095).toUInt64 >>> ((8 : Int32).toInt64.toUInt64 &&& Int64.toUInt64 63)).toInt64)).toUInt64 >>> ((16 : Int32).toInt64.toUInt64 &&& Int64.toUInt64 63)).toInt64)).toUInt64 >>> ((32 : Int32).toInt64.toUInt64 &&& Int64.toUInt64 63)).toInt64)))]) rfl ?_
  refine x_lload_n C dJ13_bitCount_95d88_55 0 rfl ?_
  refine x_l2i C dJ13_bitCount_95d88_56 ?_
  refine x_bipush C dJ13_bitCount_95d88_57 (v := 127) rfl ?_
  refine x_iand C dJ13_bitCount_95d88_59 ?_
  refine E dJ13_bitCount_95d88_60 (rfl) ?_
  exact ⟨((((((((((x - (((x.toUInt64 >>> ((1 : Int32).toInt64.toUInt64 &&& Int64.toUInt64 63)).toInt64) &&& 6148914691236517205)) &&& 3689348814741910323) + ((((x - (((x.toUInt64 >>> ((1 : Int32).toInt64.toUInt64 &&& Int64.toUInt64 63)).toInt64) &&& 6148914691236517205)).toUInt64 >>> ((2 : Int32).toInt64.toUInt64 &&& Int64.toUInt64 63)).toInt64) &&& 3689348814741910323)) + (((((x - (((x.toUInt64 >>> ((1 : Int32).toInt64.toUInt64 &&& Int64.toUInt64 63)).toInt64) &&& 6148914691236517205)) &&& 3689348814741910323) + ((((x - (((x.toUInt64 >>> ((1 : Int32).toInt64.toUInt64 &&& Int64.toUInt64 63)).toInt64) &&& 6148914691236517205)).toUInt64 >>> ((2 : Int32).toInt64.toUInt64 &&& Int64.toUInt64 63)).toInt64) &&& 3689348814741910323)).toUInt64 >>> ((4 : Int32).toInt64.toUInt64 &&& Int64.toUInt64 63)).toInt64)) &&& 1085102592571150095) + (((((((x - (((x.toUInt64 >>> ((1 : Int32).toInt64.toUInt64 &&& Int64.toUInt64 63)).toInt64) &&& 6148914691236517205)) &&& 3689348814741910323) + ((((x - (((x.toUInt64 >>> ((1 : Int32).toInt64.toUInt64 &&& Int64.toUInt64 63)).toInt64) &&& 6148914691236517205)).toUInt64 >>> ((2 : Int32).toInt64.toUInt64 &&& Int64.toUInt64 63)).toInt64) &&& 3689348814741910323)) + (((((x - (((x.toUInt64 >>> ((1 : Int32).toInt64.toUInt64 &&& Int64.toUInt64 63)).toInt64) &&& 6148914691236517205)) &&& 3689348814741910323) + ((((x - (((x.toUInt64 >>> ((1 : Int32).toInt64.toUInt64 &&& Int64.toUInt64 63)).toInt64) &&& 6148914691236517205)).toUInt64 >>> ((2 : Int32).toInt64.toUInt64 &&& Int64.toUInt64 63)).toInt64) &&& 3689348814741910323)).toUInt64 >>> ((4 : Int32).toInt64.toUInt64 &&& Int64.toUInt64 63)).toInt64)) &&& 1085102592571150095).toUInt64 >>> ((8 : Int32).toInt64.toUInt64 &&& Int64.toUInt64 63)).toInt64)) + ((((((((x - (((x.toUInt64 >>> ((1 : Int32).toInt64.toUInt64 &&& Int64.toUInt64 63)).toInt64) &&& 6148914691236517205)) &&& 3689348814741910323) + ((((x - (((x.toUInt64 >>> ((1 : Int32).toInt64.toUInt64 &&& Int64.toUInt64 63)).toInt64) &&& 6148914691236517205)).toUInt64 >>> ((2 : Int32).toInt64.toUInt64 &&& Int64.toUInt64 63)).toInt64) &&& 3689348814741910323)) + (((((x - (((x.toUInt64 >>> ((1 : Int32).toInt64.toUInt64 &&& Int64.toUInt64 63)).toInt64) &&& 6148914691236517205)) &&& 3689348814741910323) + ((((x - (((x.toUInt64 >>> ((1 : Int32).toInt64.toUInt64 &&& Int64.toUInt64 63)).toInt64) &&& 6148914691236517205)).toUInt64 >>> ((2 : Int32).toInt64.toUInt64 &&& Int64.toUInt64 63)).toInt64) &&& 3689348814741910323)).toUInt64 >>> ((4 : Int32).toInt64.toUInt64 &&& Int64.toUInt64 63)).toInt64)) &&& 1085102592571150095) + (((((((x - (((x.toUInt64 >>> ((1 : Int32).toInt64.toUInt64 &&& Int64.toUInt64 63)).toInt64) &&& 6148914691236517205)) &&& 3689348814741910323) + ((((x - (((x.toUInt64 >>> ((1 : Int32).toInt64.toUInt64 &&& Int64.toUInt64 63)).toInt64) &&& 6148914691236517205)).toUInt64 >>> ((2 : Int32).toInt64.toUInt64 &&& Int64.toUInt64 63)).toInt64) &&& 3689348814741910323)) + (((((x - (((x.toUInt64 >>> ((1 : Int32).toInt64.toUInt64 &&& Int64.toUInt64 63)).toInt64) &&& 6148914691236517205)) &&& 3689348814741910323) + ((((x - (((x.toUInt64 >>> ((1 : Int32).toInt64.toUInt64 &&& Int64.toUInt64 63)).toInt64) &&& 6148914691236517205)).toUInt64 >>> ((2 : Int32).toInt64.toUInt64 &&& Int64.toUInt64 63)).toInt64) &&& 3689348814741910323)).toUInt64 >>> ((4 : Int32).toInt64.toUInt64 &&& Int64.toUInt64 63)).toInt64)) &&& 1085102592571150095).toUInt64 >>> ((8 : Int32).toInt64.toUInt64 &&& Int64.toUInt64 63)).toInt64)).toUInt64 >>> ((16 : Int32).toInt64.toUInt64 &&& Int64.toUInt64 63)).toInt64)) + (((((((((x - (((x.toUInt64 >>> ((1 : Int32).toInt64.toUInt64 &&& Int64.toUInt64 63)).toInt64) &&& 6148914691236517205)) &&& 3689348814741910323) + ((((x - (((x.toUInt64 >>> ((1 : Int32).toInt64.toUInt64 &&& Int64.toUInt64 63)).toInt64) &&& 6148914691236517205)).toUInt64 >>> ((2 : Int32).toInt64.toUInt64 &&& Int64.toUInt64 63)).toInt64) &&& 3689348814741910323)) + (((((x - (((x.toUInt64 >>> ((1 : Int32).toInt64.toUInt64 &&& Int64.toUInt64 63)).toInt64) &&& 6148914691236517205)) &&& 3689348814741910323) + ((((x - (((x.toUInt64 >>> ((1 : Int32).toInt64.toUInt64 &&& Int64.toUInt64 63)).toInt64) &&& 6148914691236517205)).toUInt64 >>> ((2 : Int32).toInt64.toUInt64 &&& Int64.toUInt64 63)).toInt64) &&& 3689348814741910323)).toUInt64 >>> ((4 : Int32).toInt64.toUInt64 &&& Int64.toUInt64 63)).toInt64)) &&& 1085102592571150095) + (((((((x - (((x.toUInt64 >>> ((1 : Int32).toInt64.toUInt64 &&& Int64.toUInt64 63)).toInt64) &&& 6148914691236517205)) &&& 3689348814741910323) + ((((x - (((x.toUInt64 >>> ((1 : Int32).toInt64.toUInt64 &&& Int64.toUInt64 63)).toInt64) &&& 6148914691236517205)).toUInt64 >>> ((2 : Int32).toInt64.toUInt64 &&& Int64.toUInt64 63)).toInt64) &&& 3689348814741910323)) + (((((x - (((x.toUInt64 >>> ((1 : Int32).toInt64.toUInt64 &&& Int64.toUInt64 63)).toInt64) &&& 6148914691236517205)) &&& 3689348814741910323) + ((((x - (((x.toUInt64 >>> ((1 : Int32).toInt64.toUInt64 &&& Int64.toUInt64 63)).toInt64) &&& 6148914691236517205)).toUInt64 >>> ((2 : Int32).toInt64.toUInt64 &&& Int64.toUInt64 63)).toInt64) &&& 3689348814741910323)).toUInt64 >>> ((4 : Int32).toInt64.toUInt64 &&& Int64.toUInt64 63)).toInt64)) &&& 1085102592571150095).toUInt64 >>> ((8 : Int32).toInt64.toUInt64 &&& Int64.toUInt64 63)).toInt64)) + ((((((((x - (((x.toUInt64 >>> ((1 : Int32).toInt64.toUInt64 &&& Int64.toUInt64 63)).toInt64) &&& 6148914691236517205)) &&& 3689348814741910323) + ((((x - (((x.toUInt64 >>> ((1 : Int32).toInt64.toUInt64 &&& Int64.toUInt64 63)).toInt64) &&& 6148914691236517205)).toUInt64 >>> ((2 : Int32).toInt64.toUInt64 &&& Int64.toUInt64 63)).toInt64) &&& 3689348814741910323)) + (((((x - (((x.toUInt64 >>> ((1 : Int32).toInt64.toUInt64 &&& Int64.toUInt64 63)).toInt64) &&& 6148914691236517205)) &&& 3689348814741910323) + ((((x - (((x.toUInt64 >>> ((1 : Int32).toInt64.toUInt64 &&& Int64.toUInt64 63)).toInt64) &&& 6148914691236517205)).toUInt64 >>> ((2 : Int32).toInt64.toUInt64 &&& Int64.toUInt64 63)).toInt64) &&& 3689348814741910323)).toUInt64 >>> ((4 : Int32).toInt64.toUInt64 &&& Int64.toUInt64 63)).toInt64)) &&& 1085102592571150095) + (((((((x - (((x.toUInt64 >>> ((1 : Int32).toInt64.toUInt64 &&& Int64.toUInt64 63)).toInt64) &&& 6148914691236517205)) &&& 3689348814741910323) + ((((x - (((x.toUInt64 >>> ((1 : Int32).toInt64.toUInt64 &&& Int64.toUInt64 63)).toInt64) &&& 6148914691236517205)).toUInt64 >>> ((2 : Int32).toInt64.toUInt64 &&& Int64.toUInt64 63)).toInt64) &&& 3689348814741910323)) + (((((x - (((x.toUInt64 >>> ((1 : Int32).toInt64.toUInt64 &&& Int64.toUInt64 63)).toInt64) &&& 6148914691236517205)) &&& 3689348814741910323) + ((((x - (((x.toUInt64 >>> ((1 : Int32).toInt64.toUInt64 &&& Int64.toUInt64 63)).toInt64) &&& 6148914691236517205)).toUInt64 >>> ((2 : Int32).toInt64.toUInt64 &&& Int64.toUInt64 63)).toInt64) &&& 3689348814741910323)).toUInt64 >>> ((4 : Int32).toInt64.toUInt64 &&& Int64.toUInt64 63)).toInt64)) &&& 1085102592571150095).toUInt64 >>> ((8 : Int32).toInt64.toUInt64 &&& Int64.toUInt64 63)).toInt64)).toUInt64 >>> ((16 : Int32).toInt64.toUInt64 &&& Int64.toUInt64 63)).toInt64)).toUInt64 >>> ((32 : Int32).toInt64.toUInt64 &&& Int64.toUInt64 63)).toInt64)).toInt32) &&& 127), rfl, rfl, rfl⟩
theorem kV_X0_129 : GoodIn GW (wsV RX0 129 yX0_lyingIn.cls yX0_lyingIn (Cond.code yX0_lyingIn cX0_lyingIn 2 (some .int) :: GW)) := r_gV gw_24_22 gw_24_23 gw_25_0 gw_1_21 gw_25_1
theorem hy_X0_lyingIn : yX0_lyingIn.cls ≠ "java/lang/invoke/MethodHandle" ∧ yX0_lyingIn.cls ≠ "java/lang/invoke/VarHandle" ∧ (parseMethodDescriptor yX0_lyingIn.desc).map (fun d => d.parameters.length) = some 1 := ⟨by decide +kernel, by decide +kernel, by decide +kernel⟩
set_option maxHeartbeats 4000000 in
set_option maxRecDepth 100000 in
theorem c_X0_tellLying (l : Launch) (dG : va_G) (cI cM cW cS : ClassId) (o ly l0 l1 bl b0 b1 cv hg fl of_ nm : Nat) (rt rk ct : Int32) (ra rn : Nat) (D W R : Nat → Int32) (h1 : 36 ≤ rn) (h2 : rn < 2 ^ 31) : rM l yX0_tellLying cX0_tellLying 3 none ({ frames := 1, cells := 0, slots := 0, locals := 21 } : Room) dG (tY cI cM cW cS) rZ0 [.ref o, .ref ra] [(o, .inr (0, [.ref ly, .ref bl, .ref cv, .ref hg, .ref fl, .ref of_, .ref nm, .int rt, .int rk, .int ct])), (ly, .inl (cM, 2, .inr (.inr (.inr (.inr (rr2 l0 l1)))))), (l0, .inl (cI, 36, .inl D)), (l1, .inl (cI, 36, .inl W)), (ra, .inl (cI, rn, .inl R))] (fun ov oz => ov = none ∧ oz = [(o, .inr (0, [.ref ly, .ref bl, .ref cv, .ref hg, .ref fl, .ref of_, .ref nm, .int rt, .int rk, .int ct])), (ly, .inl (cM, 2, .inr (.inr (.inr (.inr (rr2 l0 l1)))))), (l0, .inl (cI, 36, .inl D)), (l1, .inl (cI, 36, .inl W)), (ra, .inl (cI, rn, .inl (fun j => if j < 36 then D j + W j else R j)))] ∧ True) := by
  refine rM_ofV false (by intro h; cases h) rfl (Nat.le_of_ble_eq_true rfl) rfl (fun X C E => ?_)
  show X 0 0 [(o, .inr (0, [.ref ly, .ref bl, .ref cv, .ref hg, .ref fl, .ref of_, .ref nm, .int rt, .int rk, .int ct])), (ly, .inl (cM, 2, .inr (.inr (.inr (.inr (rr2 l0 l1)))))), (l0, .inl (cI, 36, .inl D)), (l1, .inl (cI, 36, .inl W)), (ra, .inl (cI, rn, .inl R))] [(0, .ref o), (1, .ref ra)] 0 []
  refine x_iconst C dX0_tellLying_0 (v := 0) rfl ?_
  refine x_istore_n C dX0_tellLying_1 (by decide) (lv' := [(2, .int 0), (0, .ref o), (1, .ref ra)]) rfl ?_
  have L2_0 : ∀ (fuel : Nat) (i : Nat) (g : Nat → Int32), (hi : i ≤ 36) → (hgg : ∀ j, g j = if j < i then (fun j => D j + W j) j else R j) → 36 - i < fuel → X 0 0 [(o, .inr (0, [.ref ly, .ref bl, .ref cv, .ref hg, .ref fl, .ref of_, .ref nm, .int rt, .int rk, .int ct])), (ly, .inl (cM, 2, .inr (.inr (.inr (.inr (rr2 l0 l1)))))), (l0, .inl (cI, 36, .inl D)), (l1, .inl (cI, 36, .inl W)), (ra, .inl (cI, rn, .inl g))] [(2, .int (nI i)), (1, .ref ra), (0, .ref o)] 2 [] := by
    intro fuel
    induction fuel with
    | zero => intros; omega
    | succ fuel ihL2_0 =>
      intro i g hi hgg hfu
      refine x_iload_n C dX0_tellLying_2 0 rfl ?_
      refine x_bipush C dX0_tellLying_3 (v := 36) rfl ?_
      refine x_icmp_ge C dX0_tellLying_5 (tgt := 22) rfl (fun c2 => ?_) (fun c2 => ?_)
      ·
        have c2 : i ≥ 36 := q_ge_t rfl (rfl : (36 : Int32) = nI 36) (by omega) (by omega) c2
        obtain rfl : i = 36 := by omega
        refine x_arr C 4 rfl (fun j => if j < 36 then D j + W j else R j) (fun j _ => hgg j) ?_
        show X _ _ [(o, .inr (0, [.ref ly, .ref bl, .ref cv, .ref hg, .ref fl, .ref of_, .ref nm, .int rt, .int rk, .int ct])), (ly, .inl (cM, 2, .inr (.inr (.inr (.inr (rr2 l0 l1)))))), (l0, .inl (cI, 36, .inl D)), (l1, .inl (cI, 36, .inl W)), (ra, .inl (cI, rn, .inl (fun j => if j < 36 then D j + W j else R j)))] _ _ _
        refine E dX0_tellLying_22 ?_
        exact ⟨rfl, rfl, by trivial⟩
      ·
        have c2 : i < 36 := q_ge_f rfl (rfl : (36 : Int32) = nI 36) (by omega) (by omega) c2
        refine x_aload_n C dX0_tellLying_8 1 rfl ?_
        refine x_iload_n C dX0_tellLying_9 0 rfl ?_
        refine x_aload_n C dX0_tellLying_10 2 rfl ?_
        refine x_iload_n C dX0_tellLying_11 0 rfl ?_
        refine x_callV C (As := [.int (nI i)]) (st := [.int (nI i), .ref ra]) (wc := [(o, .inr (0, [.ref ly, .ref bl, .ref cv, .ref hg, .ref fl, .ref of_, .ref nm, .int rt, .int rk, .int ct])), (ly, .inl (cM, 2, .inr (.inr (.inr (.inr (rr2 l0 l1)))))), (l0, .inl (cI, 36, .inl D)), (l1, .inl (cI, 36, .inl W))]) (wr := [(ra, .inl (cI, rn, .inl g))]) (c_X0_lyingIn l dG cI cM cW cS o ly l0 l1 bl 0 0 cv hg fl of_ nm rt rk ct D W i (by first | assumption | omega | decide)) rZ0_ok (fun _ _ _ _ => trivial) kV_X0_129 ⟨rfl, hy_X0_lyingIn⟩ ⟨Nat.le_of_ble_eq_true rfl, Nat.le_of_ble_eq_true rfl⟩ ⟨Nat.le_of_ble_eq_true rfl, Nat.le_of_ble_eq_true rfl⟩ dX0_tellLying_12 0 rfl rfl [0, 1, 2, 3] [4] rfl rfl rfl rfl (by decide) rfl (Nat.le_of_ble_eq_true rfl) ?_
        intro v3 w4 h5
        obtain ⟨_, rfl, rfl, rfl⟩ := h5
        show X 0 0 [(ra, .inl (cI, rn, .inl g)), (o, .inr (0, [.ref ly, .ref bl, .ref cv, .ref hg, .ref fl, .ref of_, .ref nm, .int rt, .int rk, .int ct])), (ly, .inl (cM, 2, .inr (.inr (.inr (.inr (rr2 l0 l1)))))), (l0, .inl (cI, 36, .inl D)), (l1, .inl (cI, 36, .inl W))] [(2, .int (nI i)), (1, .ref ra), (0, .ref o)] 15 [.int (D i + W i), .int (nI i), .ref ra]
        refine x_iastore C 0 rfl dX0_tellLying_15 i (q_cl rfl (by omega)) (q_ix rfl (by omega) (by omega)) 0 rfl ?_
        show X _ _ [(ra, .inl (cI, rn, .inl (upd g i (D i + W i)))), (o, .inr (0, [.ref ly, .ref bl, .ref cv, .ref hg, .ref fl, .ref of_, .ref nm, .int rt, .int rk, .int ct])), (ly, .inl (cM, 2, .inr (.inr (.inr (.inr (rr2 l0 l1)))))), (l0, .inl (cI, 36, .inl D)), (l1, .inl (cI, 36, .inl W))] _ _ _
        refine x_iinc C dX0_tellLying_16 0 rfl (v := nI (i + 1)) (nI_1 _) (by decide) (lv' := [(2, .int (nI (i + 1))), (1, .ref ra), (0, .ref o)]) rfl ?_
        refine x_goto C dX0_tellLying_19 (tgt := 2) rfl ?_
        refine x_sub C [1, 2, 3, 4, 0] (ws' := [(o, .inr (0, [.ref ly, .ref bl, .ref cv, .ref hg, .ref fl, .ref of_, .ref nm, .int rt, .int rk, .int ct])), (ly, .inl (cM, 2, .inr (.inr (.inr (.inr (rr2 l0 l1)))))), (l0, .inl (cI, 36, .inl D)), (l1, .inl (cI, 36, .inl W)), (ra, .inl (cI, rn, .inl (upd g i (D i + W i))))]) rfl rfl ?_
        exact ihL2_0 (i + 1) (upd g i (D i + W i)) (by omega) (q_up hgg rfl) (by omega)
  refine x_lv C [0, 2, 1] (lv' := [(2, .int 0), (1, .ref ra), (0, .ref o)]) rfl ?_
  show X 0 0 [(o, .inr (0, [.ref ly, .ref bl, .ref cv, .ref hg, .ref fl, .ref of_, .ref nm, .int rt, .int rk, .int ct])), (ly, .inl (cM, 2, .inr (.inr (.inr (.inr (rr2 l0 l1)))))), (l0, .inl (cI, 36, .inl D)), (l1, .inl (cI, 36, .inl W)), (ra, .inl (cI, rn, .inl R))] [(2, .int (nI 0)), (1, .ref ra), (0, .ref o)] 2 []
  exact L2_0 ((36 - 0) + 1) 0 R (by omega) (q_0) (Nat.lt_succ_self _)
set_option maxHeartbeats 4000000 in
set_option maxRecDepth 100000 in
theorem c_X0_firstUnlike (l : Launch) (dG : va_G) (cI cM cW cS : ClassId) (o ly l0 l1 bl b0 b1 cv hg fl of_ nm : Nat) (rt rk ct : Int32) (ra rn : Nat) (D W R : Nat → Int32) (h1 : 36 ≤ rn) (h2 : rn < 2 ^ 31) : rM l yX0_firstUnlike cX0_firstUnlike 3 (some .int) ({ frames := 1, cells := 0, slots := 0, locals := 21 } : Room) dG (tY cI cM cW cS) rZ0 [.ref o, .ref ra] [(o, .inr (0, [.ref ly, .ref bl, .ref cv, .ref hg, .ref fl, .ref of_, .ref nm, .int rt, .int rk, .int ct])), (ly, .inl (cM, 2, .inr (.inr (.inr (.inr (rr2 l0 l1)))))), (l0, .inl (cI, 36, .inl D)), (l1, .inl (cI, 36, .inl W)), (ra, .inl (cI, rn, .inl R))] (fun ov oz => ∃ (r : Int32), ov = some (.int r) ∧ oz = [(o, .inr (0, [.ref ly, .ref bl, .ref cv, .ref hg, .ref fl, .ref of_, .ref nm, .int rt, .int rk, .int ct])), (ly, .inl (cM, 2, .inr (.inr (.inr (.inr (rr2 l0 l1)))))), (l0, .inl (cI, 36, .inl D)), (l1, .inl (cI, 36, .inl W)), (ra, .inl (cI, rn, .inl R))] ∧ r = s_ul (fun j => decide (R j ≠ D j + W j)) 36 0) := by
  refine rM_ofI rfl (Nat.le_of_ble_eq_true rfl) rfl (fun X C E => ?_)
  show X 0 0 [(o, .inr (0, [.ref ly, .ref bl, .ref cv, .ref hg, .ref fl, .ref of_, .ref nm, .int rt, .int rk, .int ct])), (ly, .inl (cM, 2, .inr (.inr (.inr (.inr (rr2 l0 l1)))))), (l0, .inl (cI, 36, .inl D)), (l1, .inl (cI, 36, .inl W)), (ra, .inl (cI, rn, .inl R))] [(0, .ref o), (1, .ref ra)] 0 []
  refine x_iconst C dX0_firstUnlike_0 (v := 0) rfl ?_
  refine x_istore_n C dX0_firstUnlike_1 (by decide) (lv' := [(2, .int 0), (0, .ref o), (1, .ref ra)]) rfl ?_
  have L2_0 : ∀ (fuel : Nat) (i : Nat), (hi : i ≤ 36) → (hgg : s_ul (fun j => decide (R j ≠ D j + W j)) (36 - i) i = s_ul (fun j => decide (R j ≠ D j + W j)) 36 0) → 36 - i < fuel → X 0 0 [(o, .inr (0, [.ref ly, .ref bl, .ref cv, .ref hg, .ref fl, .ref of_, .ref nm, .int rt, .int rk, .int ct])), (ly, .inl (cM, 2, .inr (.inr (.inr (.inr (rr2 l0 l1)))))), (l0, .inl (cI, 36, .inl D)), (l1, .inl (cI, 36, .inl W)), (ra, .inl (cI, rn, .inl R))] [(2, .int (nI i)), (1, .ref ra), (0, .ref o)] 2 [] := by
    intro fuel
    induction fuel with
    | zero => intros; omega
    | succ fuel ihL2_0 =>
      intro i hi hgg hfu
      refine x_iload_n C dX0_firstUnlike_2 0 rfl ?_
      refine x_bipush C dX0_firstUnlike_3 (v := 36) rfl ?_
      refine x_icmp_ge C dX0_firstUnlike_5 (tgt := 27) rfl (fun c2 => ?_) (fun c2 => ?_)
      ·
        have c2 : i ≥ 36 := q_ge_t rfl (rfl : (36 : Int32) = nI 36) (by omega) (by omega) c2
        refine x_iconst C dX0_firstUnlike_27 (v := (-1)) rfl ?_
        refine E dX0_firstUnlike_28 (rfl) ?_
        exact ⟨(-1), rfl, rfl, by rw [← hgg, show 36 - i = 0 by omega]; rfl⟩
      ·
        have c2 : i < 36 := q_ge_f rfl (rfl : (36 : Int32) = nI 36) (by omega) (by omega) c2
        refine x_aload_n C dX0_firstUnlike_8 1 rfl ?_
        refine x_iload_n C dX0_firstUnlike_9 0 rfl ?_
        refine x_iaload C 0 rfl dX0_firstUnlike_10 i (q_cl rfl (by omega)) (q_ix rfl (by omega) (by omega)) 4 rfl ?_
        refine x_aload_n C dX0_firstUnlike_11 2 rfl ?_
        refine x_iload_n C dX0_firstUnlike_12 0 rfl ?_
        refine x_callV C (As := [.int (nI i)]) (st := [.int (R i)]) (wc := [(o, .inr (0, [.ref ly, .ref bl, .ref cv, .ref hg, .ref fl, .ref of_, .ref nm, .int rt, .int rk, .int ct])), (ly, .inl (cM, 2, .inr (.inr (.inr (.inr (rr2 l0 l1)))))), (l0, .inl (cI, 36, .inl D)), (l1, .inl (cI, 36, .inl W))]) (wr := [(ra, .inl (cI, rn, .inl R))]) (c_X0_lyingIn l dG cI cM cW cS o ly l0 l1 bl 0 0 cv hg fl of_ nm rt rk ct D W i (by first | assumption | omega | decide)) rZ0_ok (fun _ _ _ _ => trivial) kV_X0_129 ⟨rfl, hy_X0_lyingIn⟩ ⟨Nat.le_of_ble_eq_true rfl, Nat.le_of_ble_eq_true rfl⟩ ⟨Nat.le_of_ble_eq_true rfl, Nat.le_of_ble_eq_true rfl⟩ dX0_firstUnlike_13 0 rfl rfl [0, 1, 2, 3] [4] rfl rfl rfl rfl (by decide) rfl (Nat.le_of_ble_eq_true rfl) ?_
        intro v3 w4 h5
        obtain ⟨_, rfl, rfl, rfl⟩ := h5
        show X 0 0 [(ra, .inl (cI, rn, .inl R)), (o, .inr (0, [.ref ly, .ref bl, .ref cv, .ref hg, .ref fl, .ref of_, .ref nm, .int rt, .int rk, .int ct])), (ly, .inl (cM, 2, .inr (.inr (.inr (.inr (rr2 l0 l1)))))), (l0, .inl (cI, 36, .inl D)), (l1, .inl (cI, 36, .inl W))] [(2, .int (nI i)), (1, .ref ra), (0, .ref o)] 16 [.int (D i + W i), .int (R i)]
        refine x_icmp_eq C dX0_firstUnlike_16 (tgt := 21) rfl (fun c8 => ?_) (fun c8 => ?_)
        ·
          refine x_iinc C dX0_firstUnlike_21 0 rfl (v := nI (i + 1)) (nI_1 _) (by decide) (lv' := [(2, .int (nI (i + 1))), (1, .ref ra), (0, .ref o)]) rfl ?_
          refine x_goto C dX0_firstUnlike_24 (tgt := 2) rfl ?_
          refine x_sub C [1, 2, 3, 4, 0] (ws' := [(o, .inr (0, [.ref ly, .ref bl, .ref cv, .ref hg, .ref fl, .ref of_, .ref nm, .int rt, .int rk, .int ct])), (ly, .inl (cM, 2, .inr (.inr (.inr (.inr (rr2 l0 l1)))))), (l0, .inl (cI, 36, .inl D)), (l1, .inl (cI, 36, .inl W)), (ra, .inl (cI, rn, .inl R))]) rfl rfl ?_
          exact ihL2_0 (i + 1) (by omega) (by rw [← hgg, show 36 - i = (36 - (i + 1)) + 1 by omega, s_ul, if_neg (by simp; assumption)]) (by omega)
        ·
          refine x_iload_n C dX0_firstUnlike_19 0 rfl ?_
          refine x_sub C [1, 2, 3, 4, 0] (ws' := [(o, .inr (0, [.ref ly, .ref bl, .ref cv, .ref hg, .ref fl, .ref of_, .ref nm, .int rt, .int rk, .int ct])), (ly, .inl (cM, 2, .inr (.inr (.inr (.inr (rr2 l0 l1)))))), (l0, .inl (cI, 36, .inl D)), (l1, .inl (cI, 36, .inl W)), (ra, .inl (cI, rn, .inl R))]) rfl rfl ?_
          refine E dX0_firstUnlike_20 (rfl) ?_
          exact ⟨(nI i), rfl, rfl, by rw [← hgg, show 36 - i = (36 - (i + 1)) + 1 by omega, s_ul, if_pos (by simp; assumption)]⟩
  refine x_lv C [0, 2, 1] (lv' := [(2, .int 0), (1, .ref ra), (0, .ref o)]) rfl ?_
  show X 0 0 [(o, .inr (0, [.ref ly, .ref bl, .ref cv, .ref hg, .ref fl, .ref of_, .ref nm, .int rt, .int rk, .int ct])), (ly, .inl (cM, 2, .inr (.inr (.inr (.inr (rr2 l0 l1)))))), (l0, .inl (cI, 36, .inl D)), (l1, .inl (cI, 36, .inl W)), (ra, .inl (cI, rn, .inl R))] [(2, .int (nI 0)), (1, .ref ra), (0, .ref o)] 2 []
  exact L2_0 ((36 - 0) + 1) 0 (by omega) (rfl) (Nat.lt_succ_self _)
set_option maxHeartbeats 4000000 in
set_option maxRecDepth 100000 in
theorem c_X0_lyingTogether (l : Launch) (dG : va_G) (cI cM cW cS : ClassId) (o ly l0 l1 bl b0 b1 cv hg fl of_ nm : Nat) (rt rk ct : Int32) (D W : Nat → Int32) : rM l yX0_lyingTogether cX0_lyingTogether 3 (some .int) ({ frames := 1, cells := 0, slots := 0, locals := 21 } : Room) dG (tY cI cM cW cS) rZ0 [.ref o] [(o, .inr (0, [.ref ly, .ref bl, .ref cv, .ref hg, .ref fl, .ref of_, .ref nm, .int rt, .int rk, .int ct])), (ly, .inl (cM, 2, .inr (.inr (.inr (.inr (rr2 l0 l1)))))), (l0, .inl (cI, 36, .inl D)), (l1, .inl (cI, 36, .inl W))] (fun ov oz => ∃ (r : Int32), ov = some (.int r) ∧ oz = [(o, .inr (0, [.ref ly, .ref bl, .ref cv, .ref hg, .ref fl, .ref of_, .ref nm, .int rt, .int rk, .int ct])), (ly, .inl (cM, 2, .inr (.inr (.inr (.inr (rr2 l0 l1)))))), (l0, .inl (cI, 36, .inl D)), (l1, .inl (cI, 36, .inl W))] ∧ r = s_sum (fun j => D j + W j) 36) := by
  refine rM_ofI rfl (Nat.le_of_ble_eq_true rfl) rfl (fun X C E => ?_)
  show X 0 0 [(o, .inr (0, [.ref ly, .ref bl, .ref cv, .ref hg, .ref fl, .ref of_, .ref nm, .int rt, .int rk, .int ct])), (ly, .inl (cM, 2, .inr (.inr (.inr (.inr (rr2 l0 l1)))))), (l0, .inl (cI, 36, .inl D)), (l1, .inl (cI, 36, .inl W))] [(0, .ref o)] 0 []
  refine x_iconst C dX0_lyingTogether_0 (v := 0) rfl ?_
  refine x_istore_n C dX0_lyingTogether_1 (by decide) (lv' := [(1, .int 0), (0, .ref o)]) rfl ?_
  refine x_iconst C dX0_lyingTogether_2 (v := 0) rfl ?_
  refine x_istore_n C dX0_lyingTogether_3 (by decide) (lv' := [(2, .int 0), (1, .int 0), (0, .ref o)]) rfl ?_
  have L4_0 : ∀ (fuel : Nat) (i : Nat) (a9 : Int32), (hi : i ≤ 36) → (ha : a9 = s_sum (fun j => D j + W j) i) → 36 - i < fuel → X 0 0 [(o, .inr (0, [.ref ly, .ref bl, .ref cv, .ref hg, .ref fl, .ref of_, .ref nm, .int rt, .int rk, .int ct])), (ly, .inl (cM, 2, .inr (.inr (.inr (.inr (rr2 l0 l1)))))), (l0, .inl (cI, 36, .inl D)), (l1, .inl (cI, 36, .inl W))] [(2, .int (nI i)), (1, .int a9), (0, .ref o)] 4 [] := by
    intro fuel
    induction fuel with
    | zero => intros; omega
    | succ fuel ihL4_0 =>
      intro i a9 hi ha hfu
      refine x_iload_n C dX0_lyingTogether_4 0 rfl ?_
      refine x_bipush C dX0_lyingTogether_5 (v := 36) rfl ?_
      refine x_icmp_ge C dX0_lyingTogether_7 (tgt := 24) rfl (fun c2 => ?_) (fun c2 => ?_)
      ·
        have c2 : i ≥ 36 := q_ge_t rfl (rfl : (36 : Int32) = nI 36) (by omega) (by omega) c2
        refine x_iload_n C dX0_lyingTogether_24 1 rfl ?_
        refine E dX0_lyingTogether_25 (rfl) ?_
        exact ⟨a9, rfl, rfl, by rw [ha, show i = 36 by omega]⟩
      ·
        have c2 : i < 36 := q_ge_f rfl (rfl : (36 : Int32) = nI 36) (by omega) (by omega) c2
        refine x_iload_n C dX0_lyingTogether_10 1 rfl ?_
        refine x_aload_n C dX0_lyingTogether_11 2 rfl ?_
        refine x_iload_n C dX0_lyingTogether_12 0 rfl ?_
        refine x_callV C (As := [.int (nI i)]) (st := [.int a9]) (wc := [(o, .inr (0, [.ref ly, .ref bl, .ref cv, .ref hg, .ref fl, .ref of_, .ref nm, .int rt, .int rk, .int ct])), (ly, .inl (cM, 2, .inr (.inr (.inr (.inr (rr2 l0 l1)))))), (l0, .inl (cI, 36, .inl D)), (l1, .inl (cI, 36, .inl W))]) (wr := []) (c_X0_lyingIn l dG cI cM cW cS o ly l0 l1 bl 0 0 cv hg fl of_ nm rt rk ct D W i (by first | assumption | omega | decide)) rZ0_ok (fun _ _ _ _ => trivial) kV_X0_129 ⟨rfl, hy_X0_lyingIn⟩ ⟨Nat.le_of_ble_eq_true rfl, Nat.le_of_ble_eq_true rfl⟩ ⟨Nat.le_of_ble_eq_true rfl, Nat.le_of_ble_eq_true rfl⟩ dX0_lyingTogether_13 0 rfl rfl [0, 1, 2, 3] [] rfl rfl rfl rfl (by decide) rfl (Nat.le_of_ble_eq_true rfl) ?_
        intro v3 w4 h5
        obtain ⟨_, rfl, rfl, rfl⟩ := h5
        show X 0 0 [(o, .inr (0, [.ref ly, .ref bl, .ref cv, .ref hg, .ref fl, .ref of_, .ref nm, .int rt, .int rk, .int ct])), (ly, .inl (cM, 2, .inr (.inr (.inr (.inr (rr2 l0 l1)))))), (l0, .inl (cI, 36, .inl D)), (l1, .inl (cI, 36, .inl W))] [(2, .int (nI i)), (1, .int a9), (0, .ref o)] 16 [.int (D i + W i), .int a9]
        refine x_iadd C dX0_lyingTogether_16 ?_
        refine x_istore_n C dX0_lyingTogether_17 (by decide) (lv' := [(1, .int (a9 + (D i + W i))), (2, .int (nI i)), (0, .ref o)]) rfl ?_
        refine x_iinc C dX0_lyingTogether_18 1 rfl (v := nI (i + 1)) (nI_1 _) (by decide) (lv' := [(2, .int (nI (i + 1))), (1, .int (a9 + (D i + W i))), (0, .ref o)]) rfl ?_
        refine x_goto C dX0_lyingTogether_21 (tgt := 4) rfl ?_
        exact ihL4_0 (i + 1) (a9 + (D i + W i)) (by omega) (by rw [ha]; rfl) (by omega)
  show X 0 0 [(o, .inr (0, [.ref ly, .ref bl, .ref cv, .ref hg, .ref fl, .ref of_, .ref nm, .int rt, .int rk, .int ct])), (ly, .inl (cM, 2, .inr (.inr (.inr (.inr (rr2 l0 l1)))))), (l0, .inl (cI, 36, .inl D)), (l1, .inl (cI, 36, .inl W))] [(2, .int (nI 0)), (1, .int 0), (0, .ref o)] 4 []
  exact L4_0 ((36 - 0) + 1) 0 0 (Nat.zero_le _) (rfl) (Nat.lt_succ_self _)
set_option maxHeartbeats 4000000 in
set_option maxRecDepth 100000 in
theorem c_X0_hangingTogether (l : Launch) (dG : va_G) (cI cM cW cS : ClassId) (o ly l0 l1 bl b0 b1 cv hg fl of_ nm : Nat) (rt rk ct : Int32) (h : Nat → Int32) : rM l yX0_hangingTogether cX0_hangingTogether 3 (some .int) ({ frames := 0, cells := 0, slots := 0, locals := 0 } : Room) dG (tY cI cM cW cS) rZ0 [.ref o] [(o, .inr (0, [.ref ly, .ref bl, .ref cv, .ref hg, .ref fl, .ref of_, .ref nm, .int rt, .int rk, .int ct])), (hg, .inl (cI, 4, .inl h))] (fun ov oz => ∃ (r : Int32), ov = some (.int r) ∧ oz = [(o, .inr (0, [.ref ly, .ref bl, .ref cv, .ref hg, .ref fl, .ref of_, .ref nm, .int rt, .int rk, .int ct])), (hg, .inl (cI, 4, .inl h))] ∧ r = s_sum h 4) := by
  refine rM_ofI rfl (Nat.le_of_ble_eq_true rfl) rfl (fun X C E => ?_)
  show X 0 0 [(o, .inr (0, [.ref ly, .ref bl, .ref cv, .ref hg, .ref fl, .ref of_, .ref nm, .int rt, .int rk, .int ct])), (hg, .inl (cI, 4, .inl h))] [(0, .ref o)] 0 []
  refine x_iconst C dX0_hangingTogether_0 (v := 0) rfl ?_
  refine x_istore_n C dX0_hangingTogether_1 (by decide) (lv' := [(1, .int 0), (0, .ref o)]) rfl ?_
  refine x_iconst C dX0_hangingTogether_2 (v := 0) rfl ?_
  refine x_istore_n C dX0_hangingTogether_3 (by decide) (lv' := [(2, .int 0), (1, .int 0), (0, .ref o)]) rfl ?_
  have L4_0 : ∀ (fuel : Nat) (i : Nat) (a9 : Int32), (hi : i ≤ 4) → (ha : a9 = s_sum h i) → 4 - i < fuel → X 0 0 [(o, .inr (0, [.ref ly, .ref bl, .ref cv, .ref hg, .ref fl, .ref of_, .ref nm, .int rt, .int rk, .int ct])), (hg, .inl (cI, 4, .inl h))] [(2, .int (nI i)), (1, .int a9), (0, .ref o)] 4 [] := by
    intro fuel
    induction fuel with
    | zero => intros; omega
    | succ fuel ihL4_0 =>
      intro i a9 hi ha hfu
      refine x_iload_n C dX0_hangingTogether_4 0 rfl ?_
      refine x_iconst C dX0_hangingTogether_5 (v := 4) rfl ?_
      refine x_icmp_ge C dX0_hangingTogether_6 (tgt := 24) rfl (fun c2 => ?_) (fun c2 => ?_)
      ·
        have c2 : i ≥ 4 := q_ge_t rfl (rfl : (4 : Int32) = nI 4) (by omega) (by omega) c2
        refine x_iload_n C dX0_hangingTogether_24 1 rfl ?_
        refine E dX0_hangingTogether_25 (rfl) ?_
        exact ⟨a9, rfl, rfl, by rw [ha, show i = 4 by omega]⟩
      ·
        have c2 : i < 4 := q_ge_f rfl (rfl : (4 : Int32) = nI 4) (by omega) (by omega) c2
        refine x_iload_n C dX0_hangingTogether_9 1 rfl ?_
        refine x_aload_n C dX0_hangingTogether_10 2 rfl ?_
        refine x_get C inlX0 rfl 3 (by decide) gw_3_14 dX0_hangingTogether_11 0 rfl rfl ?_
        refine x_iload_n C dX0_hangingTogether_14 0 rfl ?_
        refine x_iaload C 0 rfl dX0_hangingTogether_15 i (q_cl rfl (by omega)) (q_ix rfl (by omega) (by omega)) 1 rfl ?_
        refine x_iadd C dX0_hangingTogether_16 ?_
        refine x_istore_n C dX0_hangingTogether_17 (by decide) (lv' := [(1, .int (a9 + (h i))), (2, .int (nI i)), (0, .ref o)]) rfl ?_
        refine x_iinc C dX0_hangingTogether_18 1 rfl (v := nI (i + 1)) (nI_1 _) (by decide) (lv' := [(2, .int (nI (i + 1))), (1, .int (a9 + (h i))), (0, .ref o)]) rfl ?_
        refine x_goto C dX0_hangingTogether_21 (tgt := 4) rfl ?_
        exact ihL4_0 (i + 1) (a9 + (h i)) (by omega) (by rw [ha]; rfl) (by omega)
  show X 0 0 [(o, .inr (0, [.ref ly, .ref bl, .ref cv, .ref hg, .ref fl, .ref of_, .ref nm, .int rt, .int rk, .int ct])), (hg, .inl (cI, 4, .inl h))] [(2, .int (nI 0)), (1, .int 0), (0, .ref o)] 4 []
  exact L4_0 ((4 - 0) + 1) 0 0 (Nat.zero_le _) (rfl) (Nat.lt_succ_self _)
set_option maxHeartbeats 4000000 in
set_option maxRecDepth 100000 in
theorem c_X0_offTogether (l : Launch) (dG : va_G) (cI cM cW cS : ClassId) (o ly l0 l1 bl b0 b1 cv hg fl of_ nm : Nat) (rt rk ct : Int32) (h : Nat → Int32) : rM l yX0_offTogether cX0_offTogether 3 (some .int) ({ frames := 0, cells := 0, slots := 0, locals := 0 } : Room) dG (tY cI cM cW cS) rZ0 [.ref o] [(o, .inr (0, [.ref ly, .ref bl, .ref cv, .ref hg, .ref fl, .ref of_, .ref nm, .int rt, .int rk, .int ct])), (of_, .inl (cI, 4, .inl h))] (fun ov oz => ∃ (r : Int32), ov = some (.int r) ∧ oz = [(o, .inr (0, [.ref ly, .ref bl, .ref cv, .ref hg, .ref fl, .ref of_, .ref nm, .int rt, .int rk, .int ct])), (of_, .inl (cI, 4, .inl h))] ∧ r = s_sum h 4) := by
  refine rM_ofI rfl (Nat.le_of_ble_eq_true rfl) rfl (fun X C E => ?_)
  show X 0 0 [(o, .inr (0, [.ref ly, .ref bl, .ref cv, .ref hg, .ref fl, .ref of_, .ref nm, .int rt, .int rk, .int ct])), (of_, .inl (cI, 4, .inl h))] [(0, .ref o)] 0 []
  refine x_iconst C dX0_offTogether_0 (v := 0) rfl ?_
  refine x_istore_n C dX0_offTogether_1 (by decide) (lv' := [(1, .int 0), (0, .ref o)]) rfl ?_
  refine x_iconst C dX0_offTogether_2 (v := 0) rfl ?_
  refine x_istore_n C dX0_offTogether_3 (by decide) (lv' := [(2, .int 0), (1, .int 0), (0, .ref o)]) rfl ?_
  have L4_0 : ∀ (fuel : Nat) (i : Nat) (a9 : Int32), (hi : i ≤ 4) → (ha : a9 = s_sum h i) → 4 - i < fuel → X 0 0 [(o, .inr (0, [.ref ly, .ref bl, .ref cv, .ref hg, .ref fl, .ref of_, .ref nm, .int rt, .int rk, .int ct])), (of_, .inl (cI, 4, .inl h))] [(2, .int (nI i)), (1, .int a9), (0, .ref o)] 4 [] := by
    intro fuel
    induction fuel with
    | zero => intros; omega
    | succ fuel ihL4_0 =>
      intro i a9 hi ha hfu
      refine x_iload_n C dX0_offTogether_4 0 rfl ?_
      refine x_iconst C dX0_offTogether_5 (v := 4) rfl ?_
      refine x_icmp_ge C dX0_offTogether_6 (tgt := 24) rfl (fun c2 => ?_) (fun c2 => ?_)
      ·
        have c2 : i ≥ 4 := q_ge_t rfl (rfl : (4 : Int32) = nI 4) (by omega) (by omega) c2
        refine x_iload_n C dX0_offTogether_24 1 rfl ?_
        refine E dX0_offTogether_25 (rfl) ?_
        exact ⟨a9, rfl, rfl, by rw [ha, show i = 4 by omega]⟩
      ·
        have c2 : i < 4 := q_ge_f rfl (rfl : (4 : Int32) = nI 4) (by omega) (by omega) c2
        refine x_iload_n C dX0_offTogether_9 1 rfl ?_
        refine x_aload_n C dX0_offTogether_10 2 rfl ?_
        refine x_get C inlX0 rfl 5 (by decide) gw_3_16 dX0_offTogether_11 0 rfl rfl ?_
        refine x_iload_n C dX0_offTogether_14 0 rfl ?_
        refine x_iaload C 0 rfl dX0_offTogether_15 i (q_cl rfl (by omega)) (q_ix rfl (by omega) (by omega)) 1 rfl ?_
        refine x_iadd C dX0_offTogether_16 ?_
        refine x_istore_n C dX0_offTogether_17 (by decide) (lv' := [(1, .int (a9 + (h i))), (2, .int (nI i)), (0, .ref o)]) rfl ?_
        refine x_iinc C dX0_offTogether_18 1 rfl (v := nI (i + 1)) (nI_1 _) (by decide) (lv' := [(2, .int (nI (i + 1))), (1, .int (a9 + (h i))), (0, .ref o)]) rfl ?_
        refine x_goto C dX0_offTogether_21 (tgt := 4) rfl ?_
        exact ihL4_0 (i + 1) (a9 + (h i)) (by omega) (by rw [ha]; rfl) (by omega)
  show X 0 0 [(o, .inr (0, [.ref ly, .ref bl, .ref cv, .ref hg, .ref fl, .ref of_, .ref nm, .int rt, .int rk, .int ct])), (of_, .inl (cI, 4, .inl h))] [(2, .int (nI 0)), (1, .int 0), (0, .ref o)] 4 []
  exact L4_0 ((4 - 0) + 1) 0 0 (Nat.zero_le _) (rfl) (Nat.lt_succ_self _)
set_option maxHeartbeats 4000000 in
set_option maxRecDepth 100000 in
theorem c_X0_fallenIn (l : Launch) (dG : va_G) (cI cM cW cS : ClassId) (o ly l0 l1 bl b0 b1 cv hg fl of_ nm : Nat) (rt rk ct : Int32) (h : Nat → Int32) (z : Nat) (hz : z ≤ 14) : rM l yX0_fallenIn cX0_fallenIn 4 (some .int) ({ frames := 0, cells := 0, slots := 0, locals := 0 } : Room) dG (tY cI cM cW cS) rZ0 [.ref o, .int (nI z)] [(o, .inr (0, [.ref ly, .ref bl, .ref cv, .ref hg, .ref fl, .ref of_, .ref nm, .int rt, .int rk, .int ct])), (fl, .inl (cI, 14, .inl h))] (fun ov oz => ∃ (r : Int32), ov = some (.int r) ∧ oz = [(o, .inr (0, [.ref ly, .ref bl, .ref cv, .ref hg, .ref fl, .ref of_, .ref nm, .int rt, .int rk, .int ct])), (fl, .inl (cI, 14, .inl h))] ∧ r = s_sum h z) := by
  refine rM_ofI rfl (Nat.le_of_ble_eq_true rfl) rfl (fun X C E => ?_)
  show X 0 0 [(o, .inr (0, [.ref ly, .ref bl, .ref cv, .ref hg, .ref fl, .ref of_, .ref nm, .int rt, .int rk, .int ct])), (fl, .inl (cI, 14, .inl h))] [(0, .ref o), (1, .int (nI z))] 0 []
  refine x_iconst C dX0_fallenIn_0 (v := 0) rfl ?_
  refine x_istore_n C dX0_fallenIn_1 (by decide) (lv' := [(2, .int 0), (0, .ref o), (1, .int (nI z))]) rfl ?_
  refine x_iconst C dX0_fallenIn_2 (v := 0) rfl ?_
  refine x_istore_n C dX0_fallenIn_3 (by decide) (lv' := [(3, .int 0), (2, .int 0), (0, .ref o), (1, .int (nI z))]) rfl ?_
  have L4_0 : ∀ (fuel : Nat) (i : Nat) (a9 : Int32), (hi : i ≤ z) → (ha : a9 = s_sum h i) → z - i < fuel → X 0 0 [(o, .inr (0, [.ref ly, .ref bl, .ref cv, .ref hg, .ref fl, .ref of_, .ref nm, .int rt, .int rk, .int ct])), (fl, .inl (cI, 14, .inl h))] [(3, .int (nI i)), (2, .int a9), (1, .int (nI z)), (0, .ref o)] 4 [] := by
    intro fuel
    induction fuel with
    | zero => intros; omega
    | succ fuel ihL4_0 =>
      intro i a9 hi ha hfu
      refine x_iload_n C dX0_fallenIn_4 0 rfl ?_
      refine x_iload_n C dX0_fallenIn_5 2 rfl ?_
      refine x_icmp_ge C dX0_fallenIn_6 (tgt := 24) rfl (fun c2 => ?_) (fun c2 => ?_)
      ·
        have c2 : i ≥ z := q_ge_t rfl rfl (by omega) (by omega) c2
        refine x_iload_n C dX0_fallenIn_24 1 rfl ?_
        refine E dX0_fallenIn_25 (rfl) ?_
        exact ⟨a9, rfl, rfl, by rw [ha, show i = z by omega]⟩
      ·
        have c2 : i < z := q_ge_f rfl rfl (by omega) (by omega) c2
        refine x_iload_n C dX0_fallenIn_9 1 rfl ?_
        refine x_aload_n C dX0_fallenIn_10 3 rfl ?_
        refine x_get C inlX0 rfl 4 (by decide) gw_3_15 dX0_fallenIn_11 0 rfl rfl ?_
        refine x_iload_n C dX0_fallenIn_14 0 rfl ?_
        refine x_iaload C 0 rfl dX0_fallenIn_15 i (q_cl rfl (by omega)) (q_ix rfl (by omega) (by omega)) 1 rfl ?_
        refine x_iadd C dX0_fallenIn_16 ?_
        refine x_istore_n C dX0_fallenIn_17 (by decide) (lv' := [(2, .int (a9 + (h i))), (3, .int (nI i)), (1, .int (nI z)), (0, .ref o)]) rfl ?_
        refine x_iinc C dX0_fallenIn_18 1 rfl (v := nI (i + 1)) (nI_1 _) (by decide) (lv' := [(3, .int (nI (i + 1))), (2, .int (a9 + (h i))), (1, .int (nI z)), (0, .ref o)]) rfl ?_
        refine x_goto C dX0_fallenIn_21 (tgt := 4) rfl ?_
        exact ihL4_0 (i + 1) (a9 + (h i)) (by omega) (by rw [ha]; rfl) (by omega)
  refine x_lv C [0, 1, 3, 2] (lv' := [(3, .int 0), (2, .int 0), (1, .int (nI z)), (0, .ref o)]) rfl ?_
  show X 0 0 [(o, .inr (0, [.ref ly, .ref bl, .ref cv, .ref hg, .ref fl, .ref of_, .ref nm, .int rt, .int rk, .int ct])), (fl, .inl (cI, 14, .inl h))] [(3, .int (nI 0)), (2, .int 0), (1, .int (nI z)), (0, .ref o)] 4 []
  exact L4_0 ((z - 0) + 1) 0 0 (Nat.zero_le _) (rfl) (Nat.lt_succ_self _)
theorem kV_X0_159 : GoodIn GW (wsV RX0 159 yX0_lyingTogether.cls yX0_lyingTogether (Cond.code yX0_lyingTogether cX0_lyingTogether 3 (some .int) :: GW)) := r_gV gw_27_10 gw_27_11 gw_27_12 gw_1_21 gw_27_13
theorem hy_X0_lyingTogether : yX0_lyingTogether.cls ≠ "java/lang/invoke/MethodHandle" ∧ yX0_lyingTogether.cls ≠ "java/lang/invoke/VarHandle" ∧ (parseMethodDescriptor yX0_lyingTogether.desc).map (fun d => d.parameters.length) = some 0 := ⟨by decide +kernel, by decide +kernel, by decide +kernel⟩
theorem kS_X0_46 : GoodIn GW (va_wsS RX0 46 yJ7_fill_53178 (Cond.code yJ7_fill_53178 cJ7_fill_53178 4 none :: GW)) := r_gS gw_23_21 gw_23_22 gw_23_23 gw_24_0
theorem hy_J7_fill_53178 : yJ7_fill_53178.cls ≠ "java/lang/invoke/MethodHandle" ∧ yJ7_fill_53178.cls ≠ "java/lang/invoke/VarHandle" ∧ (parseMethodDescriptor yJ7_fill_53178.desc).map (fun d => d.parameters.length) = some 2 := ⟨by decide +kernel, by decide +kernel, by decide +kernel⟩
set_option maxHeartbeats 4000000 in
set_option maxRecDepth 100000 in
theorem c_X0_rakeUp (l : Launch) (dG : va_G) (cI cM cW cS : ClassId) (o ly l0 l1 bl b0 b1 cv hg fl of_ nm : Nat) (rt rk ct : Int32) (D W : Nat → Int32) (pr : Int32) : rM l yX0_rakeUp cX0_rakeUp 2 none ({ frames := 2, cells := 0, slots := 0, locals := 43 } : Room) dG (tY cI cM cW cS) rZ0 [.ref o, .int pr] [(o, .inr (0, [.ref ly, .ref bl, .ref cv, .ref hg, .ref fl, .ref of_, .ref nm, .int rt, .int rk, .int ct])), (ly, .inl (cM, 2, .inr (.inr (.inr (.inr (rr2 l0 l1)))))), (l0, .inl (cI, 36, .inl D)), (l1, .inl (cI, 36, .inl W))] (fun ov oz => ov = none ∧ oz = [(o, .inr (0, [.ref ly, .ref bl, .ref cv, .ref hg, .ref fl, .ref of_, .ref nm, .int rt, .int (rk + s_sum (fun j => D j + W j) 36), .int (ct + pr)])), (ly, .inl (cM, 2, .inr (.inr (.inr (.inr (rr2 l0 l1)))))), (l0, .inl (cI, 36, .inl (fun _ => 0))), (l1, .inl (cI, 36, .inl (fun _ => 0)))] ∧ True) := by
  refine rM_ofV false (by intro h; cases h) rfl (Nat.le_of_ble_eq_true rfl) rfl (fun X C E => ?_)
  show X 0 0 [(o, .inr (0, [.ref ly, .ref bl, .ref cv, .ref hg, .ref fl, .ref of_, .ref nm, .int rt, .int rk, .int ct])), (ly, .inl (cM, 2, .inr (.inr (.inr (.inr (rr2 l0 l1)))))), (l0, .inl (cI, 36, .inl D)), (l1, .inl (cI, 36, .inl W))] [(0, .ref o), (1, .int pr)] 0 []
  refine x_aload_n C dX0_rakeUp_0 0 rfl ?_
  refine x_dup C dX0_rakeUp_1 rfl ?_
  refine x_get C inlX0 rfl 9 (by decide) gw_23_20 dX0_rakeUp_2 0 rfl rfl ?_
  refine x_iload_n C dX0_rakeUp_5 1 rfl ?_
  refine x_iadd C dX0_rakeUp_6 ?_
  refine x_put C inlX0 rfl tyX0 tyX0_ok nmX0 9 (by decide) gw_23_20 rfl dX0_rakeUp_7 0 rfl (rfl) rfl (Nat.le_of_ble_eq_true rfl) ?_
  show X _ _ [(o, .inr (0, [.ref ly, .ref bl, .ref cv, .ref hg, .ref fl, .ref of_, .ref nm, .int rt, .int rk, .int (ct + pr)])), (ly, .inl (cM, 2, .inr (.inr (.inr (.inr (rr2 l0 l1)))))), (l0, .inl (cI, 36, .inl D)), (l1, .inl (cI, 36, .inl W))] _ _ _
  refine x_aload_n C dX0_rakeUp_10 0 rfl ?_
  refine x_dup C dX0_rakeUp_11 rfl ?_
  refine x_get C inlX0 rfl 8 (by decide) gw_23_19 dX0_rakeUp_12 0 rfl rfl ?_
  refine x_aload_n C dX0_rakeUp_15 0 rfl ?_
  show X _ _ _ _ 16 _
  refine x_callV C (As := []) (st := [.int rk, .ref o]) (wc := [(o, .inr (0, [.ref ly, .ref bl, .ref cv, .ref hg, .ref fl, .ref of_, .ref nm, .int rt, .int rk, .int (ct + pr)])), (ly, .inl (cM, 2, .inr (.inr (.inr (.inr (rr2 l0 l1)))))), (l0, .inl (cI, 36, .inl D)), (l1, .inl (cI, 36, .inl W))]) (wr := []) (c_X0_lyingTogether l dG cI cM cW cS o ly l0 l1 bl 0 0 cv hg fl of_ nm rt rk (ct + pr) D W ) rZ0_ok (fun _ _ _ _ => trivial) kV_X0_159 ⟨rfl, hy_X0_lyingTogether⟩ ⟨Nat.le_of_ble_eq_true rfl, Nat.le_of_ble_eq_true rfl⟩ ⟨Nat.le_of_ble_eq_true rfl, Nat.le_of_ble_eq_true rfl⟩ dX0_rakeUp_16 0 rfl rfl [0, 1, 2, 3] [] rfl rfl rfl rfl (by decide) rfl (Nat.le_of_ble_eq_true rfl) ?_
  intro v1 w2 h3
  obtain ⟨_, rfl, rfl, rfl⟩ := h3
  show X 0 0 [(o, .inr (0, [.ref ly, .ref bl, .ref cv, .ref hg, .ref fl, .ref of_, .ref nm, .int rt, .int rk, .int (ct + pr)])), (ly, .inl (cM, 2, .inr (.inr (.inr (.inr (rr2 l0 l1)))))), (l0, .inl (cI, 36, .inl D)), (l1, .inl (cI, 36, .inl W))] [(0, .ref o), (1, .int pr)] 19 [.int (s_sum (fun j => D j + W j) 36), .int rk, .ref o]
  refine x_iadd C dX0_rakeUp_19 ?_
  refine x_put C inlX0 rfl tyX0 tyX0_ok nmX0 8 (by decide) gw_23_19 rfl dX0_rakeUp_20 0 rfl (rfl) rfl (Nat.le_of_ble_eq_true rfl) ?_
  show X _ _ [(o, .inr (0, [.ref ly, .ref bl, .ref cv, .ref hg, .ref fl, .ref of_, .ref nm, .int rt, .int (rk + (s_sum (fun j => D j + W j) 36)), .int (ct + pr)])), (ly, .inl (cM, 2, .inr (.inr (.inr (.inr (rr2 l0 l1)))))), (l0, .inl (cI, 36, .inl D)), (l1, .inl (cI, 36, .inl W))] _ _ _
  refine x_aload_n C dX0_rakeUp_23 0 rfl ?_
  refine x_get C inlX0 rfl 0 (by decide) gw_3_11 dX0_rakeUp_24 0 rfl rfl ?_
  refine x_iconst C dX0_rakeUp_27 (v := 0) rfl ?_
  refine x_aaloadA C 1 rfl dX0_rakeUp_28 0 rfl (q_ix (rfl : (0 : Int32) = nI 0) (by decide) (by decide)) 1 rfl rfl ?_
  refine x_iconst C dX0_rakeUp_29 (v := 0) rfl ?_
  refine x_callS C (As := [.ref l0, .int 0]) (st := []) (wc := [(l0, .inl (cI, 36, .inl D))]) (wr := [(o, .inr (0, [.ref ly, .ref bl, .ref cv, .ref hg, .ref fl, .ref of_, .ref nm, .int rt, .int (rk + (s_sum (fun j => D j + W j) 36)), .int (ct + pr)])), (ly, .inl (cM, 2, .inr (.inr (.inr (.inr (rr2 l0 l1)))))), (l1, .inl (cI, 36, .inl W))]) (c_J7_fill_53178 l dG cI cM cW cS l0 36 0 D (by first | assumption | omega | decide)) rZ0_ok (fun _ _ _ _ => trivial) kS_X0_46 hy_J7_fill_53178 ⟨Nat.le_of_ble_eq_true rfl, Nat.le_of_ble_eq_true rfl⟩ ⟨Nat.le_of_ble_eq_true rfl, Nat.le_of_ble_eq_true rfl⟩ dX0_rakeUp_30 [2] [0, 1, 3] rfl rfl rfl rfl (by decide) rfl (Nat.le_of_ble_eq_true rfl) ?_
  intro v6 w7 h8
  obtain ⟨rfl, rfl, hf9⟩ := h8
  show X 0 0 [(o, .inr (0, [.ref ly, .ref bl, .ref cv, .ref hg, .ref fl, .ref of_, .ref nm, .int rt, .int (rk + (s_sum (fun j => D j + W j) 36)), .int (ct + pr)])), (ly, .inl (cM, 2, .inr (.inr (.inr (.inr (rr2 l0 l1)))))), (l1, .inl (cI, 36, .inl W)), (l0, .inl (cI, 36, .inl (fun _ => 0)))] [(0, .ref o), (1, .int pr)] 33 []
  refine x_aload_n C dX0_rakeUp_33 0 rfl ?_
  show X _ _ _ _ 34 _
  refine x_get C inlX0 rfl 0 (by decide) gw_3_11 dX0_rakeUp_34 0 rfl rfl ?_
  refine x_iconst C dX0_rakeUp_37 (v := 1) rfl ?_
  refine x_aaloadA C 1 rfl dX0_rakeUp_38 1 rfl (q_ix (rfl : (1 : Int32) = nI 1) (by decide) (by decide)) 1 rfl rfl ?_
  refine x_iconst C dX0_rakeUp_39 (v := 0) rfl ?_
  refine x_callS C (As := [.ref l1, .int 0]) (st := []) (wc := [(l1, .inl (cI, 36, .inl W))]) (wr := [(o, .inr (0, [.ref ly, .ref bl, .ref cv, .ref hg, .ref fl, .ref of_, .ref nm, .int rt, .int (rk + (s_sum (fun j => D j + W j) 36)), .int (ct + pr)])), (ly, .inl (cM, 2, .inr (.inr (.inr (.inr (rr2 l0 l1)))))), (l0, .inl (cI, 36, .inl (fun _ => 0)))]) (c_J7_fill_53178 l dG cI cM cW cS l1 36 0 W (by first | assumption | omega | decide)) rZ0_ok (fun _ _ _ _ => trivial) kS_X0_46 hy_J7_fill_53178 ⟨Nat.le_of_ble_eq_true rfl, Nat.le_of_ble_eq_true rfl⟩ ⟨Nat.le_of_ble_eq_true rfl, Nat.le_of_ble_eq_true rfl⟩ dX0_rakeUp_40 [2] [0, 1, 3] rfl rfl rfl rfl (by decide) rfl (Nat.le_of_ble_eq_true rfl) ?_
  intro v10 w11 h12
  obtain ⟨rfl, rfl, hf13⟩ := h12
  show X 0 0 [(o, .inr (0, [.ref ly, .ref bl, .ref cv, .ref hg, .ref fl, .ref of_, .ref nm, .int rt, .int (rk + (s_sum (fun j => D j + W j) 36)), .int (ct + pr)])), (ly, .inl (cM, 2, .inr (.inr (.inr (.inr (rr2 l0 l1)))))), (l0, .inl (cI, 36, .inl (fun _ => 0))), (l1, .inl (cI, 36, .inl (fun _ => 0)))] [(0, .ref o), (1, .int pr)] 43 []
  refine E dX0_rakeUp_43 ?_
  exact ⟨rfl, rfl, by trivial⟩
theorem nw_X0_140 : (RX0, 140, "LeavesBeforeWind$Lawn", "kind", "[I", "LeavesBeforeWind") ∈ NWF := List.mem_of_getElem? (i := 23) rfl
theorem kS_X0_155 : GoodIn GW (va_wsS RX0 155 yX2_suffers (Cond.code yX2_suffers cX2_suffers 1 (some .boolean) :: GW)) := r_gS gw_26_2 gw_26_3 gw_25_11 gw_26_4
theorem hy_X2_suffers : yX2_suffers.cls ≠ "java/lang/invoke/MethodHandle" ∧ yX2_suffers.cls ≠ "java/lang/invoke/VarHandle" ∧ (parseMethodDescriptor yX2_suffers.desc).map (fun d => d.parameters.length) = some 1 := ⟨by decide +kernel, by decide +kernel, by decide +kernel⟩
set_option maxHeartbeats 4000000 in
set_option maxRecDepth 100000 in
theorem c_X0_cover (l : Launch) (dG : va_G) (cI cM cW cS : ClassId) (o ly l0 l1 bl b0 b1 cv hg fl of_ nm : Nat) (rt rk ct : Int32) (w sk kd mo lv tc ts tl s0 s1 s2 s3 : Nat) (tn lw : Nat) (rg : Int32) (hp : Int64) (D W kf C0 : Nat → Int32) : rM l yX0_cover cX0_cover 3 none ({ frames := 1, cells := 0, slots := 0, locals := 21 } : Room) dG (tY cI cM cW cS) rZ0 [.ref o, .ref w] [(o, .inr (0, [.ref ly, .ref bl, .ref cv, .ref hg, .ref fl, .ref of_, .ref nm, .int rt, .int rk, .int ct])), (ly, .inl (cM, 2, .inr (.inr (.inr (.inr (rr2 l0 l1)))))), (l0, .inl (cI, 36, .inl D)), (l1, .inl (cI, 36, .inl W)), (cv, .inl (cI, 36, .inl C0)), (w, .inr (3, [.ref sk, .ref kd, .ref mo, .ref lv, .ref tc, .ref ts, .ref tl, .int (nI tn), .int rg, .long hp, .int (nI lw)])), (kd, .inl (cI, 36, .inl kf))] (fun ov oz => ov = none ∧ oz = [(o, .inr (0, [.ref ly, .ref bl, .ref cv, .ref hg, .ref fl, .ref of_, .ref nm, .int rt, .int rk, .int ct])), (ly, .inl (cM, 2, .inr (.inr (.inr (.inr (rr2 l0 l1)))))), (l0, .inl (cI, 36, .inl D)), (l1, .inl (cI, 36, .inl W)), (cv, .inl (cI, 36, .inl (s_cv kf D W C0))), (w, .inr (3, [.ref sk, .ref kd, .ref mo, .ref lv, .ref tc, .ref ts, .ref tl, .int (nI tn), .int rg, .long hp, .int (nI lw)])), (kd, .inl (cI, 36, .inl kf))] ∧ True) := by
  refine rM_ofV false (by intro h; cases h) rfl (Nat.le_of_ble_eq_true rfl) rfl (fun X C E => ?_)
  show X 0 0 [(o, .inr (0, [.ref ly, .ref bl, .ref cv, .ref hg, .ref fl, .ref of_, .ref nm, .int rt, .int rk, .int ct])), (ly, .inl (cM, 2, .inr (.inr (.inr (.inr (rr2 l0 l1)))))), (l0, .inl (cI, 36, .inl D)), (l1, .inl (cI, 36, .inl W)), (cv, .inl (cI, 36, .inl C0)), (w, .inr (3, [.ref sk, .ref kd, .ref mo, .ref lv, .ref tc, .ref ts, .ref tl, .int (nI tn), .int rg, .long hp, .int (nI lw)])), (kd, .inl (cI, 36, .inl kf))] [(0, .ref o), (1, .ref w)] 0 []
  refine x_iconst C dX0_cover_0 (v := 0) rfl ?_
  refine x_istore_n C dX0_cover_1 (by decide) (lv' := [(2, .int 0), (0, .ref o), (1, .ref w)]) rfl ?_
  have L2_0 : ∀ (fuel : Nat) (i : Nat) (g : Nat → Int32), (hi : i ≤ 36) → (hgg : ∀ j, g j = if j < i then s_cv kf D W C0 j else C0 j) → 36 - i < fuel → X 0 0 [(o, .inr (0, [.ref ly, .ref bl, .ref cv, .ref hg, .ref fl, .ref of_, .ref nm, .int rt, .int rk, .int ct])), (ly, .inl (cM, 2, .inr (.inr (.inr (.inr (rr2 l0 l1)))))), (l0, .inl (cI, 36, .inl D)), (l1, .inl (cI, 36, .inl W)), (cv, .inl (cI, 36, .inl g)), (w, .inr (3, [.ref sk, .ref kd, .ref mo, .ref lv, .ref tc, .ref ts, .ref tl, .int (nI tn), .int rg, .long hp, .int (nI lw)])), (kd, .inl (cI, 36, .inl kf))] [(2, .int (nI i)), (1, .ref w), (0, .ref o)] 2 [] := by
    intro fuel
    induction fuel with
    | zero => intros; omega
    | succ fuel ihL2_0 =>
      intro i g hi hgg hfu
      refine x_iload_n C dX0_cover_2 0 rfl ?_
      refine x_bipush C dX0_cover_3 (v := 36) rfl ?_
      refine x_icmp_ge C dX0_cover_5 (tgt := 46) rfl (fun c2 => ?_) (fun c2 => ?_)
      ·
        have c2 : i ≥ 36 := q_ge_t rfl (rfl : (36 : Int32) = nI 36) (by omega) (by omega) c2
        obtain rfl : i = 36 := by omega
        refine x_arr C 4 rfl (s_cv kf D W C0) (q_end hgg) ?_
        show X _ _ [(o, .inr (0, [.ref ly, .ref bl, .ref cv, .ref hg, .ref fl, .ref of_, .ref nm, .int rt, .int rk, .int ct])), (ly, .inl (cM, 2, .inr (.inr (.inr (.inr (rr2 l0 l1)))))), (l0, .inl (cI, 36, .inl D)), (l1, .inl (cI, 36, .inl W)), (cv, .inl (cI, 36, .inl (s_cv kf D W C0))), (w, .inr (3, [.ref sk, .ref kd, .ref mo, .ref lv, .ref tc, .ref ts, .ref tl, .int (nI tn), .int rg, .long hp, .int (nI lw)])), (kd, .inl (cI, 36, .inl kf))] _ _ _
        refine E dX0_cover_46 ?_
        exact ⟨rfl, rfl, by trivial⟩
      ·
        have c2 : i < 36 := q_ge_f rfl (rfl : (36 : Int32) = nI 36) (by omega) (by omega) c2
        refine x_aload_n C dX0_cover_8 1 rfl ?_
        refine x_getN C inlX4 rfl 1 (by decide) nw_X0_140 dX0_cover_9 5 rfl rfl ?_
        refine x_iload_n C dX0_cover_12 0 rfl ?_
        refine x_iaload C 0 rfl dX0_cover_13 i (q_cl rfl (by omega)) (q_ix rfl (by omega) (by omega)) 6 rfl ?_
        refine x_callS C (As := [.int (kf i)]) (st := []) (wc := []) (wr := [(o, .inr (0, [.ref ly, .ref bl, .ref cv, .ref hg, .ref fl, .ref of_, .ref nm, .int rt, .int rk, .int ct])), (ly, .inl (cM, 2, .inr (.inr (.inr (.inr (rr2 l0 l1)))))), (l0, .inl (cI, 36, .inl D)), (l1, .inl (cI, 36, .inl W)), (cv, .inl (cI, 36, .inl g)), (w, .inr (3, [.ref sk, .ref kd, .ref mo, .ref lv, .ref tc, .ref ts, .ref tl, .int (nI tn), .int rg, .long hp, .int (nI lw)])), (kd, .inl (cI, 36, .inl kf))]) (c_X2_suffers l dG cI cM cW cS (kf i) ) rZ0_ok (fun _ _ _ _ => trivial) kS_X0_155 hy_X2_suffers ⟨Nat.le_of_ble_eq_true rfl, Nat.le_of_ble_eq_true rfl⟩ ⟨Nat.le_of_ble_eq_true rfl, Nat.le_of_ble_eq_true rfl⟩ dX0_cover_14 [] [0, 1, 2, 3, 4, 5, 6] rfl rfl rfl rfl (by decide) rfl (Nat.le_of_ble_eq_true rfl) ?_
        intro v3 w4 h5
        rcases h5 with h5 | h5
        ·
          obtain ⟨rfl, rfl, hf6⟩ := h5
          show X 0 0 [(o, .inr (0, [.ref ly, .ref bl, .ref cv, .ref hg, .ref fl, .ref of_, .ref nm, .int rt, .int rk, .int ct])), (ly, .inl (cM, 2, .inr (.inr (.inr (.inr (rr2 l0 l1)))))), (l0, .inl (cI, 36, .inl D)), (l1, .inl (cI, 36, .inl W)), (cv, .inl (cI, 36, .inl g)), (w, .inr (3, [.ref sk, .ref kd, .ref mo, .ref lv, .ref tc, .ref ts, .ref tl, .int (nI tn), .int rg, .long hp, .int (nI lw)])), (kd, .inl (cI, 36, .inl kf))] [(2, .int (nI i)), (1, .ref w), (0, .ref o)] 17 [.int 1]
          refine x_if_eq C dX0_cover_17 (tgt := 40) rfl (fun q9 => absurd q9 (by decide)) (fun _ => ?_)
          refine x_aload_n C dX0_cover_20 2 rfl ?_
          refine x_iload_n C dX0_cover_21 0 rfl ?_
          refine x_callV C (As := [.int (nI i)]) (st := []) (wc := [(o, .inr (0, [.ref ly, .ref bl, .ref cv, .ref hg, .ref fl, .ref of_, .ref nm, .int rt, .int rk, .int ct])), (ly, .inl (cM, 2, .inr (.inr (.inr (.inr (rr2 l0 l1)))))), (l0, .inl (cI, 36, .inl D)), (l1, .inl (cI, 36, .inl W))]) (wr := [(cv, .inl (cI, 36, .inl g)), (w, .inr (3, [.ref sk, .ref kd, .ref mo, .ref lv, .ref tc, .ref ts, .ref tl, .int (nI tn), .int rg, .long hp, .int (nI lw)])), (kd, .inl (cI, 36, .inl kf))]) (c_X0_lyingIn l dG cI cM cW cS o ly l0 l1 bl 0 0 cv hg fl of_ nm rt rk ct D W i (by first | assumption | omega | decide)) rZ0_ok (fun _ _ _ _ => trivial) kV_X0_129 ⟨rfl, hy_X0_lyingIn⟩ ⟨Nat.le_of_ble_eq_true rfl, Nat.le_of_ble_eq_true rfl⟩ ⟨Nat.le_of_ble_eq_true rfl, Nat.le_of_ble_eq_true rfl⟩ dX0_cover_22 0 rfl rfl [0, 1, 2, 3] [4, 5, 6] rfl rfl rfl rfl (by decide) rfl (Nat.le_of_ble_eq_true rfl) ?_
          intro v7 w8 h9
          obtain ⟨_, rfl, rfl, rfl⟩ := h9
          show X 0 0 [(cv, .inl (cI, 36, .inl g)), (w, .inr (3, [.ref sk, .ref kd, .ref mo, .ref lv, .ref tc, .ref ts, .ref tl, .int (nI tn), .int rg, .long hp, .int (nI lw)])), (kd, .inl (cI, 36, .inl kf)), (o, .inr (0, [.ref ly, .ref bl, .ref cv, .ref hg, .ref fl, .ref of_, .ref nm, .int rt, .int rk, .int ct])), (ly, .inl (cM, 2, .inr (.inr (.inr (.inr (rr2 l0 l1)))))), (l0, .inl (cI, 36, .inl D)), (l1, .inl (cI, 36, .inl W))] [(2, .int (nI i)), (1, .ref w), (0, .ref o)] 25 [.int (D i + W i)]
          refine x_bipush C dX0_cover_25 (v := 20) rfl ?_
          refine x_icmp_lt C dX0_cover_27 (tgt := 40) rfl (fun c12 => ?_) (fun c12 => ?_)
          ·
            have h20 : ¬ 20 ≤ D i + W i := q_nle c12
            refine x_iinc C dX0_cover_40 0 rfl (v := nI (i + 1)) (nI_1 _) (by decide) (lv' := [(2, .int (nI (i + 1))), (1, .ref w), (0, .ref o)]) rfl ?_
            refine x_goto C dX0_cover_43 (tgt := 2) rfl ?_
            refine x_sub C [3, 4, 5, 6, 0, 1, 2] (ws' := [(o, .inr (0, [.ref ly, .ref bl, .ref cv, .ref hg, .ref fl, .ref of_, .ref nm, .int rt, .int rk, .int ct])), (ly, .inl (cM, 2, .inr (.inr (.inr (.inr (rr2 l0 l1)))))), (l0, .inl (cI, 36, .inl D)), (l1, .inl (cI, 36, .inl W)), (cv, .inl (cI, 36, .inl g)), (w, .inr (3, [.ref sk, .ref kd, .ref mo, .ref lv, .ref tc, .ref ts, .ref tl, .int (nI tn), .int rg, .long hp, .int (nI lw)])), (kd, .inl (cI, 36, .inl kf))]) rfl rfl ?_
            exact ihL2_0 (i + 1) g (by omega) (by first | exact q_up hgg (by rw [q_at hgg]; simp [s_cv, *]) | exact q_same hgg (by simp [s_cv, *])) (by omega)
          ·
            have h20 : 20 ≤ D i + W i := q_nlt c12
            refine x_aload_n C dX0_cover_30 2 rfl ?_
            refine x_get C inlX0 rfl 2 (by decide) gw_3_13 dX0_cover_31 3 rfl rfl ?_
            refine x_iload_n C dX0_cover_34 0 rfl ?_
            refine x_dup2 C dX0_cover_35 rfl rfl ?_
            refine x_iaload C 0 rfl dX0_cover_36 i (q_cl rfl (by omega)) (q_ix rfl (by omega) (by omega)) 0 rfl ?_
            refine x_iconst C dX0_cover_37 (v := 1) rfl ?_
            refine x_iadd C dX0_cover_38 ?_
            refine x_iastore C 0 rfl dX0_cover_39 i (q_cl rfl (by omega)) (q_ix rfl (by omega) (by omega)) 0 rfl ?_
            show X _ _ [(cv, .inl (cI, 36, .inl (upd g i ((g i) + 1)))), (w, .inr (3, [.ref sk, .ref kd, .ref mo, .ref lv, .ref tc, .ref ts, .ref tl, .int (nI tn), .int rg, .long hp, .int (nI lw)])), (kd, .inl (cI, 36, .inl kf)), (o, .inr (0, [.ref ly, .ref bl, .ref cv, .ref hg, .ref fl, .ref of_, .ref nm, .int rt, .int rk, .int ct])), (ly, .inl (cM, 2, .inr (.inr (.inr (.inr (rr2 l0 l1)))))), (l0, .inl (cI, 36, .inl D)), (l1, .inl (cI, 36, .inl W))] _ _ _
            refine x_iinc C dX0_cover_40 0 rfl (v := nI (i + 1)) (nI_1 _) (by decide) (lv' := [(2, .int (nI (i + 1))), (1, .ref w), (0, .ref o)]) rfl ?_
            refine x_goto C dX0_cover_43 (tgt := 2) rfl ?_
            refine x_sub C [3, 4, 5, 6, 0, 1, 2] (ws' := [(o, .inr (0, [.ref ly, .ref bl, .ref cv, .ref hg, .ref fl, .ref of_, .ref nm, .int rt, .int rk, .int ct])), (ly, .inl (cM, 2, .inr (.inr (.inr (.inr (rr2 l0 l1)))))), (l0, .inl (cI, 36, .inl D)), (l1, .inl (cI, 36, .inl W)), (cv, .inl (cI, 36, .inl (upd g i ((g i) + 1)))), (w, .inr (3, [.ref sk, .ref kd, .ref mo, .ref lv, .ref tc, .ref ts, .ref tl, .int (nI tn), .int rg, .long hp, .int (nI lw)])), (kd, .inl (cI, 36, .inl kf))]) rfl rfl ?_
            exact ihL2_0 (i + 1) (upd g i ((g i) + 1)) (by omega) (by first | exact q_up hgg (by rw [q_at hgg]; simp [s_cv, *]) | exact q_same hgg (by simp [s_cv, *])) (by omega)
        ·
          obtain ⟨rfl, rfl, hf13⟩ := h5
          show X 0 0 [(o, .inr (0, [.ref ly, .ref bl, .ref cv, .ref hg, .ref fl, .ref of_, .ref nm, .int rt, .int rk, .int ct])), (ly, .inl (cM, 2, .inr (.inr (.inr (.inr (rr2 l0 l1)))))), (l0, .inl (cI, 36, .inl D)), (l1, .inl (cI, 36, .inl W)), (cv, .inl (cI, 36, .inl g)), (w, .inr (3, [.ref sk, .ref kd, .ref mo, .ref lv, .ref tc, .ref ts, .ref tl, .int (nI tn), .int rg, .long hp, .int (nI lw)])), (kd, .inl (cI, 36, .inl kf))] [(2, .int (nI i)), (1, .ref w), (0, .ref o)] 17 [.int 0]
          refine x_if_eq C dX0_cover_17 (tgt := 40) rfl (fun _ => ?_) (fun q9 => by first | exact absurd q9 (by decide) | exact absurd (by decide) q9)
          refine x_iinc C dX0_cover_40 0 rfl (v := nI (i + 1)) (nI_1 _) (by decide) (lv' := [(2, .int (nI (i + 1))), (1, .ref w), (0, .ref o)]) rfl ?_
          refine x_goto C dX0_cover_43 (tgt := 2) rfl ?_
          exact ihL2_0 (i + 1) g (by omega) (by first | exact q_up hgg (by rw [q_at hgg]; simp [s_cv, *]) | exact q_same hgg (by simp [s_cv, *])) (by omega)
  refine x_lv C [0, 2, 1] (lv' := [(2, .int 0), (1, .ref w), (0, .ref o)]) rfl ?_
  show X 0 0 [(o, .inr (0, [.ref ly, .ref bl, .ref cv, .ref hg, .ref fl, .ref of_, .ref nm, .int rt, .int rk, .int ct])), (ly, .inl (cM, 2, .inr (.inr (.inr (.inr (rr2 l0 l1)))))), (l0, .inl (cI, 36, .inl D)), (l1, .inl (cI, 36, .inl W)), (cv, .inl (cI, 36, .inl C0)), (w, .inr (3, [.ref sk, .ref kd, .ref mo, .ref lv, .ref tc, .ref ts, .ref tl, .int (nI tn), .int rg, .long hp, .int (nI lw)])), (kd, .inl (cI, 36, .inl kf))] [(2, .int (nI 0)), (1, .ref w), (0, .ref o)] 2 []
  exact L2_0 ((36 - 0) + 1) 0 C0 (by omega) (q_0) (Nat.lt_succ_self _)
