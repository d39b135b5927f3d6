set_option maxHeartbeats 4000000 in
set_option maxRecDepth 100000 in
theorem c_J0_coder_7d493 (l : Launch) (dG : va_G) (cI cM cW cS : ClassId) (adK adV : Nat → Nat) (fm : Option Nat) (i : Nat)  (hi : i < 15) : rM l yJ0_coder_7d493 cJ0_coder_7d493 1 (some .byte) ({ frames := 0, cells := 0, slots := 0, locals := 0 } : Room) dG (tY cI cM cW cS) (rZs adK adV fm) [.ref (adK i)] [] (fun ov oz => ov = some (.int 0) ∧ oz = [] ∧ True) := by
  refine rM_ofI rfl (Nat.le_of_ble_eq_true rfl) rfl (fun X C E => ?_)
  show X 0 0 [] [(0, .ref (adK i))] 0 []
  refine x_scs C gw_4_23 dJ0_coder_7d493_0 ?_
  refine x_if_eq C dJ0_coder_7d493_3 (tgt := 13) rfl (fun q9 => absurd q9 (by decide)) (fun _ => ?_)
  refine x_aload_n C dJ0_coder_7d493_6 0 rfl ?_
  refine x_scod C (by first | assumption | decide) gw_5_0 dJ0_coder_7d493_7 ?_
  refine x_goto C dJ0_coder_7d493_10 (tgt := 14) rfl ?_
  refine E dJ0_coder_7d493_14 (rfl) ?_
  exact ⟨rfl, rfl, by trivial⟩
set_option maxHeartbeats 4000000 in
set_option maxRecDepth 100000 in
theorem c_J0_isLatin1_aae02 (l : Launch) (dG : va_G) (cI cM cW cS : ClassId) (adK adV : Nat → Nat) (fm : Option Nat) (i : Nat)  (hi : i < 15) : rM l yJ0_isLatin1_aae02 cJ0_isLatin1_aae02 1 (some .boolean) ({ frames := 0, cells := 0, slots := 0, locals := 0 } : Room) dG (tY cI cM cW cS) (rZs adK adV fm) [.ref (adK i)] [] (fun ov oz => ov = some (.int 1) ∧ oz = [] ∧ True) := by
  refine rM_ofI rfl (Nat.le_of_ble_eq_true rfl) rfl (fun X C E => ?_)
  show X 0 0 [] [(0, .ref (adK i))] 0 []
  refine x_scs C gw_4_23 dJ0_isLatin1_aae02_0 ?_
  refine x_if_eq C dJ0_isLatin1_aae02_3 (tgt := 17) rfl (fun q9 => absurd q9 (by decide)) (fun _ => ?_)
  refine x_aload_n C dJ0_isLatin1_aae02_6 0 rfl ?_
  refine x_scod C (by first | assumption | decide) gw_5_0 dJ0_isLatin1_aae02_7 ?_
  refine x_if_ne C dJ0_isLatin1_aae02_10 (tgt := 17) rfl (fun q9 => absurd q9 (by decide)) (fun _ => ?_)
  refine x_iconst C dJ0_isLatin1_aae02_13 (v := 1) rfl ?_
  refine x_goto C dJ0_isLatin1_aae02_14 (tgt := 18) rfl ?_
  refine E dJ0_isLatin1_aae02_18 (rfl) ?_
  exact ⟨rfl, rfl, by trivial⟩
theorem kV_J0_335 : GoodIn GW (wsV RJ0 335 yJ0_coder_7d493.cls yJ0_coder_7d493 (Cond.code yJ0_coder_7d493 cJ0_coder_7d493 1 (some .byte) :: GW)) := r_gV gw_4_19 gw_4_20 gw_4_21 gw_4_16 gw_4_22
theorem hy_J0_coder_7d493 : yJ0_coder_7d493.cls ≠ "java/lang/invoke/MethodHandle" ∧ yJ0_coder_7d493.cls ≠ "java/lang/invoke/VarHandle" ∧ (parseMethodDescriptor yJ0_coder_7d493.desc).map (fun d => d.parameters.length) = some 0 := ⟨by decide +kernel, by decide +kernel, by decide +kernel⟩
set_option maxHeartbeats 4000000 in
set_option maxRecDepth 100000 in
theorem c_J0_length_8abf5 (l : Launch) (dG : va_G) (cI cM cW cS : ClassId) (adK adV : Nat → Nat) (fm : Option Nat) (i : Nat)  (hi : i < 15) : rM l yJ0_length_8abf5 cJ0_length_8abf5 1 (some .int) ({ frames := 1, cells := 0, slots := 0, locals := 20 } : Room) dG (tY cI cM cW cS) (rZs adK adV fm) [.ref (adK i)] [] (fun ov oz => ov = some (.int (nI (zlen i))) ∧ oz = [] ∧ True) := by
  refine rM_ofI rfl (Nat.le_of_ble_eq_true rfl) rfl (fun X C E => ?_)
  show X 0 0 [] [(0, .ref (adK i))] 0 []
  refine x_aload_n C dJ0_length_8abf5_0 0 rfl ?_
  refine x_sval C (by first | assumption | decide) gw_4_18 dJ0_length_8abf5_1 ?_
  refine x_salen C (by first | assumption | decide) dJ0_length_8abf5_4 ?_
  refine x_aload_n C dJ0_length_8abf5_5 0 rfl ?_
  refine x_callVs C (As := []) (st := [.int (nI (zlen i))]) (wr := []) (c_J0_coder_7d493 l dG cI cM cW cS adK adV fm i (by first | assumption | omega | decide)) (by first | assumption | decide) rfl kV_J0_335 ⟨rfl, hy_J0_coder_7d493⟩ ⟨Nat.le_of_ble_eq_true rfl, Nat.le_of_ble_eq_true rfl⟩ ⟨Nat.le_of_ble_eq_true rfl, Nat.le_of_ble_eq_true rfl⟩ dJ0_length_8abf5_6 [] rfl rfl rfl (Nat.le_of_ble_eq_true rfl) ?_
  intro v1 w2 h3
  obtain ⟨rfl, rfl, hf4⟩ := h3
  show X 0 0 [] [(0, .ref (adK i))] 9 [.int 0, .int (nI (zlen i))]
  refine x_ishr C dJ0_length_8abf5_9 ?_
  refine x_topi C (nI (zlen i)) q_sh0 ?_
  refine E dJ0_length_8abf5_10 (rfl) ?_
  exact ⟨rfl, rfl, by trivial⟩
set_option maxHeartbeats 4000000 in
set_option maxRecDepth 100000 in
theorem c_J3_checkIndex_8e157_r (l : Launch) (dG : va_G) (cI cM cW cS : ClassId) (k n : Nat) (z9 : Nat) (hk : k < n) (hn : n < 2 ^ 31) : rM l yJ3_checkIndex_8e157 cJ3_checkIndex_8e157 3 (some .int) ({ frames := 0, cells := 0, slots := 0, locals := 0 } : Room) dG (tY cI cM cW cS) rZ0 [.int (nI k), .int (nI n), .ref z9] [] (fun ov oz => ov = some (.int (nI k)) ∧ oz = [] ∧ True) := by
  refine rM_ofI rfl (Nat.le_of_ble_eq_true rfl) rfl (fun X C E => ?_)
  show X 0 0 [] [(0, .int (nI k)), (1, .int (nI n)), (2, .ref z9)] 0 []
  refine x_iload_n C dJ3_checkIndex_8e157_0 0 rfl ?_
  refine x_if_lt C dJ3_checkIndex_8e157_1 (tgt := 9) rfl (fun c1 => ?_) (fun c1 => ?_)
  ·
    exact absurd c1 (nI_pos (by omega))
  ·
    refine x_iload_n C dJ3_checkIndex_8e157_4 0 rfl ?_
    refine x_iload_n C dJ3_checkIndex_8e157_5 1 rfl ?_
    refine x_icmp_lt C dJ3_checkIndex_8e157_6 (tgt := 16) rfl (fun c2 => ?_) (fun c2 => ?_)
    ·
      have c2 : k < n := q_lt_t rfl rfl (by omega) (by omega) c2
      refine x_iload_n C dJ3_checkIndex_8e157_16 0 rfl ?_
      refine E dJ3_checkIndex_8e157_17 (rfl) ?_
      exact ⟨rfl, rfl, by trivial⟩
    ·
      have c2 : k ≥ n := q_lt_f rfl rfl (by omega) (by omega) c2
      exfalso; omega
set_option maxHeartbeats 4000000 in
set_option maxRecDepth 100000 in
theorem c_J3_checkIndex_8e157_n (l : Launch) (dG : va_G) (cI cM cW cS : ClassId) (k n : Nat)  (hk : k < n) (hn : n < 2 ^ 31) : rM l yJ3_checkIndex_8e157 cJ3_checkIndex_8e157 3 (some .int) ({ frames := 0, cells := 0, slots := 0, locals := 0 } : Room) dG (tY cI cM cW cS) rZ0 [.int (nI k), .int (nI n), .null] [] (fun ov oz => ov = some (.int (nI k)) ∧ oz = [] ∧ True) := by
  refine rM_ofI rfl (Nat.le_of_ble_eq_true rfl) rfl (fun X C E => ?_)
  show X 0 0 [] [(0, .int (nI k)), (1, .int (nI n)), (2, .null)] 0 []
  refine x_iload_n C dJ3_checkIndex_8e157_0 0 rfl ?_
  refine x_if_lt C dJ3_checkIndex_8e157_1 (tgt := 9) rfl (fun c1 => ?_) (fun c1 => ?_)
  ·
    exact absurd c1 (nI_pos (by omega))
  ·
    refine x_iload_n C dJ3_checkIndex_8e157_4 0 rfl ?_
    refine x_iload_n C dJ3_checkIndex_8e157_5 1 rfl ?_
    refine x_icmp_lt C dJ3_checkIndex_8e157_6 (tgt := 16) rfl (fun c2 => ?_) (fun c2 => ?_)
    ·
      have c2 : k < n := q_lt_t rfl rfl (by omega) (by omega) c2
      refine x_iload_n C dJ3_checkIndex_8e157_16 0 rfl ?_
      refine E dJ3_checkIndex_8e157_17 (rfl) ?_
      exact ⟨rfl, rfl, by trivial⟩
    ·
      have c2 : k ≥ n := q_lt_f rfl rfl (by omega) (by omega) c2
      exfalso; omega
theorem kS_J0_1059 : GoodIn GW (va_wsS RJ0 1059 yJ3_checkIndex_8e157 (Cond.code yJ3_checkIndex_8e157 cJ3_checkIndex_8e157 3 (some .int) :: GW)) := r_gS gw_5_17 gw_5_18 gw_5_19 gw_5_20
theorem hy_J3_checkIndex_8e157 : yJ3_checkIndex_8e157.cls ≠ "java/lang/invoke/MethodHandle" ∧ yJ3_checkIndex_8e157.cls ≠ "java/lang/invoke/VarHandle" ∧ (parseMethodDescriptor yJ3_checkIndex_8e157.desc).map (fun d => d.parameters.length) = some 3 := ⟨by decide +kernel, by decide +kernel, by decide +kernel⟩
set_option maxHeartbeats 4000000 in
set_option maxRecDepth 100000 in
theorem c_J0_checkIndex_df160 (l : Launch) (dG : va_G) (cI cM cW cS : ClassId) (adK adV : Nat → Nat) (fm : Option Nat) (k n : Nat)  (hk : k < n) (hn : n < 2 ^ 31) : rM l yJ0_checkIndex_df160 cJ0_checkIndex_df160 2 none ({ frames := 1, cells := 0, slots := 0, locals := 22 } : Room) dG (tY cI cM cW cS) (rZs adK adV fm) [.int (nI k), .int (nI n)] [] (fun ov oz => ov = none ∧ oz = [] ∧ True) := by
  refine rM_ofV false (by intro h; cases h) rfl (Nat.le_of_ble_eq_true rfl) rfl (fun X C E => ?_)
  show X 0 0 [] [(0, .int (nI k)), (1, .int (nI n))] 0 []
  refine x_iload_n C dJ0_checkIndex_df160_0 0 rfl ?_
  refine x_iload_n C dJ0_checkIndex_df160_1 1 rfl ?_
  refine x_sfm C gw_5_16 dJ0_checkIndex_df160_2 ?_
  rcases fm with _ | z9
  ·
    show X 0 0 [] [(0, .int (nI k)), (1, .int (nI n))] 5 [.null, .int (nI n), .int (nI k)]
    refine x_callS C (As := [.int (nI k), .int (nI n), .null]) (st := []) (wc := []) (wr := []) (c_J3_checkIndex_8e157_n l dG cI cM cW cS k n (by first | assumption | omega | decide) (by first | assumption | omega | decide)) rZ0_ok (fun _ _ _ _ => trivial) kS_J0_1059 hy_J3_checkIndex_8e157 ⟨Nat.le_of_ble_eq_true rfl, Nat.le_of_ble_eq_true rfl⟩ ⟨Nat.le_of_ble_eq_true rfl, Nat.le_of_ble_eq_true rfl⟩ dJ0_checkIndex_df160_5 [] [] rfl rfl rfl rfl (by decide) rfl (Nat.le_of_ble_eq_true rfl) ?_
    intro v1 w2 h3
    obtain ⟨rfl, rfl, hf4⟩ := h3
    show X 0 0 [] [(0, .int (nI k)), (1, .int (nI n))] 8 [.int (nI k)]
    refine x_pop C dJ0_checkIndex_df160_8 rfl ?_
    refine E dJ0_checkIndex_df160_9 ?_
    exact ⟨rfl, rfl, by trivial⟩
  ·
    show X 0 0 [] [(0, .int (nI k)), (1, .int (nI n))] 5 [.ref z9, .int (nI n), .int (nI k)]
    refine x_callS C (As := [.int (nI k), .int (nI n), .ref z9]) (st := []) (wc := []) (wr := []) (c_J3_checkIndex_8e157_r l dG cI cM cW cS k n z9 (by first | assumption | omega | decide) (by first | assumption | omega | decide)) rZ0_ok (fun _ _ _ _ => trivial) kS_J0_1059 hy_J3_checkIndex_8e157 ⟨Nat.le_of_ble_eq_true rfl, Nat.le_of_ble_eq_true rfl⟩ ⟨Nat.le_of_ble_eq_true rfl, Nat.le_of_ble_eq_true rfl⟩ dJ0_checkIndex_df160_5 [] [] rfl rfl rfl rfl (by decide) rfl (Nat.le_of_ble_eq_true rfl) ?_
    intro v5 w6 h7
    obtain ⟨rfl, rfl, hf8⟩ := h7
    show X 0 0 [] [(0, .int (nI k)), (1, .int (nI n))] 8 [.int (nI k)]
    refine x_pop C dJ0_checkIndex_df160_8 rfl ?_
    refine E dJ0_checkIndex_df160_9 ?_
    exact ⟨rfl, rfl, by trivial⟩
theorem kS_J1_9 : GoodIn GW (va_wsS RJ1 9 yJ0_checkIndex_df160 (Cond.code yJ0_checkIndex_df160 cJ0_checkIndex_df160 2 none :: GW)) := r_gS gw_5_13 gw_5_14 gw_4_16 gw_5_15
theorem hy_J0_checkIndex_df160 : yJ0_checkIndex_df160.cls ≠ "java/lang/invoke/MethodHandle" ∧ yJ0_checkIndex_df160.cls ≠ "java/lang/invoke/VarHandle" ∧ (parseMethodDescriptor yJ0_checkIndex_df160.desc).map (fun d => d.parameters.length) = some 2 := ⟨by decide +kernel, by decide +kernel, by decide +kernel⟩
set_option maxHeartbeats 4000000 in
set_option maxRecDepth 100000 in
theorem c_J1_charAt_3b067 (l : Launch) (dG : va_G) (cI cM cW cS : ClassId) (adK adV : Nat → Nat) (fm : Option Nat) (i : Nat) (k : Nat) (hi : i < 15) (hk : k < zlen i) : rM l yJ1_charAt_3b067 cJ1_charAt_3b067 2 (some .char) ({ frames := 2, cells := 0, slots := 0, locals := 43 } : Room) dG (tY cI cM cW cS) (rZs adK adV fm) [.ref (adV i), .int (nI k)] [] (fun ov oz => ov = some (.int (zbyt i k)) ∧ oz = [] ∧ True) := by
  refine rM_ofI rfl (Nat.le_of_ble_eq_true rfl) rfl (fun X C E => ?_)
  show X 0 0 [] [(0, .ref (adV i)), (1, .int (nI k))] 0 []
  have hzl := z_len i hi
  refine x_iload_n C dJ1_charAt_3b067_0 1 rfl ?_
  refine x_aload_n C dJ1_charAt_3b067_1 0 rfl ?_
  refine x_salen C (by first | assumption | decide) dJ1_charAt_3b067_2 ?_
  refine x_callS C (As := [.int (nI k), .int (nI (zlen i))]) (st := []) (wc := []) (wr := []) (c_J0_checkIndex_df160 l dG cI cM cW cS adK adV fm k (zlen i) (by first | assumption | omega | decide) (by first | assumption | omega | decide)) (rZs_ok adK adV fm) (fun _ _ _ h9 => h9) kS_J1_9 hy_J0_checkIndex_df160 ⟨Nat.le_of_ble_eq_true rfl, Nat.le_of_ble_eq_true rfl⟩ ⟨Nat.le_of_ble_eq_true rfl, Nat.le_of_ble_eq_true rfl⟩ dJ1_charAt_3b067_3 [] [] rfl rfl rfl rfl (by decide) rfl (Nat.le_of_ble_eq_true rfl) ?_
  intro v1 w2 h3
  obtain ⟨rfl, rfl, hf4⟩ := h3
  show X 0 0 [] [(0, .ref (adV i)), (1, .int (nI k))] 6 []
  refine x_aload_n C dJ1_charAt_3b067_6 0 rfl ?_
  refine x_iload_n C dJ1_charAt_3b067_7 1 rfl ?_
  refine x_sbald C (j := k) (by first | assumption | decide) (by first | assumption | omega) dJ1_charAt_3b067_8 ?_
  refine x_sipush C dJ1_charAt_3b067_9 (v := 255) rfl ?_
  refine x_iand C dJ1_charAt_3b067_12 ?_
  refine x_i2c C (zbyt i k) dJ1_charAt_3b067_13 (z_chr i hi k hk).1 ?_
  show X _ _ _ _ 14 _
  refine E dJ1_charAt_3b067_14 (congrArg Value.int (z_chr i hi k hk).2) ?_
  exact ⟨rfl, rfl, by trivial⟩
theorem kV_J0_492 : GoodIn GW (wsV RJ0 492 yJ0_isLatin1_aae02.cls yJ0_isLatin1_aae02 (Cond.code yJ0_isLatin1_aae02 cJ0_isLatin1_aae02 1 (some .boolean) :: GW)) := r_gV gw_5_5 gw_5_6 gw_5_7 gw_4_16 gw_5_8
theorem hy_J0_isLatin1_aae02 : yJ0_isLatin1_aae02.cls ≠ "java/lang/invoke/MethodHandle" ∧ yJ0_isLatin1_aae02.cls ≠ "java/lang/invoke/VarHandle" ∧ (parseMethodDescriptor yJ0_isLatin1_aae02.desc).map (fun d => d.parameters.length) = some 0 := ⟨by decide +kernel, by decide +kernel, by decide +kernel⟩
theorem kS_J0_495 : GoodIn GW (va_wsS RJ0 495 yJ1_charAt_3b067 (Cond.code yJ1_charAt_3b067 cJ1_charAt_3b067 2 (some .char) :: GW)) := r_gS gw_5_9 gw_5_10 gw_5_11 gw_5_12
theorem hy_J1_charAt_3b067 : yJ1_charAt_3b067.cls ≠ "java/lang/invoke/MethodHandle" ∧ yJ1_charAt_3b067.cls ≠ "java/lang/invoke/VarHandle" ∧ (parseMethodDescriptor yJ1_charAt_3b067.desc).map (fun d => d.parameters.length) = some 2 := ⟨by decide +kernel, by decide +kernel, by decide +kernel⟩
set_option maxHeartbeats 4000000 in
set_option maxRecDepth 100000 in
theorem c_J0_charAt_5068e (l : Launch) (dG : va_G) (cI cM cW cS : ClassId) (adK adV : Nat → Nat) (fm : Option Nat) (i : Nat) (k : Nat) (hi : i < 15) (hk : k < zlen i) : rM l yJ0_charAt_5068e cJ0_charAt_5068e 2 (some .char) ({ frames := 3, cells := 0, slots := 0, locals := 64 } : Room) dG (tY cI cM cW cS) (rZs adK adV fm) [.ref (adK i), .int (nI k)] [] (fun ov oz => ov = some (.int (zbyt i k)) ∧ oz = [] ∧ True) := by
  refine rM_ofI rfl (Nat.le_of_ble_eq_true rfl) rfl (fun X C E => ?_)
  show X 0 0 [] [(0, .ref (adK i)), (1, .int (nI k))] 0 []
  refine x_aload_n C dJ0_charAt_5068e_0 0 rfl ?_
  refine x_callVs C (As := []) (st := []) (wr := []) (c_J0_isLatin1_aae02 l dG cI cM cW cS adK adV fm i (by first | assumption | omega | decide)) (by first | assumption | decide) rfl kV_J0_492 ⟨rfl, hy_J0_isLatin1_aae02⟩ ⟨Nat.le_of_ble_eq_true rfl, Nat.le_of_ble_eq_true rfl⟩ ⟨Nat.le_of_ble_eq_true rfl, Nat.le_of_ble_eq_true rfl⟩ dJ0_charAt_5068e_1 [] rfl rfl rfl (Nat.le_of_ble_eq_true rfl) ?_
  intro v1 w2 h3
  obtain ⟨rfl, rfl, hf4⟩ := h3
  show X 0 0 [] [(0, .ref (adK i)), (1, .int (nI k))] 4 [.int 1]
  refine x_if_eq C dJ0_charAt_5068e_4 (tgt := 16) rfl (fun q9 => absurd q9 (by decide)) (fun _ => ?_)
  refine x_aload_n C dJ0_charAt_5068e_7 0 rfl ?_
  refine x_sval C (by first | assumption | decide) gw_4_18 dJ0_charAt_5068e_8 ?_
  refine x_iload_n C dJ0_charAt_5068e_11 1 rfl ?_
  refine x_callS C (As := [.ref (adV i), .int (nI k)]) (st := []) (wc := []) (wr := []) (c_J1_charAt_3b067 l dG cI cM cW cS adK adV fm i k (by first | assumption | omega | decide) (by first | assumption | omega | decide)) (rZs_ok adK adV fm) (fun _ _ _ h9 => h9) kS_J0_495 hy_J1_charAt_3b067 ⟨Nat.le_of_ble_eq_true rfl, Nat.le_of_ble_eq_true rfl⟩ ⟨Nat.le_of_ble_eq_true rfl, Nat.le_of_ble_eq_true rfl⟩ dJ0_charAt_5068e_12 [] [] rfl rfl rfl rfl (by decide) rfl (Nat.le_of_ble_eq_true rfl) ?_
  intro v5 w6 h7
  obtain ⟨rfl, rfl, hf8⟩ := h7
  show X 0 0 [] [(0, .ref (adK i)), (1, .int (nI k))] 15 [.int (zbyt i k)]
  refine E dJ0_charAt_5068e_15 (congrArg Value.int (z_chr i hi k hk).2) ?_
  exact ⟨rfl, rfl, by trivial⟩
