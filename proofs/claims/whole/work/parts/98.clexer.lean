set_option maxHeartbeats 4000000 in
set_option maxRecDepth 100000 in
theorem c_X5_isDigit (l : Launch) (dG : va_G) (cI cM cW cS : ClassId) (b : Int32) : rM l yX5_isDigit cX5_isDigit 1 (some .boolean) ({ frames := 0, cells := 0, slots := 0, locals := 0 } : Room) dG (tY cI cM cW cS) rZ0 [.int b] [] (fun ov oz => (ov = some (.int 1) ∧ oz = [] ∧ p_dg b = true) ∨ (ov = some (.int 0) ∧ oz = [] ∧ ¬ p_dg b = true)) := by
  refine rM_ofI rfl (Nat.le_of_ble_eq_true rfl) rfl (fun X C E => ?_)
  show X 0 0 [] [(0, .int b)] 0 []
  refine x_iload_n C dX5_isDigit_0 0 rfl ?_
  refine x_bipush C dX5_isDigit_1 (v := 48) rfl ?_
  refine x_icmp_lt C dX5_isDigit_3 (tgt := 16) rfl (fun c1 => ?_) (fun c1 => ?_)
  ·
    have hA := c1
    refine x_iconst C dX5_isDigit_16 (v := 0) rfl ?_
    refine E dX5_isDigit_17 (rfl) ?_
    exact Or.inr (⟨rfl, rfl, by unfold p_dg; intro h9; first | exact absurd (of_decide_eq_true h9).1 (Int32.not_le.mpr hA) | exact absurd (of_decide_eq_true h9).2 (Int32.not_le.mpr hB)⟩)
  ·
    have hA := c1
    refine x_iload_n C dX5_isDigit_6 0 rfl ?_
    refine x_bipush C dX5_isDigit_7 (v := 57) rfl ?_
    refine x_icmp_gt C dX5_isDigit_9 (tgt := 16) rfl (fun c2 => ?_) (fun c2 => ?_)
    ·
      have hB := c2
      refine x_iconst C dX5_isDigit_16 (v := 0) rfl ?_
      refine E dX5_isDigit_17 (rfl) ?_
      exact Or.inr (⟨rfl, rfl, by unfold p_dg; intro h9; first | exact absurd (of_decide_eq_true h9).1 (Int32.not_le.mpr hA) | exact absurd (of_decide_eq_true h9).2 (Int32.not_le.mpr hB)⟩)
    ·
      have hB := c2
      refine x_iconst C dX5_isDigit_12 (v := 1) rfl ?_
      refine x_goto C dX5_isDigit_13 (tgt := 17) rfl ?_
      refine E dX5_isDigit_17 (rfl) ?_
      exact Or.inl ⟨rfl, rfl, by unfold p_dg; exact decide_eq_true ⟨Int32.not_lt.mp hA, Int32.not_lt.mp hB⟩⟩
set_option maxHeartbeats 4000000 in
set_option maxRecDepth 100000 in
theorem c_X5_isLetter (l : Launch) (dG : va_G) (cI cM cW cS : ClassId) (b : Int32) : rM l yX5_isLetter cX5_isLetter 1 (some .boolean) ({ frames := 0, cells := 0, slots := 0, locals := 0 } : Room) dG (tY cI cM cW cS) rZ0 [.int b] [] (fun ov oz => (ov = some (.int 1) ∧ oz = [] ∧ p_le b = true) ∨ (ov = some (.int 0) ∧ oz = [] ∧ ¬ p_le b = true)) := by
  refine rM_ofI rfl (Nat.le_of_ble_eq_true rfl) rfl (fun X C E => ?_)
  show X 0 0 [] [(0, .int b)] 0 []
  refine x_iload_n C dX5_isLetter_0 0 rfl ?_
  refine x_bipush C dX5_isLetter_1 (v := 97) rfl ?_
  refine x_icmp_lt C dX5_isLetter_3 (tgt := 16) rfl (fun c1 => ?_) (fun c1 => ?_)
  ·
    have hA := c1
    refine x_iconst C dX5_isLetter_16 (v := 0) rfl ?_
    refine E dX5_isLetter_17 (rfl) ?_
    exact Or.inr (⟨rfl, rfl, by unfold p_le; intro h9; first | exact absurd (of_decide_eq_true h9).1 (Int32.not_le.mpr hA) | exact absurd (of_decide_eq_true h9).2 (Int32.not_le.mpr hB)⟩)
  ·
    have hA := c1
    refine x_iload_n C dX5_isLetter_6 0 rfl ?_
    refine x_bipush C dX5_isLetter_7 (v := 122) rfl ?_
    refine x_icmp_gt C dX5_isLetter_9 (tgt := 16) rfl (fun c2 => ?_) (fun c2 => ?_)
    ·
      have hB := c2
      refine x_iconst C dX5_isLetter_16 (v := 0) rfl ?_
      refine E dX5_isLetter_17 (rfl) ?_
      exact Or.inr (⟨rfl, rfl, by unfold p_le; intro h9; first | exact absurd (of_decide_eq_true h9).1 (Int32.not_le.mpr hA) | exact absurd (of_decide_eq_true h9).2 (Int32.not_le.mpr hB)⟩)
    ·
      have hB := c2
      refine x_iconst C dX5_isLetter_12 (v := 1) rfl ?_
      refine x_goto C dX5_isLetter_13 (tgt := 17) rfl ?_
      refine E dX5_isLetter_17 (rfl) ?_
      exact Or.inl ⟨rfl, rfl, by unfold p_le; exact decide_eq_true ⟨Int32.not_lt.mp hA, Int32.not_lt.mp hB⟩⟩
theorem kS_X5_84 : GoodIn GW (va_wsS RX5 84 yX5_isDigit (Cond.code yX5_isDigit cX5_isDigit 1 (some .boolean) :: GW)) := r_gS gw_7_13 gw_7_14 gw_2_5 gw_7_15
theorem hy_X5_isDigit : yX5_isDigit.cls ≠ "java/lang/invoke/MethodHandle" ∧ yX5_isDigit.cls ≠ "java/lang/invoke/VarHandle" ∧ (parseMethodDescriptor yX5_isDigit.desc).map (fun d => d.parameters.length) = some 1 := ⟨by decide +kernel, by decide +kernel, by decide +kernel⟩
set_option maxHeartbeats 4000000 in
set_option maxRecDepth 100000 in
theorem c_X5_advanceNumber (l : Launch) (dG : va_G) (cI cM cW cS : ClassId) (rd rta rlw n : Nat) (tp : Nat → Int32) (q : Nat) (rtk rva rfa : Int32)  (hq : q ≤ n) (hn : n ≤ 160) : rM l yX5_advanceNumber cX5_advanceNumber 1 none ({ frames := 1, cells := 0, slots := 0, locals := 20 } : Room) dG (tY cI cM cW cS) rZ0 [.ref rd] [(rd, .inr (4, [.ref rta, .int (nI n), .int (nI q), .int rtk, .int (nI q), .int rva, .int rfa, .ref rlw])), (rta, .inl (cI, 160, .inl tp))] (fun ov oz => ∃ (at' : Nat) (tk' : Int32) (v' : Int32), ov = none ∧ oz = [(rd, .inr (4, [.ref rta, .int (nI n), .int (nI at'), .int tk', .int (nI q), .int v', .int rfa, .ref rlw])), (rta, .inl (cI, 160, .inl tp))] ∧ at' = p_sk p_dg tp n q ∧ tk' = (if 4 < p_sk p_dg tp n q - q then 1 else 2) ∧ v' = p_num tp q (p_sk p_dg tp n q - q)) := by
  refine rM_ofV false (by intro h; cases h) rfl (Nat.le_of_ble_eq_true rfl) rfl (fun X C E => ?_)
  show X 0 0 [(rd, .inr (4, [.ref rta, .int (nI n), .int (nI q), .int rtk, .int (nI q), .int rva, .int rfa, .ref rlw])), (rta, .inl (cI, 160, .inl tp))] [(0, .ref rd)] 0 []
  refine x_aload_n C dX5_advanceNumber_0 0 rfl ?_
  refine x_iconst C dX5_advanceNumber_1 (v := 0) rfl ?_
  refine x_put C inlX5 rfl tyX5 tyX5_ok nmX5 5 (by decide) gw_7_20 rfl dX5_advanceNumber_2 0 rfl (rfl) rfl (Nat.le_of_ble_eq_true rfl) ?_
  show X _ _ [(rd, .inr (4, [.ref rta, .int (nI n), .int (nI q), .int rtk, .int (nI q), .int 0, .int rfa, .ref rlw])), (rta, .inl (cI, 160, .inl tp))] _ _ _
  have L5_0 : ∀ (fuel : Nat) (k : Nat) (v9 : Int32), (hk : q + k ≤ n) → (hv9 : v9 = p_num tp q k) → (hs9 : p_sk p_dg tp n (q + k) = p_sk p_dg tp n q) → n - (q + k) < fuel → X 0 0 [(rd, .inr (4, [.ref rta, .int (nI n), .int (nI (q + k)), .int rtk, .int (nI q), .int v9, .int rfa, .ref rlw])), (rta, .inl (cI, 160, .inl tp))] [(0, .ref rd)] 5 [] := by
    intro fuel
    induction fuel with
    | zero => intros; omega
    | succ fuel ihL5_0 =>
      intro k v9 hk hv9 hs9 hfu
      refine x_aload_n C dX5_advanceNumber_5 0 rfl ?_
      refine x_get C inlX5 rfl 2 (by decide) gw_7_0 dX5_advanceNumber_6 0 rfl rfl ?_
      refine x_aload_n C dX5_advanceNumber_9 0 rfl ?_
      refine x_get C inlX5 rfl 1 (by decide) gw_6_18 dX5_advanceNumber_10 0 rfl rfl ?_
      refine x_icmp_ge C dX5_advanceNumber_13 (tgt := 68) rfl (fun c2 => ?_) (fun c2 => ?_)
      ·
        have c2 : q + k ≥ n := q_ge_t rfl rfl (by omega) (by omega) c2
        have he9 : p_sk p_dg tp n q = q + k := by rw [← hs9]; first | exact p_sk_e (by omega) | exact p_sk_x (by assumption)
        refine x_aload_n C dX5_advanceNumber_68 0 rfl ?_
        refine x_aload_n C dX5_advanceNumber_69 0 rfl ?_
        refine x_get C inlX5 rfl 2 (by decide) gw_7_0 dX5_advanceNumber_70 0 rfl rfl ?_
        refine x_aload_n C dX5_advanceNumber_73 0 rfl ?_
        refine x_get C inlX5 rfl 4 (by decide) gw_7_11 dX5_advanceNumber_74 0 rfl rfl ?_
        refine x_isub C dX5_advanceNumber_77 ?_
        refine x_iconst C dX5_advanceNumber_78 (v := 4) rfl ?_
        refine x_icmp_le C dX5_advanceNumber_79 (tgt := 86) rfl (fun c3 => ?_) (fun c3 => ?_)
        ·
          have c3 : (q + k) - q ≤ 4 := q_le_t (q_isub (a := q + k) (b := q) rfl rfl (by omega)) (rfl : (4 : Int32) = nI 4) (by omega) (by omega) c3
          refine x_iconst C dX5_advanceNumber_86 (v := 2) rfl ?_
          refine x_put C inlX5 rfl tyX5 tyX5_ok nmX5 3 (by decide) gw_7_12 rfl dX5_advanceNumber_87 0 rfl (rfl) rfl (Nat.le_of_ble_eq_true rfl) ?_
          show X _ _ [(rd, .inr (4, [.ref rta, .int (nI n), .int (nI (q + k)), .int 2, .int (nI q), .int v9, .int rfa, .ref rlw])), (rta, .inl (cI, 160, .inl tp))] _ _ _
          refine E dX5_advanceNumber_90 ?_
          exact ⟨(q + k), 2, v9, rfl, rfl, ⟨he9.symm, by rw [he9]; first | exact (if_pos (by omega)).symm | exact (if_neg (by omega)).symm, by rw [he9, hv9, Nat.add_sub_cancel_left]⟩⟩
        ·
          have c3 : (q + k) - q > 4 := q_le_f (q_isub (a := q + k) (b := q) rfl rfl (by omega)) (rfl : (4 : Int32) = nI 4) (by omega) (by omega) c3
          refine x_iconst C dX5_advanceNumber_82 (v := 1) rfl ?_
          refine x_goto C dX5_advanceNumber_83 (tgt := 87) rfl ?_
          refine x_put C inlX5 rfl tyX5 tyX5_ok nmX5 3 (by decide) gw_7_12 rfl dX5_advanceNumber_87 0 rfl (rfl) rfl (Nat.le_of_ble_eq_true rfl) ?_
          show X _ _ [(rd, .inr (4, [.ref rta, .int (nI n), .int (nI (q + k)), .int 1, .int (nI q), .int v9, .int rfa, .ref rlw])), (rta, .inl (cI, 160, .inl tp))] _ _ _
          refine E dX5_advanceNumber_90 ?_
          exact ⟨(q + k), 1, v9, rfl, rfl, ⟨he9.symm, by rw [he9]; first | exact (if_pos (by omega)).symm | exact (if_neg (by omega)).symm, by rw [he9, hv9, Nat.add_sub_cancel_left]⟩⟩
      ·
        have c2 : q + k < n := q_ge_f rfl rfl (by omega) (by omega) c2
        refine x_aload_n C dX5_advanceNumber_16 0 rfl ?_
        refine x_get C inlX5 rfl 0 (by decide) gw_4_1 dX5_advanceNumber_17 0 rfl rfl ?_
        refine x_aload_n C dX5_advanceNumber_20 0 rfl ?_
        refine x_get C inlX5 rfl 2 (by decide) gw_7_0 dX5_advanceNumber_21 0 rfl rfl ?_
        refine x_iaload C 0 rfl dX5_advanceNumber_24 (q + k) (q_cl rfl (by omega)) (q_ix rfl (by omega) (by omega)) 1 rfl ?_
        refine x_callS C (As := [.int (tp (q + k))]) (st := []) (wc := []) (wr := [(rd, .inr (4, [.ref rta, .int (nI n), .int (nI (q + k)), .int rtk, .int (nI q), .int v9, .int rfa, .ref rlw])), (rta, .inl (cI, 160, .inl tp))]) (c_X5_isDigit l dG cI cM cW cS (tp (q + k)) ) rZ0_ok (fun _ _ _ _ => trivial) kS_X5_84 hy_X5_isDigit ⟨Nat.le_of_ble_eq_true rfl, Nat.le_of_ble_eq_true rfl⟩ ⟨Nat.le_of_ble_eq_true rfl, Nat.le_of_ble_eq_true rfl⟩ dX5_advanceNumber_25 [] [0, 1] rfl rfl rfl rfl (by decide) rfl (Nat.le_of_ble_eq_true rfl) ?_
        intro v4 w5 h6
        rcases h6 with h6 | h6
        ·
          obtain ⟨rfl, rfl, hf7⟩ := h6
          show X 0 0 [(rd, .inr (4, [.ref rta, .int (nI n), .int (nI (q + k)), .int rtk, .int (nI q), .int v9, .int rfa, .ref rlw])), (rta, .inl (cI, 160, .inl tp))] [(0, .ref rd)] 28 [.int 1]
          have hdg := hf7
          refine x_if_eq C dX5_advanceNumber_28 (tgt := 68) rfl (fun q9 => absurd q9 (by decide)) (fun _ => ?_)
          refine x_aload_n C dX5_advanceNumber_31 0 rfl ?_
          refine x_aload_n C dX5_advanceNumber_32 0 rfl ?_
          refine x_get C inlX5 rfl 5 (by decide) gw_7_20 dX5_advanceNumber_33 0 rfl rfl ?_
          refine x_bipush C dX5_advanceNumber_36 (v := 10) rfl ?_
          refine x_imul C dX5_advanceNumber_38 ?_
          refine x_aload_n C dX5_advanceNumber_39 0 rfl ?_
          refine x_get C inlX5 rfl 0 (by decide) gw_4_1 dX5_advanceNumber_40 0 rfl rfl ?_
          refine x_aload_n C dX5_advanceNumber_43 0 rfl ?_
          refine x_get C inlX5 rfl 2 (by decide) gw_7_0 dX5_advanceNumber_44 0 rfl rfl ?_
          show X _ _ _ _ 47 _
          refine x_iaload C 0 rfl dX5_advanceNumber_47 (q + k) (q_cl rfl (by omega)) (q_ix rfl (by omega) (by omega)) 1 rfl ?_
          refine x_iadd C dX5_advanceNumber_48 ?_
          refine x_bipush C dX5_advanceNumber_49 (v := 48) rfl ?_
          refine x_isub C dX5_advanceNumber_51 ?_
          refine x_put C inlX5 rfl tyX5 tyX5_ok nmX5 5 (by decide) gw_7_20 rfl dX5_advanceNumber_52 0 rfl (rfl) rfl (Nat.le_of_ble_eq_true rfl) ?_
          show X _ _ [(rd, .inr (4, [.ref rta, .int (nI n), .int (nI (q + k)), .int rtk, .int (nI q), .int (((v9 * 10) + (tp (q + k))) - 48), .int rfa, .ref rlw])), (rta, .inl (cI, 160, .inl tp))] _ _ _
          refine x_aload_n C dX5_advanceNumber_55 0 rfl ?_
          refine x_dup C dX5_advanceNumber_56 rfl ?_
          refine x_get C inlX5 rfl 2 (by decide) gw_7_0 dX5_advanceNumber_57 0 rfl rfl ?_
          refine x_iconst C dX5_advanceNumber_60 (v := 1) rfl ?_
          refine x_iadd C dX5_advanceNumber_61 ?_
          show X _ _ _ _ 62 _
          refine x_topi C (nI ((q + k) + 1)) (q_iadd (a := q + k) (b := 1) rfl (rfl : (1 : Int32) = nI 1)) ?_
          refine x_put C inlX5 rfl tyX5 tyX5_ok nmX5 2 (by decide) gw_7_0 rfl dX5_advanceNumber_62 0 rfl (rfl) rfl (Nat.le_of_ble_eq_true rfl) ?_
          show X _ _ [(rd, .inr (4, [.ref rta, .int (nI n), .int (nI ((q + k) + 1)), .int rtk, .int (nI q), .int (((v9 * 10) + (tp (q + k))) - 48), .int rfa, .ref rlw])), (rta, .inl (cI, 160, .inl tp))] _ _ _
          refine x_goto C dX5_advanceNumber_65 (tgt := 5) rfl ?_
          exact ihL5_0 (k + 1) (((v9 * 10) + (tp (q + k))) - 48) (by omega) (by rw [hv9]; rfl) ((p_sk_s (show q + k < n by omega) hdg).symm.trans hs9) (by omega)
        ·
          obtain ⟨rfl, rfl, hf8⟩ := h6
          show X 0 0 [(rd, .inr (4, [.ref rta, .int (nI n), .int (nI (q + k)), .int rtk, .int (nI q), .int v9, .int rfa, .ref rlw])), (rta, .inl (cI, 160, .inl tp))] [(0, .ref rd)] 28 [.int 0]
          have hdg := hf8
          refine x_if_eq C dX5_advanceNumber_28 (tgt := 68) rfl (fun _ => ?_) (fun q9 => by first | exact absurd q9 (by decide) | exact absurd (by decide) q9)
          have he9 : p_sk p_dg tp n q = q + k := by rw [← hs9]; first | exact p_sk_e (by omega) | exact p_sk_x (by assumption)
          refine x_aload_n C dX5_advanceNumber_68 0 rfl ?_
          refine x_aload_n C dX5_advanceNumber_69 0 rfl ?_
          refine x_get C inlX5 rfl 2 (by decide) gw_7_0 dX5_advanceNumber_70 0 rfl rfl ?_
          refine x_aload_n C dX5_advanceNumber_73 0 rfl ?_
          refine x_get C inlX5 rfl 4 (by decide) gw_7_11 dX5_advanceNumber_74 0 rfl rfl ?_
          refine x_isub C dX5_advanceNumber_77 ?_
          refine x_iconst C dX5_advanceNumber_78 (v := 4) rfl ?_
          refine x_icmp_le C dX5_advanceNumber_79 (tgt := 86) rfl (fun c9 => ?_) (fun c9 => ?_)
          ·
            have c9 : (q + k) - q ≤ 4 := q_le_t (q_isub (a := q + k) (b := q) rfl rfl (by omega)) (rfl : (4 : Int32) = nI 4) (by omega) (by omega) c9
            refine x_iconst C dX5_advanceNumber_86 (v := 2) rfl ?_
            refine x_put C inlX5 rfl tyX5 tyX5_ok nmX5 3 (by decide) gw_7_12 rfl dX5_advanceNumber_87 0 rfl (rfl) rfl (Nat.le_of_ble_eq_true rfl) ?_
            show X _ _ [(rd, .inr (4, [.ref rta, .int (nI n), .int (nI (q + k)), .int 2, .int (nI q), .int v9, .int rfa, .ref rlw])), (rta, .inl (cI, 160, .inl tp))] _ _ _
            refine E dX5_advanceNumber_90 ?_
            exact ⟨(q + k), 2, v9, rfl, rfl, ⟨he9.symm, by rw [he9]; first | exact (if_pos (by omega)).symm | exact (if_neg (by omega)).symm, by rw [he9, hv9, Nat.add_sub_cancel_left]⟩⟩
          ·
            have c9 : (q + k) - q > 4 := q_le_f (q_isub (a := q + k) (b := q) rfl rfl (by omega)) (rfl : (4 : Int32) = nI 4) (by omega) (by omega) c9
            refine x_iconst C dX5_advanceNumber_82 (v := 1) rfl ?_
            refine x_goto C dX5_advanceNumber_83 (tgt := 87) rfl ?_
            refine x_put C inlX5 rfl tyX5 tyX5_ok nmX5 3 (by decide) gw_7_12 rfl dX5_advanceNumber_87 0 rfl (rfl) rfl (Nat.le_of_ble_eq_true rfl) ?_
            show X _ _ [(rd, .inr (4, [.ref rta, .int (nI n), .int (nI (q + k)), .int 1, .int (nI q), .int v9, .int rfa, .ref rlw])), (rta, .inl (cI, 160, .inl tp))] _ _ _
            refine E dX5_advanceNumber_90 ?_
            exact ⟨(q + k), 1, v9, rfl, rfl, ⟨he9.symm, by rw [he9]; first | exact (if_pos (by omega)).symm | exact (if_neg (by omega)).symm, by rw [he9, hv9, Nat.add_sub_cancel_left]⟩⟩
  rw [show (nI q : Int32) = nI (q + 0) from rfl.trans (congrArg nI (by omega))]
  show X 0 0 [(rd, .inr (4, [.ref rta, .int (nI n), .int (nI (q + 0)), .int rtk, .int (nI q), .int 0, .int rfa, .ref rlw])), (rta, .inl (cI, 160, .inl tp))] [(0, .ref rd)] 5 []
  exact L5_0 ((n - (q + 0)) + 1) 0 0 (by omega) (rfl) (rfl) (Nat.lt_succ_self _)
theorem kV_X5_105 : GoodIn GW (wsV RX5 105 yJ0_length_8abf5.cls yJ0_length_8abf5 (Cond.code yJ0_length_8abf5 cJ0_length_8abf5 1 (some .int) :: GW)) := r_gV gw_8_8 gw_4_14 gw_4_15 gw_4_16 gw_4_17
theorem hy_J0_length_8abf5 : yJ0_length_8abf5.cls ≠ "java/lang/invoke/MethodHandle" ∧ yJ0_length_8abf5.cls ≠ "java/lang/invoke/VarHandle" ∧ (parseMethodDescriptor yJ0_length_8abf5.desc).map (fun d => d.parameters.length) = some 0 := ⟨by decide +kernel, by decide +kernel, by decide +kernel⟩
theorem kV_X5_110 : GoodIn GW (wsV RX5 110 yJ0_charAt_5068e.cls yJ0_charAt_5068e (Cond.code yJ0_charAt_5068e cJ0_charAt_5068e 2 (some .char) :: GW)) := r_gV gw_8_9 gw_5_2 gw_5_3 gw_4_16 gw_5_4
theorem hy_J0_charAt_5068e : yJ0_charAt_5068e.cls ≠ "java/lang/invoke/MethodHandle" ∧ yJ0_charAt_5068e.cls ≠ "java/lang/invoke/VarHandle" ∧ (parseMethodDescriptor yJ0_charAt_5068e.desc).map (fun d => d.parameters.length) = some 1 := ⟨by decide +kernel, by decide +kernel, by decide +kernel⟩
set_option maxHeartbeats 4000000 in
set_option maxRecDepth 100000 in
theorem c_X5_wordNumber (l : Launch) (dG : va_G) (cI cM cW cS : ClassId) (adK adV : Nat → Nat) (fm : Option Nat) (rd rta rlw n : Nat) (tp : Nat → Int32) (q e : Nat) (rtk rva rfa : Int32)  (hqe : q ≤ e) (hen : e ≤ n) (hn : n ≤ 160) : rM l yX5_wordNumber cX5_wordNumber 6 (some .int) ({ frames := 4, cells := 0, slots := 0, locals := 85 } : Room) dG (tY cI cM cW cS) (rZs adK adV fm) [.ref rd] [(rd, .inr (4, [.ref rta, .int (nI n), .int (nI e), .int rtk, .int (nI q), .int rva, .int rfa, .ref rlw])), (rta, .inl (cI, 160, .inl tp))] (fun ov oz => ∃ (r : Int32), ov = some (.int r) ∧ oz = [(rd, .inr (4, [.ref rta, .int (nI n), .int (nI e), .int rtk, .int (nI q), .int rva, .int rfa, .ref rlw])), (rta, .inl (cI, 160, .inl tp))] ∧ r = p_wix (p_w tp q e)) := by
  refine rM_ofI rfl (Nat.le_of_ble_eq_true rfl) rfl (fun X C E => ?_)
  show X 0 0 [(rd, .inr (4, [.ref rta, .int (nI n), .int (nI e), .int rtk, .int (nI q), .int rva, .int rfa, .ref rlw])), (rta, .inl (cI, 160, .inl tp))] [(0, .ref rd)] 0 []
  refine x_iconst C dX5_wordNumber_0 (v := 0) rfl ?_
  refine x_istore_n C dX5_wordNumber_1 (by decide) (lv' := [(1, .int 0), (0, .ref rd)]) rfl ?_
  refine x_aload_n C dX5_wordNumber_2 1 rfl ?_
  refine x_get C inlX5 rfl 4 (by decide) gw_7_11 dX5_wordNumber_3 0 rfl rfl ?_
  refine x_istore_n C dX5_wordNumber_6 (by decide) (lv' := [(2, .int (nI q)), (1, .int 0), (0, .ref rd)]) rfl ?_
  refine x_iconst C dX5_wordNumber_7 (v := 1) rfl ?_
  refine x_istore_n C dX5_wordNumber_8 (by decide) (lv' := [(3, .int 1), (2, .int (nI q)), (1, .int 0), (0, .ref rd)]) rfl ?_
  refine x_iconst C dX5_wordNumber_9 (v := 0) rfl ?_
  refine x_istore C dX5_wordNumber_10 (by decide) (lv' := [(4, .int 0), (3, .int 1), (2, .int (nI q)), (1, .int 0), (0, .ref rd)]) rfl ?_
  have L12_0 : ∀ (fuel : Nat) (k i w : Nat) (s9 : Int32) (sb : Bool), (hk : k ≤ 60) → (hi9 : i ≤ 160 + k) → (hw9 : w ≤ k) → (hs9 : s9 = if sb = true then 1 else 0) → (hq9 : p_scan tp q e ((zL.getD 1 []).drop k) w i sb = p_scan tp q e (zL.getD 1 []) 0 q true) → 60 - k < fuel → X 0 0 [(rd, .inr (4, [.ref rta, .int (nI n), .int (nI e), .int rtk, .int (nI q), .int rva, .int rfa, .ref rlw])), (rta, .inl (cI, 160, .inl tp))] [(4, .int (nI k)), (3, .int s9), (2, .int (nI i)), (1, .int (nI w)), (0, .ref rd)] 12 [] := by
    intro fuel
    induction fuel with
    | zero => intros; omega
    | succ fuel ihL12_0 =>
      intro k i w s9 sb hk hi9 hw9 hs9 hq9 hfu
      refine x_iload C dX5_wordNumber_12 0 rfl ?_
      refine x_ldcS C 1 (by decide) rfl rfl dX5_wordNumber_14 ?_
      refine x_callVs C (As := []) (st := [.int (nI k)]) (wr := [(rd, .inr (4, [.ref rta, .int (nI n), .int (nI e), .int rtk, .int (nI q), .int rva, .int rfa, .ref rlw])), (rta, .inl (cI, 160, .inl tp))]) (c_J0_length_8abf5 l dG cI cM cW cS adK adV fm 1 (by first | assumption | omega | decide)) (by first | assumption | decide) rfl kV_X5_105 ⟨rfl, hy_J0_length_8abf5⟩ ⟨Nat.le_of_ble_eq_true rfl, Nat.le_of_ble_eq_true rfl⟩ ⟨Nat.le_of_ble_eq_true rfl, Nat.le_of_ble_eq_true rfl⟩ dX5_wordNumber_16 [0, 1] rfl rfl rfl (Nat.le_of_ble_eq_true rfl) ?_
      intro v2 w3 h4
      obtain ⟨rfl, rfl, hf5⟩ := h4
      show X 0 0 [(rd, .inr (4, [.ref rta, .int (nI n), .int (nI e), .int rtk, .int (nI q), .int rva, .int rfa, .ref rlw])), (rta, .inl (cI, 160, .inl tp))] [(4, .int (nI k)), (3, .int s9), (2, .int (nI i)), (1, .int (nI w)), (0, .ref rd)] 19 [.int (nI (zlen 1)), .int (nI k)]
      refine x_icmp_ge C dX5_wordNumber_19 (tgt := 103) rfl (fun c6 => ?_) (fun c6 => ?_)
      ·
        have hk9 : k ≥ zlen 1 := q_ge_t (a := k) (b := zlen 1) rfl rfl (by omega) (by rw [z_len1]; decide) c6
        have hk8 := z_len1
        refine x_iconst C dX5_wordNumber_103 (v := (-1)) rfl ?_
        refine E dX5_wordNumber_104 (rfl) ?_
        exact ⟨(-1), rfl, rfl, by rw [← p_scan_wix hqe, ← hq9]; exact p_scan_d hk9⟩
      ·
        have hk9 : k < zlen 1 := q_ge_f (a := k) (b := zlen 1) rfl rfl (by omega) (by rw [z_len1]; decide) c6
        have hk8 := z_len1
        refine x_ldcS C 1 (by decide) rfl rfl dX5_wordNumber_22 ?_
        refine x_iload C dX5_wordNumber_24 0 rfl ?_
        refine x_callVs C (As := [.int (nI k)]) (st := []) (wr := [(rd, .inr (4, [.ref rta, .int (nI n), .int (nI e), .int rtk, .int (nI q), .int rva, .int rfa, .ref rlw])), (rta, .inl (cI, 160, .inl tp))]) (c_J0_charAt_5068e l dG cI cM cW cS adK adV fm 1 k (by first | assumption | omega | decide) (by first | assumption | omega | decide)) (by first | assumption | decide) rfl kV_X5_110 ⟨rfl, hy_J0_charAt_5068e⟩ ⟨Nat.le_of_ble_eq_true rfl, Nat.le_of_ble_eq_true rfl⟩ ⟨Nat.le_of_ble_eq_true rfl, Nat.le_of_ble_eq_true rfl⟩ dX5_wordNumber_26 [0, 1] rfl rfl rfl (Nat.le_of_ble_eq_true rfl) ?_
        intro v7 w8 h9
        obtain ⟨rfl, rfl, hf10⟩ := h9
        show X 0 0 [(rd, .inr (4, [.ref rta, .int (nI n), .int (nI e), .int rtk, .int (nI q), .int rva, .int rfa, .ref rlw])), (rta, .inl (cI, 160, .inl tp))] [(4, .int (nI k)), (3, .int s9), (2, .int (nI i)), (1, .int (nI w)), (0, .ref rd)] 29 [.int (zbyt 1 k)]
        refine x_istore C dX5_wordNumber_29 (by decide) (lv' := [(5, .int (zbyt 1 k)), (4, .int (nI k)), (3, .int s9), (2, .int (nI i)), (1, .int (nI w)), (0, .ref rd)]) rfl ?_
        refine x_iload C dX5_wordNumber_31 0 rfl ?_
        refine x_bipush C dX5_wordNumber_33 (v := 32) rfl ?_
        refine x_icmp_eq C dX5_wordNumber_35 (tgt := 73) rfl (fun c11 => ?_) (fun c11 => ?_)
        ·
          have h32 := c11
          refine x_iload_n C dX5_wordNumber_73 2 rfl ?_
          refine x_if_eq C dX5_wordNumber_74 (tgt := 87) rfl (fun c12 => ?_) (fun c12 => ?_)
          ·
            have hsa := c12
            refine x_iinc C dX5_wordNumber_87 4 rfl (v := nI (w + 1)) (nI_1 _) (by decide) (lv' := [(1, .int (nI (w + 1))), (5, .int (zbyt 1 k)), (4, .int (nI k)), (3, .int s9), (2, .int (nI i)), (0, .ref rd)]) rfl ?_
            refine x_aload_n C dX5_wordNumber_90 5 rfl ?_
            refine x_get C inlX5 rfl 4 (by decide) gw_7_11 dX5_wordNumber_91 0 rfl rfl ?_
            refine x_istore_n C dX5_wordNumber_94 (by decide) (lv' := [(2, .int (nI q)), (1, .int (nI (w + 1))), (5, .int (zbyt 1 k)), (4, .int (nI k)), (3, .int s9), (0, .ref rd)]) rfl ?_
            refine x_iconst C dX5_wordNumber_95 (v := 1) rfl ?_
            refine x_istore_n C dX5_wordNumber_96 (by decide) (lv' := [(3, .int 1), (2, .int (nI q)), (1, .int (nI (w + 1))), (5, .int (zbyt 1 k)), (4, .int (nI k)), (0, .ref rd)]) rfl ?_
            refine x_iinc C dX5_wordNumber_97 4 rfl (v := nI (k + 1)) (nI_1 _) (by decide) (lv' := [(4, .int (nI (k + 1))), (3, .int 1), (2, .int (nI q)), (1, .int (nI (w + 1))), (5, .int (zbyt 1 k)), (0, .ref rd)]) rfl ?_
            refine x_goto C dX5_wordNumber_100 (tgt := 12) rfl ?_
            refine x_lv C [0, 1, 2, 3, 5] (lv' := [(4, .int (nI (k + 1))), (3, .int 1), (2, .int (nI q)), (1, .int (nI (w + 1))), (0, .ref rd)]) rfl ?_
            exact ihL12_0 (k + 1) q (w + 1) 1 true (by omega) (by omega) (by omega) (rfl) (by rw [← hq9]; first | exact p_scan_at hk9 h32 (q_sb1 hs9 hsa) hia hca | exact p_scan_af hk9 h32 (fun h9 => q_sb0 hs9 hsa h9.1) | exact p_scan_af hk9 h32 (fun h9 => absurd h9.2.1 (by omega)) | exact p_scan_af hk9 h32 (fun h9 => hca h9.2.2) | exact p_scan_c hk9 h32 (fun h9 => q_sb0 hs9 hsa h9.1) | exact p_scan_c hk9 h32 (fun h9 => absurd h9.2 (by omega))) (by omega)
          ·
            have hsa := c12
            refine x_iload_n C dX5_wordNumber_77 3 rfl ?_
            refine x_aload_n C dX5_wordNumber_78 5 rfl ?_
            refine x_get C inlX5 rfl 2 (by decide) gw_7_0 dX5_wordNumber_79 0 rfl rfl ?_
            refine x_icmp_ne C dX5_wordNumber_82 (tgt := 87) rfl (fun c13 => ?_) (fun c13 => ?_)
            ·
              have hie : i ≠ e := q_ne_t (a := i) (b := e) rfl rfl (by omega) (by omega) c13
              refine x_iinc C dX5_wordNumber_87 4 rfl (v := nI (w + 1)) (nI_1 _) (by decide) (lv' := [(1, .int (nI (w + 1))), (5, .int (zbyt 1 k)), (4, .int (nI k)), (3, .int s9), (2, .int (nI i)), (0, .ref rd)]) rfl ?_
              refine x_aload_n C dX5_wordNumber_90 5 rfl ?_
              refine x_get C inlX5 rfl 4 (by decide) gw_7_11 dX5_wordNumber_91 0 rfl rfl ?_
              refine x_istore_n C dX5_wordNumber_94 (by decide) (lv' := [(2, .int (nI q)), (1, .int (nI (w + 1))), (5, .int (zbyt 1 k)), (4, .int (nI k)), (3, .int s9), (0, .ref rd)]) rfl ?_
              refine x_iconst C dX5_wordNumber_95 (v := 1) rfl ?_
              refine x_istore_n C dX5_wordNumber_96 (by decide) (lv' := [(3, .int 1), (2, .int (nI q)), (1, .int (nI (w + 1))), (5, .int (zbyt 1 k)), (4, .int (nI k)), (0, .ref rd)]) rfl ?_
              refine x_iinc C dX5_wordNumber_97 4 rfl (v := nI (k + 1)) (nI_1 _) (by decide) (lv' := [(4, .int (nI (k + 1))), (3, .int 1), (2, .int (nI q)), (1, .int (nI (w + 1))), (5, .int (zbyt 1 k)), (0, .ref rd)]) rfl ?_
              refine x_goto C dX5_wordNumber_100 (tgt := 12) rfl ?_
              refine x_lv C [0, 1, 2, 3, 5] (lv' := [(4, .int (nI (k + 1))), (3, .int 1), (2, .int (nI q)), (1, .int (nI (w + 1))), (0, .ref rd)]) rfl ?_
              exact ihL12_0 (k + 1) q (w + 1) 1 true (by omega) (by omega) (by omega) (rfl) (by rw [← hq9]; first | exact p_scan_at hk9 h32 (q_sb1 hs9 hsa) hia hca | exact p_scan_af hk9 h32 (fun h9 => q_sb0 hs9 hsa h9.1) | exact p_scan_af hk9 h32 (fun h9 => absurd h9.2.1 (by omega)) | exact p_scan_af hk9 h32 (fun h9 => hca h9.2.2) | exact p_scan_c hk9 h32 (fun h9 => q_sb0 hs9 hsa h9.1) | exact p_scan_c hk9 h32 (fun h9 => absurd h9.2 (by omega))) (by omega)
            ·
              have hie : i = e := q_ne_f (a := i) (b := e) rfl rfl (by omega) (by omega) c13
              refine x_iload_n C dX5_wordNumber_85 4 rfl ?_
              refine E dX5_wordNumber_86 (rfl) ?_
              exact ⟨(nI w), rfl, rfl, by rw [← p_scan_wix hqe, ← hq9]; exact p_scan_b hk9 h32 ⟨q_sb1 hs9 hsa, hie⟩⟩
        ·
          have h32 := c11
          refine x_iload_n C dX5_wordNumber_38 2 rfl ?_
          refine x_if_eq C dX5_wordNumber_39 (tgt := 65) rfl (fun c14 => ?_) (fun c14 => ?_)
          ·
            have hsa := c14
            refine x_iconst C dX5_wordNumber_65 (v := 0) rfl ?_
            refine x_istore_n C dX5_wordNumber_66 (by decide) (lv' := [(3, .int 0), (5, .int (zbyt 1 k)), (4, .int (nI k)), (2, .int (nI i)), (1, .int (nI w)), (0, .ref rd)]) rfl ?_
            refine x_iinc C dX5_wordNumber_67 3 rfl (v := nI (i + 1)) (nI_1 _) (by decide) (lv' := [(2, .int (nI (i + 1))), (3, .int 0), (5, .int (zbyt 1 k)), (4, .int (nI k)), (1, .int (nI w)), (0, .ref rd)]) rfl ?_
            refine x_goto C dX5_wordNumber_70 (tgt := 97) rfl ?_
            refine x_iinc C dX5_wordNumber_97 3 rfl (v := nI (k + 1)) (nI_1 _) (by decide) (lv' := [(4, .int (nI (k + 1))), (2, .int (nI (i + 1))), (3, .int 0), (5, .int (zbyt 1 k)), (1, .int (nI w)), (0, .ref rd)]) rfl ?_
            refine x_goto C dX5_wordNumber_100 (tgt := 12) rfl ?_
            refine x_lv C [0, 2, 1, 4, 5] (lv' := [(4, .int (nI (k + 1))), (3, .int 0), (2, .int (nI (i + 1))), (1, .int (nI w)), (0, .ref rd)]) rfl ?_
            exact ihL12_0 (k + 1) (i + 1) w 0 false (by omega) (by omega) (by omega) (rfl) (by rw [← hq9]; first | exact p_scan_at hk9 h32 (q_sb1 hs9 hsa) hia hca | exact p_scan_af hk9 h32 (fun h9 => q_sb0 hs9 hsa h9.1) | exact p_scan_af hk9 h32 (fun h9 => absurd h9.2.1 (by omega)) | exact p_scan_af hk9 h32 (fun h9 => hca h9.2.2) | exact p_scan_c hk9 h32 (fun h9 => q_sb0 hs9 hsa h9.1) | exact p_scan_c hk9 h32 (fun h9 => absurd h9.2 (by omega))) (by omega)
          ·
            have hsa := c14
            refine x_iload_n C dX5_wordNumber_42 3 rfl ?_
            refine x_aload_n C dX5_wordNumber_43 5 rfl ?_
            refine x_get C inlX5 rfl 2 (by decide) gw_7_0 dX5_wordNumber_44 0 rfl rfl ?_
            refine x_icmp_ge C dX5_wordNumber_47 (tgt := 65) rfl (fun c15 => ?_) (fun c15 => ?_)
            ·
              have hia : i ≥ e := q_ge_t (a := i) (b := e) rfl rfl (by omega) (by omega) c15
              refine x_iconst C dX5_wordNumber_65 (v := 0) rfl ?_
              refine x_istore_n C dX5_wordNumber_66 (by decide) (lv' := [(3, .int 0), (5, .int (zbyt 1 k)), (4, .int (nI k)), (2, .int (nI i)), (1, .int (nI w)), (0, .ref rd)]) rfl ?_
              refine x_iinc C dX5_wordNumber_67 3 rfl (v := nI (i + 1)) (nI_1 _) (by decide) (lv' := [(2, .int (nI (i + 1))), (3, .int 0), (5, .int (zbyt 1 k)), (4, .int (nI k)), (1, .int (nI w)), (0, .ref rd)]) rfl ?_
              refine x_goto C dX5_wordNumber_70 (tgt := 97) rfl ?_
              refine x_iinc C dX5_wordNumber_97 3 rfl (v := nI (k + 1)) (nI_1 _) (by decide) (lv' := [(4, .int (nI (k + 1))), (2, .int (nI (i + 1))), (3, .int 0), (5, .int (zbyt 1 k)), (1, .int (nI w)), (0, .ref rd)]) rfl ?_
              refine x_goto C dX5_wordNumber_100 (tgt := 12) rfl ?_
              refine x_lv C [0, 2, 1, 4, 5] (lv' := [(4, .int (nI (k + 1))), (3, .int 0), (2, .int (nI (i + 1))), (1, .int (nI w)), (0, .ref rd)]) rfl ?_
              exact ihL12_0 (k + 1) (i + 1) w 0 false (by omega) (by omega) (by omega) (rfl) (by rw [← hq9]; first | exact p_scan_at hk9 h32 (q_sb1 hs9 hsa) hia hca | exact p_scan_af hk9 h32 (fun h9 => q_sb0 hs9 hsa h9.1) | exact p_scan_af hk9 h32 (fun h9 => absurd h9.2.1 (by omega)) | exact p_scan_af hk9 h32 (fun h9 => hca h9.2.2) | exact p_scan_c hk9 h32 (fun h9 => q_sb0 hs9 hsa h9.1) | exact p_scan_c hk9 h32 (fun h9 => absurd h9.2 (by omega))) (by omega)
            ·
              have hia : i < e := q_ge_f (a := i) (b := e) rfl rfl (by omega) (by omega) c15
              refine x_aload_n C dX5_wordNumber_50 5 rfl ?_
              refine x_get C inlX5 rfl 0 (by decide) gw_4_1 dX5_wordNumber_51 0 rfl rfl ?_
              refine x_iload_n C dX5_wordNumber_54 3 rfl ?_
              refine x_iaload C 0 rfl dX5_wordNumber_55 i (q_cl rfl (by omega)) (q_ix rfl (by omega) (by omega)) 1 rfl ?_
              refine x_iload C dX5_wordNumber_56 0 rfl ?_
              refine x_icmp_ne C dX5_wordNumber_58 (tgt := 65) rfl (fun c16 => ?_) (fun c16 => ?_)
              ·
                have hca := c16
                refine x_iconst C dX5_wordNumber_65 (v := 0) rfl ?_
                refine x_istore_n C dX5_wordNumber_66 (by decide) (lv' := [(3, .int 0), (5, .int (zbyt 1 k)), (4, .int (nI k)), (2, .int (nI i)), (1, .int (nI w)), (0, .ref rd)]) rfl ?_
                refine x_iinc C dX5_wordNumber_67 3 rfl (v := nI (i + 1)) (nI_1 _) (by decide) (lv' := [(2, .int (nI (i + 1))), (3, .int 0), (5, .int (zbyt 1 k)), (4, .int (nI k)), (1, .int (nI w)), (0, .ref rd)]) rfl ?_
                refine x_goto C dX5_wordNumber_70 (tgt := 97) rfl ?_
                refine x_iinc C dX5_wordNumber_97 3 rfl (v := nI (k + 1)) (nI_1 _) (by decide) (lv' := [(4, .int (nI (k + 1))), (2, .int (nI (i + 1))), (3, .int 0), (5, .int (zbyt 1 k)), (1, .int (nI w)), (0, .ref rd)]) rfl ?_
                refine x_goto C dX5_wordNumber_100 (tgt := 12) rfl ?_
                refine x_lv C [0, 2, 1, 4, 5] (lv' := [(4, .int (nI (k + 1))), (3, .int 0), (2, .int (nI (i + 1))), (1, .int (nI w)), (0, .ref rd)]) rfl ?_
                exact ihL12_0 (k + 1) (i + 1) w 0 false (by omega) (by omega) (by omega) (rfl) (by rw [← hq9]; first | exact p_scan_at hk9 h32 (q_sb1 hs9 hsa) hia hca | exact p_scan_af hk9 h32 (fun h9 => q_sb0 hs9 hsa h9.1) | exact p_scan_af hk9 h32 (fun h9 => absurd h9.2.1 (by omega)) | exact p_scan_af hk9 h32 (fun h9 => hca h9.2.2) | exact p_scan_c hk9 h32 (fun h9 => q_sb0 hs9 hsa h9.1) | exact p_scan_c hk9 h32 (fun h9 => absurd h9.2 (by omega))) (by omega)
              ·
                have hca := c16
                refine x_iconst C dX5_wordNumber_61 (v := 1) rfl ?_
                refine x_goto C dX5_wordNumber_62 (tgt := 66) rfl ?_
                refine x_istore_n C dX5_wordNumber_66 (by decide) (lv' := [(3, .int 1), (5, .int (zbyt 1 k)), (4, .int (nI k)), (2, .int (nI i)), (1, .int (nI w)), (0, .ref rd)]) rfl ?_
                refine x_iinc C dX5_wordNumber_67 3 rfl (v := nI (i + 1)) (nI_1 _) (by decide) (lv' := [(2, .int (nI (i + 1))), (3, .int 1), (5, .int (zbyt 1 k)), (4, .int (nI k)), (1, .int (nI w)), (0, .ref rd)]) rfl ?_
                refine x_goto C dX5_wordNumber_70 (tgt := 97) rfl ?_
                refine x_iinc C dX5_wordNumber_97 3 rfl (v := nI (k + 1)) (nI_1 _) (by decide) (lv' := [(4, .int (nI (k + 1))), (2, .int (nI (i + 1))), (3, .int 1), (5, .int (zbyt 1 k)), (1, .int (nI w)), (0, .ref rd)]) rfl ?_
                refine x_goto C dX5_wordNumber_100 (tgt := 12) rfl ?_
                refine x_lv C [0, 2, 1, 4, 5] (lv' := [(4, .int (nI (k + 1))), (3, .int 1), (2, .int (nI (i + 1))), (1, .int (nI w)), (0, .ref rd)]) rfl ?_
                exact ihL12_0 (k + 1) (i + 1) w 1 true (by omega) (by omega) (by omega) (rfl) (by rw [← hq9]; first | exact p_scan_at hk9 h32 (q_sb1 hs9 hsa) hia hca | exact p_scan_af hk9 h32 (fun h9 => q_sb0 hs9 hsa h9.1) | exact p_scan_af hk9 h32 (fun h9 => absurd h9.2.1 (by omega)) | exact p_scan_af hk9 h32 (fun h9 => hca h9.2.2) | exact p_scan_c hk9 h32 (fun h9 => q_sb0 hs9 hsa h9.1) | exact p_scan_c hk9 h32 (fun h9 => absurd h9.2 (by omega))) (by omega)
  show X 0 0 [(rd, .inr (4, [.ref rta, .int (nI n), .int (nI e), .int rtk, .int (nI q), .int rva, .int rfa, .ref rlw])), (rta, .inl (cI, 160, .inl tp))] [(4, .int (nI 0)), (3, .int 1), (2, .int (nI q)), (1, .int (nI 0)), (0, .ref rd)] 12 []
  exact L12_0 ((60 - 0) + 1) 0 q 0 1 true (by decide) (by omega) (Nat.le_refl _) (rfl) (rfl) (Nat.lt_succ_self _)
theorem kV_X5_99 : GoodIn GW (wsV RX5 99 yX5_wordNumber.cls yX5_wordNumber (Cond.code yX5_wordNumber cX5_wordNumber 6 (some .int) :: GW)) := r_gV gw_8_4 gw_8_5 gw_8_6 gw_2_5 gw_8_7
theorem hy_X5_wordNumber : yX5_wordNumber.cls ≠ "java/lang/invoke/MethodHandle" ∧ yX5_wordNumber.cls ≠ "java/lang/invoke/VarHandle" ∧ (parseMethodDescriptor yX5_wordNumber.desc).map (fun d => d.parameters.length) = some 0 := ⟨by decide +kernel, by decide +kernel, by decide +kernel⟩
theorem kS_X5_90 : GoodIn GW (va_wsS RX5 90 yX5_isLetter (Cond.code yX5_isLetter cX5_isLetter 1 (some .boolean) :: GW)) := r_gS gw_7_21 gw_7_22 gw_2_5 gw_7_23
theorem hy_X5_isLetter : yX5_isLetter.cls ≠ "java/lang/invoke/MethodHandle" ∧ yX5_isLetter.cls ≠ "java/lang/invoke/VarHandle" ∧ (parseMethodDescriptor yX5_isLetter.desc).map (fun d => d.parameters.length) = some 1 := ⟨by decide +kernel, by decide +kernel, by decide +kernel⟩
set_option maxHeartbeats 4000000 in
set_option maxRecDepth 100000 in
theorem c_X5_advanceWord (l : Launch) (dG : va_G) (cI cM cW cS : ClassId) (adK adV : Nat → Nat) (fm : Option Nat) (rd rta rlw n : Nat) (tp : Nat → Int32) (q : Nat) (rtk rva rfa : Int32)  (hq : q ≤ n) (hn : n ≤ 160) : rM l yX5_advanceWord cX5_advanceWord 2 none ({ frames := 5, cells := 0, slots := 0, locals := 110 } : Room) dG (tY cI cM cW cS) (rZs adK adV fm) [.ref rd] [(rd, .inr (4, [.ref rta, .int (nI n), .int (nI q), .int rtk, .int (nI q), .int rva, .int rfa, .ref rlw])), (rta, .inl (cI, 160, .inl tp))] (fun ov oz => ∃ (at' : Nat) (tk' : Int32) (v' : Int32), ov = none ∧ oz = [(rd, .inr (4, [.ref rta, .int (nI n), .int (nI at'), .int tk', .int (nI q), .int v', .int rfa, .ref rlw])), (rta, .inl (cI, 160, .inl tp))] ∧ at' = p_sk p_le tp n q ∧ tk' = (if p_wix (p_w tp q (p_sk p_le tp n q)) = -1 then 1 else if p_wix (p_w tp q (p_sk p_le tp n q)) < 6 then 4 + p_wix (p_w tp q (p_sk p_le tp n q)) else 3) ∧ v' = p_wix (p_w tp q (p_sk p_le tp n q)) - 6) := by
  refine rM_ofV false (by intro h; cases h) rfl (Nat.le_of_ble_eq_true rfl) rfl (fun X C E => ?_)
  show X 0 0 [(rd, .inr (4, [.ref rta, .int (nI n), .int (nI q), .int rtk, .int (nI q), .int rva, .int rfa, .ref rlw])), (rta, .inl (cI, 160, .inl tp))] [(0, .ref rd)] 0 []
  have L0_0 : ∀ (fuel : Nat) (e : Nat), (hqe : q ≤ e) → (hen : e ≤ n) → (hs9 : p_sk p_le tp n e = p_sk p_le tp n q) → n - e < fuel → X 0 0 [(rd, .inr (4, [.ref rta, .int (nI n), .int (nI e), .int rtk, .int (nI q), .int rva, .int rfa, .ref rlw])), (rta, .inl (cI, 160, .inl tp))] [(0, .ref rd)] 0 [] := by
    intro fuel
    induction fuel with
    | zero => intros; omega
    | succ fuel ihL0_0 =>
      intro e hqe hen hs9 hfu
      refine x_aload_n C dX5_advanceWord_0 0 rfl ?_
      refine x_get C inlX5 rfl 2 (by decide) gw_7_0 dX5_advanceWord_1 0 rfl rfl ?_
      refine x_aload_n C dX5_advanceWord_4 0 rfl ?_
      refine x_get C inlX5 rfl 1 (by decide) gw_6_18 dX5_advanceWord_5 0 rfl rfl ?_
      refine x_icmp_ge C dX5_advanceWord_8 (tgt := 39) rfl (fun c2 => ?_) (fun c2 => ?_)
      ·
        have c2 : e ≥ n := q_ge_t rfl rfl (by omega) (by omega) c2
        have he9 : p_sk p_le tp n q = e := by rw [← hs9]; first | exact p_sk_e (by omega) | exact p_sk_x (by assumption)
        refine x_aload_n C dX5_advanceWord_39 0 rfl ?_
        refine x_callV C (As := []) (st := []) (wc := [(rd, .inr (4, [.ref rta, .int (nI n), .int (nI e), .int rtk, .int (nI q), .int rva, .int rfa, .ref rlw])), (rta, .inl (cI, 160, .inl tp))]) (wr := []) (c_X5_wordNumber l dG cI cM cW cS adK adV fm rd rta rlw n tp q e rtk rva rfa (by first | assumption | omega | decide) (by first | assumption | omega | decide) (by first | assumption | omega | decide)) (rZs_ok adK adV fm) (fun _ _ _ h9 => h9) kV_X5_99 ⟨rfl, hy_X5_wordNumber⟩ ⟨Nat.le_of_ble_eq_true rfl, Nat.le_of_ble_eq_true rfl⟩ ⟨Nat.le_of_ble_eq_true rfl, Nat.le_of_ble_eq_true rfl⟩ dX5_advanceWord_40 0 rfl rfl [0, 1] [] rfl rfl rfl rfl (by decide) rfl (Nat.le_of_ble_eq_true rfl) ?_
        intro v3 w4 h5
        obtain ⟨r_6, rfl, rfl, hf7⟩ := h5
        show X 0 0 [(rd, .inr (4, [.ref rta, .int (nI n), .int (nI e), .int rtk, .int (nI q), .int rva, .int rfa, .ref rlw])), (rta, .inl (cI, 160, .inl tp))] [(0, .ref rd)] 43 [.int r_6]
        have hw9 := hf7
        refine x_istore_n C dX5_advanceWord_43 (by decide) (lv' := [(1, .int r_6), (0, .ref rd)]) rfl ?_
        refine x_aload_n C dX5_advanceWord_44 1 rfl ?_
        refine x_iload_n C dX5_advanceWord_45 0 rfl ?_
        refine x_bipush C dX5_advanceWord_46 (v := 6) rfl ?_
        refine x_isub C dX5_advanceWord_48 ?_
        refine x_put C inlX5 rfl tyX5 tyX5_ok nmX5 5 (by decide) gw_7_20 rfl dX5_advanceWord_49 0 rfl (rfl) rfl (Nat.le_of_ble_eq_true rfl) ?_
        show X _ _ [(rd, .inr (4, [.ref rta, .int (nI n), .int (nI e), .int rtk, .int (nI q), .int (r_6 - 6), .int rfa, .ref rlw])), (rta, .inl (cI, 160, .inl tp))] _ _ _
        refine x_iload_n C dX5_advanceWord_52 0 rfl ?_
        refine x_iconst C dX5_advanceWord_53 (v := (-1)) rfl ?_
        show X _ _ _ _ 54 _
        refine x_icmp_ne C dX5_advanceWord_54 (tgt := 65) rfl (fun c8 => ?_) (fun c8 => ?_)
        ·
          have hwa := c8
          refine x_aload_n C dX5_advanceWord_65 1 rfl ?_
          refine x_iload_n C dX5_advanceWord_66 0 rfl ?_
          refine x_bipush C dX5_advanceWord_67 (v := 6) rfl ?_
          refine x_icmp_ge C dX5_advanceWord_69 (tgt := 78) rfl (fun c9 => ?_) (fun c9 => ?_)
          ·
            have hwb := c9
            refine x_iconst C dX5_advanceWord_78 (v := 3) rfl ?_
            refine x_put C inlX5 rfl tyX5 tyX5_ok nmX5 3 (by decide) gw_7_12 rfl dX5_advanceWord_79 0 rfl (rfl) rfl (Nat.le_of_ble_eq_true rfl) ?_
            show X _ _ [(rd, .inr (4, [.ref rta, .int (nI n), .int (nI e), .int 3, .int (nI q), .int (r_6 - 6), .int rfa, .ref rlw])), (rta, .inl (cI, 160, .inl tp))] _ _ _
            refine E dX5_advanceWord_82 ?_
            exact ⟨e, 3, (r_6 - 6), rfl, rfl, ⟨he9.symm, by rw [he9, ← hw9]; first | exact (if_pos hwa).symm | exact ((if_neg hwa).trans (if_pos (Int32.not_le.mp hwb))).symm | exact ((if_neg hwa).trans (if_neg (Int32.not_lt.mpr hwb))).symm, by rw [he9, ← hw9]⟩⟩
          ·
            have hwb := c9
            refine x_iconst C dX5_advanceWord_72 (v := 4) rfl ?_
            refine x_iload_n C dX5_advanceWord_73 0 rfl ?_
            refine x_iadd C dX5_advanceWord_74 ?_
            refine x_goto C dX5_advanceWord_75 (tgt := 79) rfl ?_
            refine x_put C inlX5 rfl tyX5 tyX5_ok nmX5 3 (by decide) gw_7_12 rfl dX5_advanceWord_79 0 rfl (rfl) rfl (Nat.le_of_ble_eq_true rfl) ?_
            show X _ _ [(rd, .inr (4, [.ref rta, .int (nI n), .int (nI e), .int (4 + r_6), .int (nI q), .int (r_6 - 6), .int rfa, .ref rlw])), (rta, .inl (cI, 160, .inl tp))] _ _ _
            refine E dX5_advanceWord_82 ?_
            exact ⟨e, (4 + r_6), (r_6 - 6), rfl, rfl, ⟨he9.symm, by rw [he9, ← hw9]; first | exact (if_pos hwa).symm | exact ((if_neg hwa).trans (if_pos (Int32.not_le.mp hwb))).symm | exact ((if_neg hwa).trans (if_neg (Int32.not_lt.mpr hwb))).symm, by rw [he9, ← hw9]⟩⟩
        ·
          have hwa := c8
          refine x_aload_n C dX5_advanceWord_57 1 rfl ?_
          refine x_iconst C dX5_advanceWord_58 (v := 1) rfl ?_
          refine x_put C inlX5 rfl tyX5 tyX5_ok nmX5 3 (by decide) gw_7_12 rfl dX5_advanceWord_59 0 rfl (rfl) rfl (Nat.le_of_ble_eq_true rfl) ?_
          show X _ _ [(rd, .inr (4, [.ref rta, .int (nI n), .int (nI e), .int 1, .int (nI q), .int (r_6 - 6), .int rfa, .ref rlw])), (rta, .inl (cI, 160, .inl tp))] _ _ _
          refine x_goto C dX5_advanceWord_62 (tgt := 82) rfl ?_
          refine E dX5_advanceWord_82 ?_
          exact ⟨e, 1, (r_6 - 6), rfl, rfl, ⟨he9.symm, by rw [he9, ← hw9]; first | exact (if_pos hwa).symm | exact ((if_neg hwa).trans (if_pos (Int32.not_le.mp hwb))).symm | exact ((if_neg hwa).trans (if_neg (Int32.not_lt.mpr hwb))).symm, by rw [he9, ← hw9]⟩⟩
      ·
        have c2 : e < n := q_ge_f rfl rfl (by omega) (by omega) c2
        refine x_aload_n C dX5_advanceWord_11 0 rfl ?_
        refine x_get C inlX5 rfl 0 (by decide) gw_4_1 dX5_advanceWord_12 0 rfl rfl ?_
        refine x_aload_n C dX5_advanceWord_15 0 rfl ?_
        refine x_get C inlX5 rfl 2 (by decide) gw_7_0 dX5_advanceWord_16 0 rfl rfl ?_
        refine x_iaload C 0 rfl dX5_advanceWord_19 e (q_cl rfl (by omega)) (q_ix rfl (by omega) (by omega)) 1 rfl ?_
        refine x_callS C (As := [.int (tp e)]) (st := []) (wc := []) (wr := [(rd, .inr (4, [.ref rta, .int (nI n), .int (nI e), .int rtk, .int (nI q), .int rva, .int rfa, .ref rlw])), (rta, .inl (cI, 160, .inl tp))]) (c_X5_isLetter l dG cI cM cW cS (tp e) ) rZ0_ok (fun _ _ _ _ => trivial) kS_X5_90 hy_X5_isLetter ⟨Nat.le_of_ble_eq_true rfl, Nat.le_of_ble_eq_true rfl⟩ ⟨Nat.le_of_ble_eq_true rfl, Nat.le_of_ble_eq_true rfl⟩ dX5_advanceWord_20 [] [0, 1] rfl rfl rfl rfl (by decide) rfl (Nat.le_of_ble_eq_true rfl) ?_
        intro v10 w11 h12
        rcases h12 with h12 | h12
        ·
          obtain ⟨rfl, rfl, hf13⟩ := h12
          show X 0 0 [(rd, .inr (4, [.ref rta, .int (nI n), .int (nI e), .int rtk, .int (nI q), .int rva, .int rfa, .ref rlw])), (rta, .inl (cI, 160, .inl tp))] [(0, .ref rd)] 23 [.int 1]
          have hdg := hf13
          refine x_if_eq C dX5_advanceWord_23 (tgt := 39) rfl (fun q9 => absurd q9 (by decide)) (fun _ => ?_)
          refine x_aload_n C dX5_advanceWord_26 0 rfl ?_
          refine x_dup C dX5_advanceWord_27 rfl ?_
          refine x_get C inlX5 rfl 2 (by decide) gw_7_0 dX5_advanceWord_28 0 rfl rfl ?_
          refine x_iconst C dX5_advanceWord_31 (v := 1) rfl ?_
          refine x_iadd C dX5_advanceWord_32 ?_
          refine x_topi C (nI (e + 1)) (q_iadd (a := e) (b := 1) rfl (rfl : (1 : Int32) = nI 1)) ?_
          refine x_put C inlX5 rfl tyX5 tyX5_ok nmX5 2 (by decide) gw_7_0 rfl dX5_advanceWord_33 0 rfl (rfl) rfl (Nat.le_of_ble_eq_true rfl) ?_
          show X _ _ [(rd, .inr (4, [.ref rta, .int (nI n), .int (nI (e + 1)), .int rtk, .int (nI q), .int rva, .int rfa, .ref rlw])), (rta, .inl (cI, 160, .inl tp))] _ _ _
          refine x_goto C dX5_advanceWord_36 (tgt := 0) rfl ?_
          exact ihL0_0 (e + 1) (by omega) (by omega) ((p_sk_s (show e < n by omega) hdg).symm.trans hs9) (by omega)
        ·
          obtain ⟨rfl, rfl, hf14⟩ := h12
          show X 0 0 [(rd, .inr (4, [.ref rta, .int (nI n), .int (nI e), .int rtk, .int (nI q), .int rva, .int rfa, .ref rlw])), (rta, .inl (cI, 160, .inl tp))] [(0, .ref rd)] 23 [.int 0]
          have hdg := hf14
          refine x_if_eq C dX5_advanceWord_23 (tgt := 39) rfl (fun _ => ?_) (fun q9 => by first | exact absurd q9 (by decide) | exact absurd (by decide) q9)
          have he9 : p_sk p_le tp n q = e := by rw [← hs9]; first | exact p_sk_e (by omega) | exact p_sk_x (by assumption)
          refine x_aload_n C dX5_advanceWord_39 0 rfl ?_
          refine x_callV C (As := []) (st := []) (wc := [(rd, .inr (4, [.ref rta, .int (nI n), .int (nI e), .int rtk, .int (nI q), .int rva, .int rfa, .ref rlw])), (rta, .inl (cI, 160, .inl tp))]) (wr := []) (c_X5_wordNumber l dG cI cM cW cS adK adV fm rd rta rlw n tp q e rtk rva rfa (by first | assumption | omega | decide) (by first | assumption | omega | decide) (by first | assumption | omega | decide)) (rZs_ok adK adV fm) (fun _ _ _ h9 => h9) kV_X5_99 ⟨rfl, hy_X5_wordNumber⟩ ⟨Nat.le_of_ble_eq_true rfl, Nat.le_of_ble_eq_true rfl⟩ ⟨Nat.le_of_ble_eq_true rfl, Nat.le_of_ble_eq_true rfl⟩ dX5_advanceWord_40 0 rfl rfl [0, 1] [] rfl rfl rfl rfl (by decide) rfl (Nat.le_of_ble_eq_true rfl) ?_
          intro v15 w16 h17
          obtain ⟨r_18, rfl, rfl, hf19⟩ := h17
          show X 0 0 [(rd, .inr (4, [.ref rta, .int (nI n), .int (nI e), .int rtk, .int (nI q), .int rva, .int rfa, .ref rlw])), (rta, .inl (cI, 160, .inl tp))] [(0, .ref rd)] 43 [.int r_18]
          have hw9 := hf19
          refine x_istore_n C dX5_advanceWord_43 (by decide) (lv' := [(1, .int r_18), (0, .ref rd)]) rfl ?_
          refine x_aload_n C dX5_advanceWord_44 1 rfl ?_
          refine x_iload_n C dX5_advanceWord_45 0 rfl ?_
          refine x_bipush C dX5_advanceWord_46 (v := 6) rfl ?_
          refine x_isub C dX5_advanceWord_48 ?_
          refine x_put C inlX5 rfl tyX5 tyX5_ok nmX5 5 (by decide) gw_7_20 rfl dX5_advanceWord_49 0 rfl (rfl) rfl (Nat.le_of_ble_eq_true rfl) ?_
          show X _ _ [(rd, .inr (4, [.ref rta, .int (nI n), .int (nI e), .int rtk, .int (nI q), .int (r_18 - 6), .int rfa, .ref rlw])), (rta, .inl (cI, 160, .inl tp))] _ _ _
          refine x_iload_n C dX5_advanceWord_52 0 rfl ?_
          show X _ _ _ _ 53 _
          refine x_iconst C dX5_advanceWord_53 (v := (-1)) rfl ?_
          refine x_icmp_ne C dX5_advanceWord_54 (tgt := 65) rfl (fun c20 => ?_) (fun c20 => ?_)
          ·
            have hwa := c20
            refine x_aload_n C dX5_advanceWord_65 1 rfl ?_
            refine x_iload_n C dX5_advanceWord_66 0 rfl ?_
            refine x_bipush C dX5_advanceWord_67 (v := 6) rfl ?_
            refine x_icmp_ge C dX5_advanceWord_69 (tgt := 78) rfl (fun c21 => ?_) (fun c21 => ?_)
            ·
              have hwb := c21
              refine x_iconst C dX5_advanceWord_78 (v := 3) rfl ?_
              refine x_put C inlX5 rfl tyX5 tyX5_ok nmX5 3 (by decide) gw_7_12 rfl dX5_advanceWord_79 0 rfl (rfl) rfl (Nat.le_of_ble_eq_true rfl) ?_
              show X _ _ [(rd, .inr (4, [.ref rta, .int (nI n), .int (nI e), .int 3, .int (nI q), .int (r_18 - 6), .int rfa, .ref rlw])), (rta, .inl (cI, 160, .inl tp))] _ _ _
              refine E dX5_advanceWord_82 ?_
              exact ⟨e, 3, (r_18 - 6), rfl, rfl, ⟨he9.symm, by rw [he9, ← hw9]; first | exact (if_pos hwa).symm | exact ((if_neg hwa).trans (if_pos (Int32.not_le.mp hwb))).symm | exact ((if_neg hwa).trans (if_neg (Int32.not_lt.mpr hwb))).symm, by rw [he9, ← hw9]⟩⟩
            ·
              have hwb := c21
              refine x_iconst C dX5_advanceWord_72 (v := 4) rfl ?_
              refine x_iload_n C dX5_advanceWord_73 0 rfl ?_
              refine x_iadd C dX5_advanceWord_74 ?_
              refine x_goto C dX5_advanceWord_75 (tgt := 79) rfl ?_
              refine x_put C inlX5 rfl tyX5 tyX5_ok nmX5 3 (by decide) gw_7_12 rfl dX5_advanceWord_79 0 rfl (rfl) rfl (Nat.le_of_ble_eq_true rfl) ?_
              show X _ _ [(rd, .inr (4, [.ref rta, .int (nI n), .int (nI e), .int (4 + r_18), .int (nI q), .int (r_18 - 6), .int rfa, .ref rlw])), (rta, .inl (cI, 160, .inl tp))] _ _ _
              refine E dX5_advanceWord_82 ?_
              exact ⟨e, (4 + r_18), (r_18 - 6), rfl, rfl, ⟨he9.symm, by rw [he9, ← hw9]; first | exact (if_pos hwa).symm | exact ((if_neg hwa).trans (if_pos (Int32.not_le.mp hwb))).symm | exact ((if_neg hwa).trans (if_neg (Int32.not_lt.mpr hwb))).symm, by rw [he9, ← hw9]⟩⟩
          ·
            have hwa := c20
            refine x_aload_n C dX5_advanceWord_57 1 rfl ?_
            refine x_iconst C dX5_advanceWord_58 (v := 1) rfl ?_
            refine x_put C inlX5 rfl tyX5 tyX5_ok nmX5 3 (by decide) gw_7_12 rfl dX5_advanceWord_59 0 rfl (rfl) rfl (Nat.le_of_ble_eq_true rfl) ?_
            show X _ _ [(rd, .inr (4, [.ref rta, .int (nI n), .int (nI e), .int 1, .int (nI q), .int (r_18 - 6), .int rfa, .ref rlw])), (rta, .inl (cI, 160, .inl tp))] _ _ _
            refine x_goto C dX5_advanceWord_62 (tgt := 82) rfl ?_
            refine E dX5_advanceWord_82 ?_
            exact ⟨e, 1, (r_18 - 6), rfl, rfl, ⟨he9.symm, by rw [he9, ← hw9]; first | exact (if_pos hwa).symm | exact ((if_neg hwa).trans (if_pos (Int32.not_le.mp hwb))).symm | exact ((if_neg hwa).trans (if_neg (Int32.not_lt.mpr hwb))).symm, by rw [he9, ← hw9]⟩⟩
  exact L0_0 ((n - q) + 1) q (by omega) (by omega) (rfl) (Nat.lt_succ_self _)
set_option maxHeartbeats 4000000 in
set_option maxRecDepth 100000 in
theorem c_X5_advanceSign (l : Launch) (dG : va_G) (cI cM cW cS : ClassId) (rd rta rlw n : Nat) (tp : Nat → Int32) (q : Nat) (rtk rva rfa : Int32)  (hq : q < n) (hn : n ≤ 160) : rM l yX5_advanceSign cX5_advanceSign 3 none ({ frames := 0, cells := 0, slots := 0, locals := 0 } : Room) dG (tY cI cM cW cS) rZ0 [.ref rd] [(rd, .inr (4, [.ref rta, .int (nI n), .int (nI q), .int rtk, .int (nI q), .int rva, .int rfa, .ref rlw])), (rta, .inl (cI, 160, .inl tp))] (fun ov oz => ∃ (at' : Nat) (tk' : Int32), ov = none ∧ oz = [(rd, .inr (4, [.ref rta, .int (nI n), .int (nI at'), .int tk', .int (nI q), .int rva, .int rfa, .ref rlw])), (rta, .inl (cI, 160, .inl tp))] ∧ at' = q + 1 ∧ tk' = (if p_sg (tp q) = true then tp q else 1)) := by
  refine rM_ofV false (by intro h; cases h) rfl (Nat.le_of_ble_eq_true rfl) rfl (fun X C E => ?_)
  show X 0 0 [(rd, .inr (4, [.ref rta, .int (nI n), .int (nI q), .int rtk, .int (nI q), .int rva, .int rfa, .ref rlw])), (rta, .inl (cI, 160, .inl tp))] [(0, .ref rd)] 0 []
  refine x_aload_n C dX5_advanceSign_0 0 rfl ?_
  refine x_get C inlX5 rfl 0 (by decide) gw_4_1 dX5_advanceSign_1 0 rfl rfl ?_
  refine x_aload_n C dX5_advanceSign_4 0 rfl ?_
  refine x_get C inlX5 rfl 2 (by decide) gw_7_0 dX5_advanceSign_5 0 rfl rfl ?_
  refine x_iaload C 0 rfl dX5_advanceSign_8 q (q_cl rfl (by omega)) (q_ix rfl (by omega) (by omega)) 1 rfl ?_
  refine x_istore_n C dX5_advanceSign_9 (by decide) (lv' := [(1, .int (tp q)), (0, .ref rd)]) rfl ?_
  refine x_iload_n C dX5_advanceSign_10 0 rfl ?_
  refine x_bipush C dX5_advanceSign_11 (v := 40) rfl ?_
  refine x_icmp_eq C dX5_advanceSign_13 (tgt := 58) rfl (fun c1 => ?_) (fun c1 => ?_)
  ·
    have h40 := c1
    have hsg : p_sg (tp q) = true := p_sg_t (by first | exact Or.inl h40 | exact Or.inr (Or.inl h41) | exact Or.inr (Or.inr (Or.inl h59)) | exact Or.inr (Or.inr (Or.inr (Or.inl h43))) | exact Or.inr (Or.inr (Or.inr (Or.inr (Or.inl h45)))) | exact Or.inr (Or.inr (Or.inr (Or.inr (Or.inr (Or.inl h42))))) | exact Or.inr (Or.inr (Or.inr (Or.inr (Or.inr (Or.inr (Or.inl h60)))))) | exact Or.inr (Or.inr (Or.inr (Or.inr (Or.inr (Or.inr (Or.inr h61)))))))
    refine x_iconst C dX5_advanceSign_58 (v := 1) rfl ?_
    refine x_goto C dX5_advanceSign_59 (tgt := 63) rfl ?_
    refine x_istore_n C dX5_advanceSign_63 (by decide) (lv' := [(2, .int 1), (1, .int (tp q)), (0, .ref rd)]) rfl ?_
    refine x_aload_n C dX5_advanceSign_64 2 rfl ?_
    refine x_iload_n C dX5_advanceSign_65 0 rfl ?_
    refine x_if_eq C dX5_advanceSign_66 (tgt := 73) rfl (fun q9 => absurd q9 (by decide)) (fun _ => ?_)
    refine x_iload_n C dX5_advanceSign_69 1 rfl ?_
    refine x_goto C dX5_advanceSign_70 (tgt := 74) rfl ?_
    refine x_put C inlX5 rfl tyX5 tyX5_ok nmX5 3 (by decide) gw_7_12 rfl dX5_advanceSign_74 0 rfl (rfl) rfl (Nat.le_of_ble_eq_true rfl) ?_
    show X _ _ [(rd, .inr (4, [.ref rta, .int (nI n), .int (nI q), .int (tp q), .int (nI q), .int rva, .int rfa, .ref rlw])), (rta, .inl (cI, 160, .inl tp))] _ _ _
    refine x_aload_n C dX5_advanceSign_77 2 rfl ?_
    show X _ _ _ _ 78 _
    refine x_dup C dX5_advanceSign_78 rfl ?_
    refine x_get C inlX5 rfl 2 (by decide) gw_7_0 dX5_advanceSign_79 0 rfl rfl ?_
    refine x_iconst C dX5_advanceSign_82 (v := 1) rfl ?_
    refine x_iadd C dX5_advanceSign_83 ?_
    refine x_topi C (nI (q + 1)) (q_iadd (a := q) (b := 1) rfl (rfl : (1 : Int32) = nI 1)) ?_
    refine x_put C inlX5 rfl tyX5 tyX5_ok nmX5 2 (by decide) gw_7_0 rfl dX5_advanceSign_84 0 rfl (rfl) rfl (Nat.le_of_ble_eq_true rfl) ?_
    show X _ _ [(rd, .inr (4, [.ref rta, .int (nI n), .int (nI (q + 1)), .int (tp q), .int (nI q), .int rva, .int rfa, .ref rlw])), (rta, .inl (cI, 160, .inl tp))] _ _ _
    refine E dX5_advanceSign_87 ?_
    exact ⟨(q + 1), (tp q), rfl, rfl, ⟨rfl, by first | exact (if_pos hsg).symm | exact (if_neg hsg).symm⟩⟩
  ·
    have h40 := c1
    refine x_iload_n C dX5_advanceSign_16 0 rfl ?_
    refine x_bipush C dX5_advanceSign_17 (v := 41) rfl ?_
    refine x_icmp_eq C dX5_advanceSign_19 (tgt := 58) rfl (fun c2 => ?_) (fun c2 => ?_)
    ·
      have h41 := c2
      have hsg : p_sg (tp q) = true := p_sg_t (by first | exact Or.inl h40 | exact Or.inr (Or.inl h41) | exact Or.inr (Or.inr (Or.inl h59)) | exact Or.inr (Or.inr (Or.inr (Or.inl h43))) | exact Or.inr (Or.inr (Or.inr (Or.inr (Or.inl h45)))) | exact Or.inr (Or.inr (Or.inr (Or.inr (Or.inr (Or.inl h42))))) | exact Or.inr (Or.inr (Or.inr (Or.inr (Or.inr (Or.inr (Or.inl h60)))))) | exact Or.inr (Or.inr (Or.inr (Or.inr (Or.inr (Or.inr (Or.inr h61)))))))
      refine x_iconst C dX5_advanceSign_58 (v := 1) rfl ?_
      refine x_goto C dX5_advanceSign_59 (tgt := 63) rfl ?_
      refine x_istore_n C dX5_advanceSign_63 (by decide) (lv' := [(2, .int 1), (1, .int (tp q)), (0, .ref rd)]) rfl ?_
      refine x_aload_n C dX5_advanceSign_64 2 rfl ?_
      refine x_iload_n C dX5_advanceSign_65 0 rfl ?_
      refine x_if_eq C dX5_advanceSign_66 (tgt := 73) rfl (fun q9 => absurd q9 (by decide)) (fun _ => ?_)
      refine x_iload_n C dX5_advanceSign_69 1 rfl ?_
      refine x_goto C dX5_advanceSign_70 (tgt := 74) rfl ?_
      refine x_put C inlX5 rfl tyX5 tyX5_ok nmX5 3 (by decide) gw_7_12 rfl dX5_advanceSign_74 0 rfl (rfl) rfl (Nat.le_of_ble_eq_true rfl) ?_
      show X _ _ [(rd, .inr (4, [.ref rta, .int (nI n), .int (nI q), .int (tp q), .int (nI q), .int rva, .int rfa, .ref rlw])), (rta, .inl (cI, 160, .inl tp))] _ _ _
      refine x_aload_n C dX5_advanceSign_77 2 rfl ?_
      show X _ _ _ _ 78 _
      refine x_dup C dX5_advanceSign_78 rfl ?_
      refine x_get C inlX5 rfl 2 (by decide) gw_7_0 dX5_advanceSign_79 0 rfl rfl ?_
      refine x_iconst C dX5_advanceSign_82 (v := 1) rfl ?_
      refine x_iadd C dX5_advanceSign_83 ?_
      refine x_topi C (nI (q + 1)) (q_iadd (a := q) (b := 1) rfl (rfl : (1 : Int32) = nI 1)) ?_
      refine x_put C inlX5 rfl tyX5 tyX5_ok nmX5 2 (by decide) gw_7_0 rfl dX5_advanceSign_84 0 rfl (rfl) rfl (Nat.le_of_ble_eq_true rfl) ?_
      show X _ _ [(rd, .inr (4, [.ref rta, .int (nI n), .int (nI (q + 1)), .int (tp q), .int (nI q), .int rva, .int rfa, .ref rlw])), (rta, .inl (cI, 160, .inl tp))] _ _ _
      refine E dX5_advanceSign_87 ?_
      exact ⟨(q + 1), (tp q), rfl, rfl, ⟨rfl, by first | exact (if_pos hsg).symm | exact (if_neg hsg).symm⟩⟩
    ·
      have h41 := c2
      refine x_iload_n C dX5_advanceSign_22 0 rfl ?_
      refine x_bipush C dX5_advanceSign_23 (v := 59) rfl ?_
      refine x_icmp_eq C dX5_advanceSign_25 (tgt := 58) rfl (fun c3 => ?_) (fun c3 => ?_)
      ·
        have h59 := c3
        have hsg : p_sg (tp q) = true := p_sg_t (by first | exact Or.inl h40 | exact Or.inr (Or.inl h41) | exact Or.inr (Or.inr (Or.inl h59)) | exact Or.inr (Or.inr (Or.inr (Or.inl h43))) | exact Or.inr (Or.inr (Or.inr (Or.inr (Or.inl h45)))) | exact Or.inr (Or.inr (Or.inr (Or.inr (Or.inr (Or.inl h42))))) | exact Or.inr (Or.inr (Or.inr (Or.inr (Or.inr (Or.inr (Or.inl h60)))))) | exact Or.inr (Or.inr (Or.inr (Or.inr (Or.inr (Or.inr (Or.inr h61)))))))
        refine x_iconst C dX5_advanceSign_58 (v := 1) rfl ?_
        refine x_goto C dX5_advanceSign_59 (tgt := 63) rfl ?_
        refine x_istore_n C dX5_advanceSign_63 (by decide) (lv' := [(2, .int 1), (1, .int (tp q)), (0, .ref rd)]) rfl ?_
        refine x_aload_n C dX5_advanceSign_64 2 rfl ?_
        refine x_iload_n C dX5_advanceSign_65 0 rfl ?_
        refine x_if_eq C dX5_advanceSign_66 (tgt := 73) rfl (fun q9 => absurd q9 (by decide)) (fun _ => ?_)
        refine x_iload_n C dX5_advanceSign_69 1 rfl ?_
        refine x_goto C dX5_advanceSign_70 (tgt := 74) rfl ?_
        refine x_put C inlX5 rfl tyX5 tyX5_ok nmX5 3 (by decide) gw_7_12 rfl dX5_advanceSign_74 0 rfl (rfl) rfl (Nat.le_of_ble_eq_true rfl) ?_
        show X _ _ [(rd, .inr (4, [.ref rta, .int (nI n), .int (nI q), .int (tp q), .int (nI q), .int rva, .int rfa, .ref rlw])), (rta, .inl (cI, 160, .inl tp))] _ _ _
        refine x_aload_n C dX5_advanceSign_77 2 rfl ?_
        show X _ _ _ _ 78 _
        refine x_dup C dX5_advanceSign_78 rfl ?_
        refine x_get C inlX5 rfl 2 (by decide) gw_7_0 dX5_advanceSign_79 0 rfl rfl ?_
        refine x_iconst C dX5_advanceSign_82 (v := 1) rfl ?_
        refine x_iadd C dX5_advanceSign_83 ?_
        refine x_topi C (nI (q + 1)) (q_iadd (a := q) (b := 1) rfl (rfl : (1 : Int32) = nI 1)) ?_
        refine x_put C inlX5 rfl tyX5 tyX5_ok nmX5 2 (by decide) gw_7_0 rfl dX5_advanceSign_84 0 rfl (rfl) rfl (Nat.le_of_ble_eq_true rfl) ?_
        show X _ _ [(rd, .inr (4, [.ref rta, .int (nI n), .int (nI (q + 1)), .int (tp q), .int (nI q), .int rva, .int rfa, .ref rlw])), (rta, .inl (cI, 160, .inl tp))] _ _ _
        refine E dX5_advanceSign_87 ?_
        exact ⟨(q + 1), (tp q), rfl, rfl, ⟨rfl, by first | exact (if_pos hsg).symm | exact (if_neg hsg).symm⟩⟩
      ·
        have h59 := c3
        refine x_iload_n C dX5_advanceSign_28 0 rfl ?_
        refine x_bipush C dX5_advanceSign_29 (v := 43) rfl ?_
        refine x_icmp_eq C dX5_advanceSign_31 (tgt := 58) rfl (fun c4 => ?_) (fun c4 => ?_)
        ·
          have h43 := c4
          have hsg : p_sg (tp q) = true := p_sg_t (by first | exact Or.inl h40 | exact Or.inr (Or.inl h41) | exact Or.inr (Or.inr (Or.inl h59)) | exact Or.inr (Or.inr (Or.inr (Or.inl h43))) | exact Or.inr (Or.inr (Or.inr (Or.inr (Or.inl h45)))) | exact Or.inr (Or.inr (Or.inr (Or.inr (Or.inr (Or.inl h42))))) | exact Or.inr (Or.inr (Or.inr (Or.inr (Or.inr (Or.inr (Or.inl h60)))))) | exact Or.inr (Or.inr (Or.inr (Or.inr (Or.inr (Or.inr (Or.inr h61)))))))
          refine x_iconst C dX5_advanceSign_58 (v := 1) rfl ?_
          refine x_goto C dX5_advanceSign_59 (tgt := 63) rfl ?_
          refine x_istore_n C dX5_advanceSign_63 (by decide) (lv' := [(2, .int 1), (1, .int (tp q)), (0, .ref rd)]) rfl ?_
          refine x_aload_n C dX5_advanceSign_64 2 rfl ?_
          refine x_iload_n C dX5_advanceSign_65 0 rfl ?_
          refine x_if_eq C dX5_advanceSign_66 (tgt := 73) rfl (fun q9 => absurd q9 (by decide)) (fun _ => ?_)
          refine x_iload_n C dX5_advanceSign_69 1 rfl ?_
          refine x_goto C dX5_advanceSign_70 (tgt := 74) rfl ?_
          refine x_put C inlX5 rfl tyX5 tyX5_ok nmX5 3 (by decide) gw_7_12 rfl dX5_advanceSign_74 0 rfl (rfl) rfl (Nat.le_of_ble_eq_true rfl) ?_
          show X _ _ [(rd, .inr (4, [.ref rta, .int (nI n), .int (nI q), .int (tp q), .int (nI q), .int rva, .int rfa, .ref rlw])), (rta, .inl (cI, 160, .inl tp))] _ _ _
          refine x_aload_n C dX5_advanceSign_77 2 rfl ?_
          show X _ _ _ _ 78 _
          refine x_dup C dX5_advanceSign_78 rfl ?_
          refine x_get C inlX5 rfl 2 (by decide) gw_7_0 dX5_advanceSign_79 0 rfl rfl ?_
          refine x_iconst C dX5_advanceSign_82 (v := 1) rfl ?_
          refine x_iadd C dX5_advanceSign_83 ?_
          refine x_topi C (nI (q + 1)) (q_iadd (a := q) (b := 1) rfl (rfl : (1 : Int32) = nI 1)) ?_
          refine x_put C inlX5 rfl tyX5 tyX5_ok nmX5 2 (by decide) gw_7_0 rfl dX5_advanceSign_84 0 rfl (rfl) rfl (Nat.le_of_ble_eq_true rfl) ?_
          show X _ _ [(rd, .inr (4, [.ref rta, .int (nI n), .int (nI (q + 1)), .int (tp q), .int (nI q), .int rva, .int rfa, .ref rlw])), (rta, .inl (cI, 160, .inl tp))] _ _ _
          refine E dX5_advanceSign_87 ?_
          exact ⟨(q + 1), (tp q), rfl, rfl, ⟨rfl, by first | exact (if_pos hsg).symm | exact (if_neg hsg).symm⟩⟩
        ·
          have h43 := c4
          refine x_iload_n C dX5_advanceSign_34 0 rfl ?_
          refine x_bipush C dX5_advanceSign_35 (v := 45) rfl ?_
          refine x_icmp_eq C dX5_advanceSign_37 (tgt := 58) rfl (fun c5 => ?_) (fun c5 => ?_)
          ·
            have h45 := c5
            have hsg : p_sg (tp q) = true := p_sg_t (by first | exact Or.inl h40 | exact Or.inr (Or.inl h41) | exact Or.inr (Or.inr (Or.inl h59)) | exact Or.inr (Or.inr (Or.inr (Or.inl h43))) | exact Or.inr (Or.inr (Or.inr (Or.inr (Or.inl h45)))) | exact Or.inr (Or.inr (Or.inr (Or.inr (Or.inr (Or.inl h42))))) | exact Or.inr (Or.inr (Or.inr (Or.inr (Or.inr (Or.inr (Or.inl h60)))))) | exact Or.inr (Or.inr (Or.inr (Or.inr (Or.inr (Or.inr (Or.inr h61)))))))
            refine x_iconst C dX5_advanceSign_58 (v := 1) rfl ?_
            refine x_goto C dX5_advanceSign_59 (tgt := 63) rfl ?_
            refine x_istore_n C dX5_advanceSign_63 (by decide) (lv' := [(2, .int 1), (1, .int (tp q)), (0, .ref rd)]) rfl ?_
            refine x_aload_n C dX5_advanceSign_64 2 rfl ?_
            refine x_iload_n C dX5_advanceSign_65 0 rfl ?_
            refine x_if_eq C dX5_advanceSign_66 (tgt := 73) rfl (fun q9 => absurd q9 (by decide)) (fun _ => ?_)
            refine x_iload_n C dX5_advanceSign_69 1 rfl ?_
            refine x_goto C dX5_advanceSign_70 (tgt := 74) rfl ?_
            refine x_put C inlX5 rfl tyX5 tyX5_ok nmX5 3 (by decide) gw_7_12 rfl dX5_advanceSign_74 0 rfl (rfl) rfl (Nat.le_of_ble_eq_true rfl) ?_
            show X _ _ [(rd, .inr (4, [.ref rta, .int (nI n), .int (nI q), .int (tp q), .int (nI q), .int rva, .int rfa, .ref rlw])), (rta, .inl (cI, 160, .inl tp))] _ _ _
            refine x_aload_n C dX5_advanceSign_77 2 rfl ?_
            show X _ _ _ _ 78 _
            refine x_dup C dX5_advanceSign_78 rfl ?_
            refine x_get C inlX5 rfl 2 (by decide) gw_7_0 dX5_advanceSign_79 0 rfl rfl ?_
            refine x_iconst C dX5_advanceSign_82 (v := 1) rfl ?_
            refine x_iadd C dX5_advanceSign_83 ?_
            refine x_topi C (nI (q + 1)) (q_iadd (a := q) (b := 1) rfl (rfl : (1 : Int32) = nI 1)) ?_
            refine x_put C inlX5 rfl tyX5 tyX5_ok nmX5 2 (by decide) gw_7_0 rfl dX5_advanceSign_84 0 rfl (rfl) rfl (Nat.le_of_ble_eq_true rfl) ?_
            show X _ _ [(rd, .inr (4, [.ref rta, .int (nI n), .int (nI (q + 1)), .int (tp q), .int (nI q), .int rva, .int rfa, .ref rlw])), (rta, .inl (cI, 160, .inl tp))] _ _ _
            refine E dX5_advanceSign_87 ?_
            exact ⟨(q + 1), (tp q), rfl, rfl, ⟨rfl, by first | exact (if_pos hsg).symm | exact (if_neg hsg).symm⟩⟩
          ·
            have h45 := c5
            refine x_iload_n C dX5_advanceSign_40 0 rfl ?_
            refine x_bipush C dX5_advanceSign_41 (v := 42) rfl ?_
            refine x_icmp_eq C dX5_advanceSign_43 (tgt := 58) rfl (fun c6 => ?_) (fun c6 => ?_)
            ·
              have h42 := c6
              have hsg : p_sg (tp q) = true := p_sg_t (by first | exact Or.inl h40 | exact Or.inr (Or.inl h41) | exact Or.inr (Or.inr (Or.inl h59)) | exact Or.inr (Or.inr (Or.inr (Or.inl h43))) | exact Or.inr (Or.inr (Or.inr (Or.inr (Or.inl h45)))) | exact Or.inr (Or.inr (Or.inr (Or.inr (Or.inr (Or.inl h42))))) | exact Or.inr (Or.inr (Or.inr (Or.inr (Or.inr (Or.inr (Or.inl h60)))))) | exact Or.inr (Or.inr (Or.inr (Or.inr (Or.inr (Or.inr (Or.inr h61)))))))
              refine x_iconst C dX5_advanceSign_58 (v := 1) rfl ?_
              refine x_goto C dX5_advanceSign_59 (tgt := 63) rfl ?_
              refine x_istore_n C dX5_advanceSign_63 (by decide) (lv' := [(2, .int 1), (1, .int (tp q)), (0, .ref rd)]) rfl ?_
              refine x_aload_n C dX5_advanceSign_64 2 rfl ?_
              refine x_iload_n C dX5_advanceSign_65 0 rfl ?_
              refine x_if_eq C dX5_advanceSign_66 (tgt := 73) rfl (fun q9 => absurd q9 (by decide)) (fun _ => ?_)
              refine x_iload_n C dX5_advanceSign_69 1 rfl ?_
              refine x_goto C dX5_advanceSign_70 (tgt := 74) rfl ?_
              refine x_put C inlX5 rfl tyX5 tyX5_ok nmX5 3 (by decide) gw_7_12 rfl dX5_advanceSign_74 0 rfl (rfl) rfl (Nat.le_of_ble_eq_true rfl) ?_
              show X _ _ [(rd, .inr (4, [.ref rta, .int (nI n), .int (nI q), .int (tp q), .int (nI q), .int rva, .int rfa, .ref rlw])), (rta, .inl (cI, 160, .inl tp))] _ _ _
              refine x_aload_n C dX5_advanceSign_77 2 rfl ?_
              show X _ _ _ _ 78 _
              refine x_dup C dX5_advanceSign_78 rfl ?_
              refine x_get C inlX5 rfl 2 (by decide) gw_7_0 dX5_advanceSign_79 0 rfl rfl ?_
              refine x_iconst C dX5_advanceSign_82 (v := 1) rfl ?_
              refine x_iadd C dX5_advanceSign_83 ?_
              refine x_topi C (nI (q + 1)) (q_iadd (a := q) (b := 1) rfl (rfl : (1 : Int32) = nI 1)) ?_
              refine x_put C inlX5 rfl tyX5 tyX5_ok nmX5 2 (by decide) gw_7_0 rfl dX5_advanceSign_84 0 rfl (rfl) rfl (Nat.le_of_ble_eq_true rfl) ?_
              show X _ _ [(rd, .inr (4, [.ref rta, .int (nI n), .int (nI (q + 1)), .int (tp q), .int (nI q), .int rva, .int rfa, .ref rlw])), (rta, .inl (cI, 160, .inl tp))] _ _ _
              refine E dX5_advanceSign_87 ?_
              exact ⟨(q + 1), (tp q), rfl, rfl, ⟨rfl, by first | exact (if_pos hsg).symm | exact (if_neg hsg).symm⟩⟩
            ·
              have h42 := c6
              refine x_iload_n C dX5_advanceSign_46 0 rfl ?_
              refine x_bipush C dX5_advanceSign_47 (v := 60) rfl ?_
              refine x_icmp_eq C dX5_advanceSign_49 (tgt := 58) rfl (fun c7 => ?_) (fun c7 => ?_)
              ·
                have h60 := c7
                have hsg : p_sg (tp q) = true := p_sg_t (by first | exact Or.inl h40 | exact Or.inr (Or.inl h41) | exact Or.inr (Or.inr (Or.inl h59)) | exact Or.inr (Or.inr (Or.inr (Or.inl h43))) | exact Or.inr (Or.inr (Or.inr (Or.inr (Or.inl h45)))) | exact Or.inr (Or.inr (Or.inr (Or.inr (Or.inr (Or.inl h42))))) | exact Or.inr (Or.inr (Or.inr (Or.inr (Or.inr (Or.inr (Or.inl h60)))))) | exact Or.inr (Or.inr (Or.inr (Or.inr (Or.inr (Or.inr (Or.inr h61)))))))
                refine x_iconst C dX5_advanceSign_58 (v := 1) rfl ?_
                refine x_goto C dX5_advanceSign_59 (tgt := 63) rfl ?_
                refine x_istore_n C dX5_advanceSign_63 (by decide) (lv' := [(2, .int 1), (1, .int (tp q)), (0, .ref rd)]) rfl ?_
                refine x_aload_n C dX5_advanceSign_64 2 rfl ?_
                refine x_iload_n C dX5_advanceSign_65 0 rfl ?_
                refine x_if_eq C dX5_advanceSign_66 (tgt := 73) rfl (fun q9 => absurd q9 (by decide)) (fun _ => ?_)
                refine x_iload_n C dX5_advanceSign_69 1 rfl ?_
                refine x_goto C dX5_advanceSign_70 (tgt := 74) rfl ?_
                refine x_put C inlX5 rfl tyX5 tyX5_ok nmX5 3 (by decide) gw_7_12 rfl dX5_advanceSign_74 0 rfl (rfl) rfl (Nat.le_of_ble_eq_true rfl) ?_
                show X _ _ [(rd, .inr (4, [.ref rta, .int (nI n), .int (nI q), .int (tp q), .int (nI q), .int rva, .int rfa, .ref rlw])), (rta, .inl (cI, 160, .inl tp))] _ _ _
                refine x_aload_n C dX5_advanceSign_77 2 rfl ?_
                show X _ _ _ _ 78 _
                refine x_dup C dX5_advanceSign_78 rfl ?_
                refine x_get C inlX5 rfl 2 (by decide) gw_7_0 dX5_advanceSign_79 0 rfl rfl ?_
                refine x_iconst C dX5_advanceSign_82 (v := 1) rfl ?_
                refine x_iadd C dX5_advanceSign_83 ?_
                refine x_topi C (nI (q + 1)) (q_iadd (a := q) (b := 1) rfl (rfl : (1 : Int32) = nI 1)) ?_
                refine x_put C inlX5 rfl tyX5 tyX5_ok nmX5 2 (by decide) gw_7_0 rfl dX5_advanceSign_84 0 rfl (rfl) rfl (Nat.le_of_ble_eq_true rfl) ?_
                show X _ _ [(rd, .inr (4, [.ref rta, .int (nI n), .int (nI (q + 1)), .int (tp q), .int (nI q), .int rva, .int rfa, .ref rlw])), (rta, .inl (cI, 160, .inl tp))] _ _ _
                refine E dX5_advanceSign_87 ?_
                exact ⟨(q + 1), (tp q), rfl, rfl, ⟨rfl, by first | exact (if_pos hsg).symm | exact (if_neg hsg).symm⟩⟩
              ·
                have h60 := c7
                refine x_iload_n C dX5_advanceSign_52 0 rfl ?_
                refine x_bipush C dX5_advanceSign_53 (v := 61) rfl ?_
                refine x_icmp_ne C dX5_advanceSign_55 (tgt := 62) rfl (fun c8 => ?_) (fun c8 => ?_)
                ·
                  have h61 := c8
                  have hsg : ¬ p_sg (tp q) = true := p_sg_f h40 h41 h59 h43 h45 h42 h60 h61
                  refine x_iconst C dX5_advanceSign_62 (v := 0) rfl ?_
                  refine x_istore_n C dX5_advanceSign_63 (by decide) (lv' := [(2, .int 0), (1, .int (tp q)), (0, .ref rd)]) rfl ?_
                  refine x_aload_n C dX5_advanceSign_64 2 rfl ?_
                  refine x_iload_n C dX5_advanceSign_65 0 rfl ?_
                  refine x_if_eq C dX5_advanceSign_66 (tgt := 73) rfl (fun _ => ?_) (fun q9 => by first | exact absurd q9 (by decide) | exact absurd (by decide) q9)
                  refine x_iconst C dX5_advanceSign_73 (v := 1) rfl ?_
                  refine x_put C inlX5 rfl tyX5 tyX5_ok nmX5 3 (by decide) gw_7_12 rfl dX5_advanceSign_74 0 rfl (rfl) rfl (Nat.le_of_ble_eq_true rfl) ?_
                  show X _ _ [(rd, .inr (4, [.ref rta, .int (nI n), .int (nI q), .int 1, .int (nI q), .int rva, .int rfa, .ref rlw])), (rta, .inl (cI, 160, .inl tp))] _ _ _
                  refine x_aload_n C dX5_advanceSign_77 2 rfl ?_
                  refine x_dup C dX5_advanceSign_78 rfl ?_
                  refine x_get C inlX5 rfl 2 (by decide) gw_7_0 dX5_advanceSign_79 0 rfl rfl ?_
                  show X _ _ _ _ 82 _
                  refine x_iconst C dX5_advanceSign_82 (v := 1) rfl ?_
                  refine x_iadd C dX5_advanceSign_83 ?_
                  refine x_topi C (nI (q + 1)) (q_iadd (a := q) (b := 1) rfl (rfl : (1 : Int32) = nI 1)) ?_
                  refine x_put C inlX5 rfl tyX5 tyX5_ok nmX5 2 (by decide) gw_7_0 rfl dX5_advanceSign_84 0 rfl (rfl) rfl (Nat.le_of_ble_eq_true rfl) ?_
                  show X _ _ [(rd, .inr (4, [.ref rta, .int (nI n), .int (nI (q + 1)), .int 1, .int (nI q), .int rva, .int rfa, .ref rlw])), (rta, .inl (cI, 160, .inl tp))] _ _ _
                  refine E dX5_advanceSign_87 ?_
                  exact ⟨(q + 1), 1, rfl, rfl, ⟨rfl, by first | exact (if_pos hsg).symm | exact (if_neg hsg).symm⟩⟩
                ·
                  have h61 := c8
                  have hsg : p_sg (tp q) = true := p_sg_t (by first | exact Or.inl h40 | exact Or.inr (Or.inl h41) | exact Or.inr (Or.inr (Or.inl h59)) | exact Or.inr (Or.inr (Or.inr (Or.inl h43))) | exact Or.inr (Or.inr (Or.inr (Or.inr (Or.inl h45)))) | exact Or.inr (Or.inr (Or.inr (Or.inr (Or.inr (Or.inl h42))))) | exact Or.inr (Or.inr (Or.inr (Or.inr (Or.inr (Or.inr (Or.inl h60)))))) | exact Or.inr (Or.inr (Or.inr (Or.inr (Or.inr (Or.inr (Or.inr h61)))))))
                  refine x_iconst C dX5_advanceSign_58 (v := 1) rfl ?_
                  refine x_goto C dX5_advanceSign_59 (tgt := 63) rfl ?_
                  refine x_istore_n C dX5_advanceSign_63 (by decide) (lv' := [(2, .int 1), (1, .int (tp q)), (0, .ref rd)]) rfl ?_
                  refine x_aload_n C dX5_advanceSign_64 2 rfl ?_
                  refine x_iload_n C dX5_advanceSign_65 0 rfl ?_
                  refine x_if_eq C dX5_advanceSign_66 (tgt := 73) rfl (fun q9 => absurd q9 (by decide)) (fun _ => ?_)
                  refine x_iload_n C dX5_advanceSign_69 1 rfl ?_
                  refine x_goto C dX5_advanceSign_70 (tgt := 74) rfl ?_
                  refine x_put C inlX5 rfl tyX5 tyX5_ok nmX5 3 (by decide) gw_7_12 rfl dX5_advanceSign_74 0 rfl (rfl) rfl (Nat.le_of_ble_eq_true rfl) ?_
                  show X _ _ [(rd, .inr (4, [.ref rta, .int (nI n), .int (nI q), .int (tp q), .int (nI q), .int rva, .int rfa, .ref rlw])), (rta, .inl (cI, 160, .inl tp))] _ _ _
                  refine x_aload_n C dX5_advanceSign_77 2 rfl ?_
                  show X _ _ _ _ 78 _
                  refine x_dup C dX5_advanceSign_78 rfl ?_
                  refine x_get C inlX5 rfl 2 (by decide) gw_7_0 dX5_advanceSign_79 0 rfl rfl ?_
                  refine x_iconst C dX5_advanceSign_82 (v := 1) rfl ?_
                  refine x_iadd C dX5_advanceSign_83 ?_
                  refine x_topi C (nI (q + 1)) (q_iadd (a := q) (b := 1) rfl (rfl : (1 : Int32) = nI 1)) ?_
                  refine x_put C inlX5 rfl tyX5 tyX5_ok nmX5 2 (by decide) gw_7_0 rfl dX5_advanceSign_84 0 rfl (rfl) rfl (Nat.le_of_ble_eq_true rfl) ?_
                  show X _ _ [(rd, .inr (4, [.ref rta, .int (nI n), .int (nI (q + 1)), .int (tp q), .int (nI q), .int rva, .int rfa, .ref rlw])), (rta, .inl (cI, 160, .inl tp))] _ _ _
                  refine E dX5_advanceSign_87 ?_
                  exact ⟨(q + 1), (tp q), rfl, rfl, ⟨rfl, by first | exact (if_pos hsg).symm | exact (if_neg hsg).symm⟩⟩
theorem kV_X5_87 : GoodIn GW (wsV RX5 87 yX5_advanceNumber.cls yX5_advanceNumber (Cond.code yX5_advanceNumber cX5_advanceNumber 1 none :: GW)) := r_gV gw_7_16 gw_7_17 gw_7_18 gw_2_5 gw_7_19
theorem hy_X5_advanceNumber : yX5_advanceNumber.cls ≠ "java/lang/invoke/MethodHandle" ∧ yX5_advanceNumber.cls ≠ "java/lang/invoke/VarHandle" ∧ (parseMethodDescriptor yX5_advanceNumber.desc).map (fun d => d.parameters.length) = some 0 := ⟨by decide +kernel, by decide +kernel, by decide +kernel⟩
theorem kV_X5_93 : GoodIn GW (wsV RX5 93 yX5_advanceWord.cls yX5_advanceWord (Cond.code yX5_advanceWord cX5_advanceWord 2 none :: GW)) := r_gV gw_8_0 gw_8_1 gw_8_2 gw_2_5 gw_8_3
theorem hy_X5_advanceWord : yX5_advanceWord.cls ≠ "java/lang/invoke/MethodHandle" ∧ yX5_advanceWord.cls ≠ "java/lang/invoke/VarHandle" ∧ (parseMethodDescriptor yX5_advanceWord.desc).map (fun d => d.parameters.length) = some 0 := ⟨by decide +kernel, by decide +kernel, by decide +kernel⟩
theorem kV_X5_96 : GoodIn GW (wsV RX5 96 yX5_advanceSign.cls yX5_advanceSign (Cond.code yX5_advanceSign cX5_advanceSign 3 none :: GW)) := r_gV gw_8_10 gw_8_11 gw_8_12 gw_2_5 gw_8_13
theorem hy_X5_advanceSign : yX5_advanceSign.cls ≠ "java/lang/invoke/MethodHandle" ∧ yX5_advanceSign.cls ≠ "java/lang/invoke/VarHandle" ∧ (parseMethodDescriptor yX5_advanceSign.desc).map (fun d => d.parameters.length) = some 0 := ⟨by decide +kernel, by decide +kernel, by decide +kernel⟩
set_option maxHeartbeats 4000000 in
set_option maxRecDepth 100000 in
theorem c_X5_advance (l : Launch) (dG : va_G) (cI cM cW cS : ClassId) (adK adV : Nat → Nat) (fm : Option Nat) (rd rta rlw n : Nat) (tp : Nat → Int32) (a : Nat) (rtk rpl rva rfa : Int32)  (ha : a ≤ n) (hn : n ≤ 160) : rM l yX5_advance cX5_advance 1 none ({ frames := 6, cells := 0, slots := 0, locals := 131 } : Room) dG (tY cI cM cW cS) (rZs adK adV fm) [.ref rd] [(rd, .inr (4, [.ref rta, .int (nI n), .int (nI a), .int rtk, .int rpl, .int rva, .int rfa, .ref rlw])), (rta, .inl (cI, 160, .inl tp))] (fun ov oz => ∃ (at' : Nat) (pl' : Nat) (tk' : Int32) (v' : Int32), ov = none ∧ oz = [(rd, .inr (4, [.ref rta, .int (nI n), .int (nI at'), .int tk', .int (nI pl'), .int v', .int rfa, .ref rlw])), (rta, .inl (cI, 160, .inl tp))] ∧ at' = p_nx tp n a ∧ pl' = p_pl tp n a ∧ tk' = p_tk tp n a ∧ (p_tk tp n a = 2 ∨ p_tk tp n a = 3 → v' = p_vl tp n a)) := by
  refine rM_ofV false (by intro h; cases h) rfl (Nat.le_of_ble_eq_true rfl) rfl (fun X C E => ?_)
  show X 0 0 [(rd, .inr (4, [.ref rta, .int (nI n), .int (nI a), .int rtk, .int rpl, .int rva, .int rfa, .ref rlw])), (rta, .inl (cI, 160, .inl tp))] [(0, .ref rd)] 0 []
  have L0_0 : ∀ (fuel : Nat) (q : Nat), (haq : a ≤ q) → (hqn : q ≤ n) → (hs9 : p_sk p_bl tp n q = p_pl tp n a) → n - q < fuel → X 0 0 [(rd, .inr (4, [.ref rta, .int (nI n), .int (nI q), .int rtk, .int rpl, .int rva, .int rfa, .ref rlw])), (rta, .inl (cI, 160, .inl tp))] [(0, .ref rd)] 0 [] := by
    intro fuel
    induction fuel with
    | zero => intros; omega
    | succ fuel ihL0_0 =>
      intro q haq hqn hs9 hfu
      refine x_aload_n C dX5_advance_0 0 rfl ?_
      refine x_get C inlX5 rfl 2 (by decide) gw_7_0 dX5_advance_1 0 rfl rfl ?_
      refine x_aload_n C dX5_advance_4 0 rfl ?_
      refine x_get C inlX5 rfl 1 (by decide) gw_6_18 dX5_advance_5 0 rfl rfl ?_
      refine x_icmp_ge C dX5_advance_8 (tgt := 52) rfl (fun c2 => ?_) (fun c2 => ?_)
      ·
        have c2 : q ≥ n := q_ge_t rfl rfl (by omega) (by omega) c2
        have he9 : p_pl tp n a = q := by rw [← hs9]; first | exact p_sk_e (by omega) | exact p_sk_x (p_bl_f hb32 hb10)
        subst he9
        have hple := p_pl_le (tp := tp) ha
        refine x_aload_n C dX5_advance_52 0 rfl ?_
        refine x_aload_n C dX5_advance_53 0 rfl ?_
        refine x_get C inlX5 rfl 2 (by decide) gw_7_0 dX5_advance_54 0 rfl rfl ?_
        refine x_put C inlX5 rfl tyX5 tyX5_ok nmX5 4 (by decide) gw_7_11 rfl dX5_advance_57 0 rfl (rfl) rfl (Nat.le_of_ble_eq_true rfl) ?_
        show X _ _ [(rd, .inr (4, [.ref rta, .int (nI n), .int (nI (p_pl tp n a)), .int rtk, .int (nI (p_pl tp n a)), .int rva, .int rfa, .ref rlw])), (rta, .inl (cI, 160, .inl tp))] _ _ _
        refine x_aload_n C dX5_advance_60 0 rfl ?_
        refine x_get C inlX5 rfl 2 (by decide) gw_7_0 dX5_advance_61 0 rfl rfl ?_
        refine x_aload_n C dX5_advance_64 0 rfl ?_
        refine x_get C inlX5 rfl 1 (by decide) gw_6_18 dX5_advance_65 0 rfl rfl ?_
        refine x_icmp_lt C dX5_advance_68 (tgt := 79) rfl (fun c3 => ?_) (fun c3 => ?_)
        ·
          have c3 : p_pl tp n a < n := q_lt_t rfl rfl (by omega) (by omega) c3
          refine x_aload_n C dX5_advance_79 0 rfl ?_
          refine x_get C inlX5 rfl 0 (by decide) gw_4_1 dX5_advance_80 0 rfl rfl ?_
          refine x_aload_n C dX5_advance_83 0 rfl ?_
          refine x_get C inlX5 rfl 2 (by decide) gw_7_0 dX5_advance_84 0 rfl rfl ?_
          refine x_iaload C 0 rfl dX5_advance_87 (p_pl tp n a) (q_cl rfl (by omega)) (q_ix rfl (by omega) (by omega)) 1 rfl ?_
          refine x_callS C (As := [.int (tp (p_pl tp n a))]) (st := []) (wc := []) (wr := [(rd, .inr (4, [.ref rta, .int (nI n), .int (nI (p_pl tp n a)), .int rtk, .int (nI (p_pl tp n a)), .int rva, .int rfa, .ref rlw])), (rta, .inl (cI, 160, .inl tp))]) (c_X5_isDigit l dG cI cM cW cS (tp (p_pl tp n a)) ) rZ0_ok (fun _ _ _ _ => trivial) kS_X5_84 hy_X5_isDigit ⟨Nat.le_of_ble_eq_true rfl, Nat.le_of_ble_eq_true rfl⟩ ⟨Nat.le_of_ble_eq_true rfl, Nat.le_of_ble_eq_true rfl⟩ dX5_advance_88 [] [0, 1] rfl rfl rfl rfl (by decide) rfl (Nat.le_of_ble_eq_true rfl) ?_
          intro v4 w5 h6
          rcases h6 with h6 | h6
          ·
            obtain ⟨rfl, rfl, hf7⟩ := h6
            show X 0 0 [(rd, .inr (4, [.ref rta, .int (nI n), .int (nI (p_pl tp n a)), .int rtk, .int (nI (p_pl tp n a)), .int rva, .int rfa, .ref rlw])), (rta, .inl (cI, 160, .inl tp))] [(0, .ref rd)] 91 [.int 1]
            have hlt : p_pl tp n a < n := by omega
            have hdg := hf7
            refine x_if_eq C dX5_advance_91 (tgt := 101) rfl (fun q9 => absurd q9 (by decide)) (fun _ => ?_)
            refine x_aload_n C dX5_advance_94 0 rfl ?_
            refine x_callV C (As := []) (st := []) (wc := [(rd, .inr (4, [.ref rta, .int (nI n), .int (nI (p_pl tp n a)), .int rtk, .int (nI (p_pl tp n a)), .int rva, .int rfa, .ref rlw])), (rta, .inl (cI, 160, .inl tp))]) (wr := []) (c_X5_advanceNumber l dG cI cM cW cS rd rta rlw n tp (p_pl tp n a) rtk rva rfa (by first | assumption | omega | decide) (by first | assumption | omega | decide)) rZ0_ok (fun _ _ _ _ => trivial) kV_X5_87 ⟨rfl, hy_X5_advanceNumber⟩ ⟨Nat.le_of_ble_eq_true rfl, Nat.le_of_ble_eq_true rfl⟩ ⟨Nat.le_of_ble_eq_true rfl, Nat.le_of_ble_eq_true rfl⟩ dX5_advance_95 0 rfl rfl [0, 1] [] rfl rfl rfl rfl (by decide) rfl (Nat.le_of_ble_eq_true rfl) ?_
            intro v8 w9 h10
            obtain ⟨_, _, _, rfl, rfl, ⟨rfl, rfl, rfl⟩⟩ := h10
            show X 0 0 [(rd, .inr (4, [.ref rta, .int (nI n), .int (nI (p_sk p_dg tp n (p_pl tp n a))), .int (if 4 < p_sk p_dg tp n (p_pl tp n a) - (p_pl tp n a) then 1 else 2), .int (nI (p_pl tp n a)), .int (p_num tp (p_pl tp n a) (p_sk p_dg tp n (p_pl tp n a) - (p_pl tp n a))), .int rfa, .ref rlw])), (rta, .inl (cI, 160, .inl tp))] [(0, .ref rd)] 98 []
            refine x_goto C dX5_advance_98 (tgt := 127) rfl ?_
            refine E dX5_advance_127 ?_
            exact ⟨(p_sk p_dg tp n (p_pl tp n a)), (p_pl tp n a), (if 4 < p_sk p_dg tp n (p_pl tp n a) - (p_pl tp n a) then 1 else 2), (p_num tp (p_pl tp n a) (p_sk p_dg tp n (p_pl tp n a) - (p_pl tp n a))), rfl, rfl, ⟨(p_tk_dg hlt hdg).1.symm, rfl, (p_tk_dg hlt hdg).2.1.symm, fun _ => (p_tk_dg hlt hdg).2.2.symm⟩⟩
          ·
            obtain ⟨rfl, rfl, hf15⟩ := h6
            show X 0 0 [(rd, .inr (4, [.ref rta, .int (nI n), .int (nI (p_pl tp n a)), .int rtk, .int (nI (p_pl tp n a)), .int rva, .int rfa, .ref rlw])), (rta, .inl (cI, 160, .inl tp))] [(0, .ref rd)] 91 [.int 0]
            have hlt : p_pl tp n a < n := by omega
            have hndg := hf15
            refine x_if_eq C dX5_advance_91 (tgt := 101) rfl (fun _ => ?_) (fun q9 => by first | exact absurd q9 (by decide) | exact absurd (by decide) q9)
            refine x_aload_n C dX5_advance_101 0 rfl ?_
            refine x_get C inlX5 rfl 0 (by decide) gw_4_1 dX5_advance_102 0 rfl rfl ?_
            refine x_aload_n C dX5_advance_105 0 rfl ?_
            refine x_get C inlX5 rfl 2 (by decide) gw_7_0 dX5_advance_106 0 rfl rfl ?_
            refine x_iaload C 0 rfl dX5_advance_109 (p_pl tp n a) (q_cl rfl (by omega)) (q_ix rfl (by omega) (by omega)) 1 rfl ?_
            refine x_callS C (As := [.int (tp (p_pl tp n a))]) (st := []) (wc := []) (wr := [(rd, .inr (4, [.ref rta, .int (nI n), .int (nI (p_pl tp n a)), .int rtk, .int (nI (p_pl tp n a)), .int rva, .int rfa, .ref rlw])), (rta, .inl (cI, 160, .inl tp))]) (c_X5_isLetter l dG cI cM cW cS (tp (p_pl tp n a)) ) rZ0_ok (fun _ _ _ _ => trivial) kS_X5_90 hy_X5_isLetter ⟨Nat.le_of_ble_eq_true rfl, Nat.le_of_ble_eq_true rfl⟩ ⟨Nat.le_of_ble_eq_true rfl, Nat.le_of_ble_eq_true rfl⟩ dX5_advance_110 [] [0, 1] rfl rfl rfl rfl (by decide) rfl (Nat.le_of_ble_eq_true rfl) ?_
            intro v16 w17 h18
            rcases h18 with h18 | h18
            ·
              obtain ⟨rfl, rfl, hf19⟩ := h18
              show X 0 0 [(rd, .inr (4, [.ref rta, .int (nI n), .int (nI (p_pl tp n a)), .int rtk, .int (nI (p_pl tp n a)), .int rva, .int rfa, .ref rlw])), (rta, .inl (cI, 160, .inl tp))] [(0, .ref rd)] 113 [.int 1]
              have hle := hf19
              refine x_if_eq C dX5_advance_113 (tgt := 123) rfl (fun q9 => absurd q9 (by decide)) (fun _ => ?_)
              refine x_aload_n C dX5_advance_116 0 rfl ?_
              refine x_callV C (As := []) (st := []) (wc := [(rd, .inr (4, [.ref rta, .int (nI n), .int (nI (p_pl tp n a)), .int rtk, .int (nI (p_pl tp n a)), .int rva, .int rfa, .ref rlw])), (rta, .inl (cI, 160, .inl tp))]) (wr := []) (c_X5_advanceWord l dG cI cM cW cS adK adV fm rd rta rlw n tp (p_pl tp n a) rtk rva rfa (by first | assumption | omega | decide) (by first | assumption | omega | decide)) (rZs_ok adK adV fm) (fun _ _ _ h9 => h9) kV_X5_93 ⟨rfl, hy_X5_advanceWord⟩ ⟨Nat.le_of_ble_eq_true rfl, Nat.le_of_ble_eq_true rfl⟩ ⟨Nat.le_of_ble_eq_true rfl, Nat.le_of_ble_eq_true rfl⟩ dX5_advance_117 0 rfl rfl [0, 1] [] rfl rfl rfl rfl (by decide) rfl (Nat.le_of_ble_eq_true rfl) ?_
              intro v20 w21 h22
              obtain ⟨_, _, _, rfl, rfl, ⟨rfl, rfl, rfl⟩⟩ := h22
              show X 0 0 [(rd, .inr (4, [.ref rta, .int (nI n), .int (nI (p_sk p_le tp n (p_pl tp n a))), .int (if p_wix (p_w tp (p_pl tp n a) (p_sk p_le tp n (p_pl tp n a))) = -1 then 1 else if p_wix (p_w tp (p_pl tp n a) (p_sk p_le tp n (p_pl tp n a))) < 6 then 4 + p_wix (p_w tp (p_pl tp n a) (p_sk p_le tp n (p_pl tp n a))) else 3), .int (nI (p_pl tp n a)), .int (p_wix (p_w tp (p_pl tp n a) (p_sk p_le tp n (p_pl tp n a))) - 6), .int rfa, .ref rlw])), (rta, .inl (cI, 160, .inl tp))] [(0, .ref rd)] 120 []
              refine x_goto C dX5_advance_120 (tgt := 127) rfl ?_
              refine E dX5_advance_127 ?_
              exact ⟨(p_sk p_le tp n (p_pl tp n a)), (p_pl tp n a), (if p_wix (p_w tp (p_pl tp n a) (p_sk p_le tp n (p_pl tp n a))) = -1 then 1 else if p_wix (p_w tp (p_pl tp n a) (p_sk p_le tp n (p_pl tp n a))) < 6 then 4 + p_wix (p_w tp (p_pl tp n a) (p_sk p_le tp n (p_pl tp n a))) else 3), (p_wix (p_w tp (p_pl tp n a) (p_sk p_le tp n (p_pl tp n a))) - 6), rfl, rfl, ⟨(p_tk_le hlt hndg hle).1.symm, rfl, by rw [(p_tk_le hlt hndg hle).2.2.1, (p_tk_le hlt hndg hle).2.1], fun _ => by rw [(p_tk_le hlt hndg hle).2.2.2, (p_tk_le hlt hndg hle).2.1]⟩⟩
            ·
              obtain ⟨rfl, rfl, hf27⟩ := h18
              show X 0 0 [(rd, .inr (4, [.ref rta, .int (nI n), .int (nI (p_pl tp n a)), .int rtk, .int (nI (p_pl tp n a)), .int rva, .int rfa, .ref rlw])), (rta, .inl (cI, 160, .inl tp))] [(0, .ref rd)] 113 [.int 0]
              have hnle := hf27
              refine x_if_eq C dX5_advance_113 (tgt := 123) rfl (fun _ => ?_) (fun q9 => by first | exact absurd q9 (by decide) | exact absurd (by decide) q9)
              refine x_aload_n C dX5_advance_123 0 rfl ?_
              refine x_callV C (As := []) (st := []) (wc := [(rd, .inr (4, [.ref rta, .int (nI n), .int (nI (p_pl tp n a)), .int rtk, .int (nI (p_pl tp n a)), .int rva, .int rfa, .ref rlw])), (rta, .inl (cI, 160, .inl tp))]) (wr := []) (c_X5_advanceSign l dG cI cM cW cS rd rta rlw n tp (p_pl tp n a) rtk rva rfa (by first | assumption | omega | decide) (by first | assumption | omega | decide)) rZ0_ok (fun _ _ _ _ => trivial) kV_X5_96 ⟨rfl, hy_X5_advanceSign⟩ ⟨Nat.le_of_ble_eq_true rfl, Nat.le_of_ble_eq_true rfl⟩ ⟨Nat.le_of_ble_eq_true rfl, Nat.le_of_ble_eq_true rfl⟩ dX5_advance_124 0 rfl rfl [0, 1] [] rfl rfl rfl rfl (by decide) rfl (Nat.le_of_ble_eq_true rfl) ?_
              intro v28 w29 h30
              obtain ⟨_, _, rfl, rfl, ⟨rfl, rfl⟩⟩ := h30
              show X 0 0 [(rd, .inr (4, [.ref rta, .int (nI n), .int (nI ((p_pl tp n a) + 1)), .int (if p_sg (tp (p_pl tp n a)) = true then tp (p_pl tp n a) else 1), .int (nI (p_pl tp n a)), .int rva, .int rfa, .ref rlw])), (rta, .inl (cI, 160, .inl tp))] [(0, .ref rd)] 127 []
              refine E dX5_advance_127 ?_
              exact ⟨((p_pl tp n a) + 1), (p_pl tp n a), (if p_sg (tp (p_pl tp n a)) = true then tp (p_pl tp n a) else 1), rva, rfl, rfl, ⟨(p_tk_sg hlt hndg hnle).1.symm, rfl, (p_tk_sg hlt hndg hnle).2.symm, fun h9 => p_sg_no (by rw [(p_tk_sg hlt hndg hnle).2] at h9; exact h9)⟩⟩
        ·
          have c3 : p_pl tp n a ≥ n := q_lt_f rfl rfl (by omega) (by omega) c3
          refine x_aload_n C dX5_advance_71 0 rfl ?_
          refine x_iconst C dX5_advance_72 (v := 0) rfl ?_
          refine x_put C inlX5 rfl tyX5 tyX5_ok nmX5 3 (by decide) gw_7_12 rfl dX5_advance_73 0 rfl (rfl) rfl (Nat.le_of_ble_eq_true rfl) ?_
          show X _ _ [(rd, .inr (4, [.ref rta, .int (nI n), .int (nI (p_pl tp n a)), .int 0, .int (nI (p_pl tp n a)), .int rva, .int rfa, .ref rlw])), (rta, .inl (cI, 160, .inl tp))] _ _ _
          refine x_goto C dX5_advance_76 (tgt := 127) rfl ?_
          refine E dX5_advance_127 ?_
          exact ⟨(p_pl tp n a), (p_pl tp n a), 0, rva, rfl, rfl, ⟨(p_tk_end (by omega)).1.symm, rfl, (p_tk_end (by omega)).2.symm, fun h9 => by rw [(p_tk_end (by omega)).2] at h9; exact absurd h9 (by decide)⟩⟩
      ·
        have c2 : q < n := q_ge_f rfl rfl (by omega) (by omega) c2
        refine x_aload_n C dX5_advance_11 0 rfl ?_
        refine x_get C inlX5 rfl 0 (by decide) gw_4_1 dX5_advance_12 0 rfl rfl ?_
        refine x_aload_n C dX5_advance_15 0 rfl ?_
        refine x_get C inlX5 rfl 2 (by decide) gw_7_0 dX5_advance_16 0 rfl rfl ?_
        refine x_iaload C 0 rfl dX5_advance_19 q (q_cl rfl (by omega)) (q_ix rfl (by omega) (by omega)) 1 rfl ?_
        refine x_bipush C dX5_advance_20 (v := 32) rfl ?_
        refine x_icmp_eq C dX5_advance_22 (tgt := 39) rfl (fun c34 => ?_) (fun c34 => ?_)
        ·
          have hb32 := c34
          refine x_aload_n C dX5_advance_39 0 rfl ?_
          refine x_dup C dX5_advance_40 rfl ?_
          refine x_get C inlX5 rfl 2 (by decide) gw_7_0 dX5_advance_41 0 rfl rfl ?_
          refine x_iconst C dX5_advance_44 (v := 1) rfl ?_
          refine x_iadd C dX5_advance_45 ?_
          refine x_topi C (nI (q + 1)) (q_iadd (a := q) (b := 1) rfl (rfl : (1 : Int32) = nI 1)) ?_
          refine x_put C inlX5 rfl tyX5 tyX5_ok nmX5 2 (by decide) gw_7_0 rfl dX5_advance_46 0 rfl (rfl) rfl (Nat.le_of_ble_eq_true rfl) ?_
          show X _ _ [(rd, .inr (4, [.ref rta, .int (nI n), .int (nI (q + 1)), .int rtk, .int rpl, .int rva, .int rfa, .ref rlw])), (rta, .inl (cI, 160, .inl tp))] _ _ _
          refine x_goto C dX5_advance_49 (tgt := 0) rfl ?_
          exact ihL0_0 (q + 1) (by omega) (by omega) ((p_sk_s (show q < n by omega) (p_bl_t (by first | exact Or.inl hb32 | exact Or.inr hb10))).symm.trans hs9) (by omega)
        ·
          have hb32 := c34
          refine x_aload_n C dX5_advance_25 0 rfl ?_
          refine x_get C inlX5 rfl 0 (by decide) gw_4_1 dX5_advance_26 0 rfl rfl ?_
          refine x_aload_n C dX5_advance_29 0 rfl ?_
          refine x_get C inlX5 rfl 2 (by decide) gw_7_0 dX5_advance_30 0 rfl rfl ?_
          refine x_iaload C 0 rfl dX5_advance_33 q (q_cl rfl (by omega)) (q_ix rfl (by omega) (by omega)) 1 rfl ?_
          refine x_bipush C dX5_advance_34 (v := 10) rfl ?_
          refine x_icmp_ne C dX5_advance_36 (tgt := 52) rfl (fun c35 => ?_) (fun c35 => ?_)
          ·
            have hb10 := c35
            have he9 : p_pl tp n a = q := by rw [← hs9]; first | exact p_sk_e (by omega) | exact p_sk_x (p_bl_f hb32 hb10)
            subst he9
            have hple := p_pl_le (tp := tp) ha
            refine x_aload_n C dX5_advance_52 0 rfl ?_
            refine x_aload_n C dX5_advance_53 0 rfl ?_
            refine x_get C inlX5 rfl 2 (by decide) gw_7_0 dX5_advance_54 0 rfl rfl ?_
            refine x_put C inlX5 rfl tyX5 tyX5_ok nmX5 4 (by decide) gw_7_11 rfl dX5_advance_57 0 rfl (rfl) rfl (Nat.le_of_ble_eq_true rfl) ?_
            show X _ _ [(rd, .inr (4, [.ref rta, .int (nI n), .int (nI (p_pl tp n a)), .int rtk, .int (nI (p_pl tp n a)), .int rva, .int rfa, .ref rlw])), (rta, .inl (cI, 160, .inl tp))] _ _ _
            refine x_aload_n C dX5_advance_60 0 rfl ?_
            refine x_get C inlX5 rfl 2 (by decide) gw_7_0 dX5_advance_61 0 rfl rfl ?_
            refine x_aload_n C dX5_advance_64 0 rfl ?_
            refine x_get C inlX5 rfl 1 (by decide) gw_6_18 dX5_advance_65 0 rfl rfl ?_
            refine x_icmp_lt C dX5_advance_68 (tgt := 79) rfl (fun c36 => ?_) (fun c36 => ?_)
            ·
              have c36 : p_pl tp n a < n := q_lt_t rfl rfl (by omega) (by omega) c36
              refine x_aload_n C dX5_advance_79 0 rfl ?_
              refine x_get C inlX5 rfl 0 (by decide) gw_4_1 dX5_advance_80 0 rfl rfl ?_
              refine x_aload_n C dX5_advance_83 0 rfl ?_
              refine x_get C inlX5 rfl 2 (by decide) gw_7_0 dX5_advance_84 0 rfl rfl ?_
              refine x_iaload C 0 rfl dX5_advance_87 (p_pl tp n a) (q_cl rfl (by omega)) (q_ix rfl (by omega) (by omega)) 1 rfl ?_
              refine x_callS C (As := [.int (tp (p_pl tp n a))]) (st := []) (wc := []) (wr := [(rd, .inr (4, [.ref rta, .int (nI n), .int (nI (p_pl tp n a)), .int rtk, .int (nI (p_pl tp n a)), .int rva, .int rfa, .ref rlw])), (rta, .inl (cI, 160, .inl tp))]) (c_X5_isDigit l dG cI cM cW cS (tp (p_pl tp n a)) ) rZ0_ok (fun _ _ _ _ => trivial) kS_X5_84 hy_X5_isDigit ⟨Nat.le_of_ble_eq_true rfl, Nat.le_of_ble_eq_true rfl⟩ ⟨Nat.le_of_ble_eq_true rfl, Nat.le_of_ble_eq_true rfl⟩ dX5_advance_88 [] [0, 1] rfl rfl rfl rfl (by decide) rfl (Nat.le_of_ble_eq_true rfl) ?_
              intro v37 w38 h39
              rcases h39 with h39 | h39
              ·
                obtain ⟨rfl, rfl, hf40⟩ := h39
                show X 0 0 [(rd, .inr (4, [.ref rta, .int (nI n), .int (nI (p_pl tp n a)), .int rtk, .int (nI (p_pl tp n a)), .int rva, .int rfa, .ref rlw])), (rta, .inl (cI, 160, .inl tp))] [(0, .ref rd)] 91 [.int 1]
                have hlt : p_pl tp n a < n := by omega
                have hdg := hf40
                refine x_if_eq C dX5_advance_91 (tgt := 101) rfl (fun q9 => absurd q9 (by decide)) (fun _ => ?_)
                refine x_aload_n C dX5_advance_94 0 rfl ?_
                refine x_callV C (As := []) (st := []) (wc := [(rd, .inr (4, [.ref rta, .int (nI n), .int (nI (p_pl tp n a)), .int rtk, .int (nI (p_pl tp n a)), .int rva, .int rfa, .ref rlw])), (rta, .inl (cI, 160, .inl tp))]) (wr := []) (c_X5_advanceNumber l dG cI cM cW cS rd rta rlw n tp (p_pl tp n a) rtk rva rfa (by first | assumption | omega | decide) (by first | assumption | omega | decide)) rZ0_ok (fun _ _ _ _ => trivial) kV_X5_87 ⟨rfl, hy_X5_advanceNumber⟩ ⟨Nat.le_of_ble_eq_true rfl, Nat.le_of_ble_eq_true rfl⟩ ⟨Nat.le_of_ble_eq_true rfl, Nat.le_of_ble_eq_true rfl⟩ dX5_advance_95 0 rfl rfl [0, 1] [] rfl rfl rfl rfl (by decide) rfl (Nat.le_of_ble_eq_true rfl) ?_
                intro v41 w42 h43
                obtain ⟨_, _, _, rfl, rfl, ⟨rfl, rfl, rfl⟩⟩ := h43
                show X 0 0 [(rd, .inr (4, [.ref rta, .int (nI n), .int (nI (p_sk p_dg tp n (p_pl tp n a))), .int (if 4 < p_sk p_dg tp n (p_pl tp n a) - (p_pl tp n a) then 1 else 2), .int (nI (p_pl tp n a)), .int (p_num tp (p_pl tp n a) (p_sk p_dg tp n (p_pl tp n a) - (p_pl tp n a))), .int rfa, .ref rlw])), (rta, .inl (cI, 160, .inl tp))] [(0, .ref rd)] 98 []
                refine x_goto C dX5_advance_98 (tgt := 127) rfl ?_
                refine E dX5_advance_127 ?_
                exact ⟨(p_sk p_dg tp n (p_pl tp n a)), (p_pl tp n a), (if 4 < p_sk p_dg tp n (p_pl tp n a) - (p_pl tp n a) then 1 else 2), (p_num tp (p_pl tp n a) (p_sk p_dg tp n (p_pl tp n a) - (p_pl tp n a))), rfl, rfl, ⟨(p_tk_dg hlt hdg).1.symm, rfl, (p_tk_dg hlt hdg).2.1.symm, fun _ => (p_tk_dg hlt hdg).2.2.symm⟩⟩
              ·
                obtain ⟨rfl, rfl, hf48⟩ := h39
                show X 0 0 [(rd, .inr (4, [.ref rta, .int (nI n), .int (nI (p_pl tp n a)), .int rtk, .int (nI (p_pl tp n a)), .int rva, .int rfa, .ref rlw])), (rta, .inl (cI, 160, .inl tp))] [(0, .ref rd)] 91 [.int 0]
                have hlt : p_pl tp n a < n := by omega
                have hndg := hf48
                refine x_if_eq C dX5_advance_91 (tgt := 101) rfl (fun _ => ?_) (fun q9 => by first | exact absurd q9 (by decide) | exact absurd (by decide) q9)
                refine x_aload_n C dX5_advance_101 0 rfl ?_
                refine x_get C inlX5 rfl 0 (by decide) gw_4_1 dX5_advance_102 0 rfl rfl ?_
                refine x_aload_n C dX5_advance_105 0 rfl ?_
                refine x_get C inlX5 rfl 2 (by decide) gw_7_0 dX5_advance_106 0 rfl rfl ?_
                refine x_iaload C 0 rfl dX5_advance_109 (p_pl tp n a) (q_cl rfl (by omega)) (q_ix rfl (by omega) (by omega)) 1 rfl ?_
                refine x_callS C (As := [.int (tp (p_pl tp n a))]) (st := []) (wc := []) (wr := [(rd, .inr (4, [.ref rta, .int (nI n), .int (nI (p_pl tp n a)), .int rtk, .int (nI (p_pl tp n a)), .int rva, .int rfa, .ref rlw])), (rta, .inl (cI, 160, .inl tp))]) (c_X5_isLetter l dG cI cM cW cS (tp (p_pl tp n a)) ) rZ0_ok (fun _ _ _ _ => trivial) kS_X5_90 hy_X5_isLetter ⟨Nat.le_of_ble_eq_true rfl, Nat.le_of_ble_eq_true rfl⟩ ⟨Nat.le_of_ble_eq_true rfl, Nat.le_of_ble_eq_true rfl⟩ dX5_advance_110 [] [0, 1] rfl rfl rfl rfl (by decide) rfl (Nat.le_of_ble_eq_true rfl) ?_
                intro v49 w50 h51
                rcases h51 with h51 | h51
                ·
                  obtain ⟨rfl, rfl, hf52⟩ := h51
                  show X 0 0 [(rd, .inr (4, [.ref rta, .int (nI n), .int (nI (p_pl tp n a)), .int rtk, .int (nI (p_pl tp n a)), .int rva, .int rfa, .ref rlw])), (rta, .inl (cI, 160, .inl tp))] [(0, .ref rd)] 113 [.int 1]
                  have hle := hf52
                  refine x_if_eq C dX5_advance_113 (tgt := 123) rfl (fun q9 => absurd q9 (by decide)) (fun _ => ?_)
                  refine x_aload_n C dX5_advance_116 0 rfl ?_
                  refine x_callV C (As := []) (st := []) (wc := [(rd, .inr (4, [.ref rta, .int (nI n), .int (nI (p_pl tp n a)), .int rtk, .int (nI (p_pl tp n a)), .int rva, .int rfa, .ref rlw])), (rta, .inl (cI, 160, .inl tp))]) (wr := []) (c_X5_advanceWord l dG cI cM cW cS adK adV fm rd rta rlw n tp (p_pl tp n a) rtk rva rfa (by first | assumption | omega | decide) (by first | assumption | omega | decide)) (rZs_ok adK adV fm) (fun _ _ _ h9 => h9) kV_X5_93 ⟨rfl, hy_X5_advanceWord⟩ ⟨Nat.le_of_ble_eq_true rfl, Nat.le_of_ble_eq_true rfl⟩ ⟨Nat.le_of_ble_eq_true rfl, Nat.le_of_ble_eq_true rfl⟩ dX5_advance_117 0 rfl rfl [0, 1] [] rfl rfl rfl rfl (by decide) rfl (Nat.le_of_ble_eq_true rfl) ?_
                  intro v53 w54 h55
                  obtain ⟨_, _, _, rfl, rfl, ⟨rfl, rfl, rfl⟩⟩ := h55
                  show X 0 0 [(rd, .inr (4, [.ref rta, .int (nI n), .int (nI (p_sk p_le tp n (p_pl tp n a))), .int (if p_wix (p_w tp (p_pl tp n a) (p_sk p_le tp n (p_pl tp n a))) = -1 then 1 else if p_wix (p_w tp (p_pl tp n a) (p_sk p_le tp n (p_pl tp n a))) < 6 then 4 + p_wix (p_w tp (p_pl tp n a) (p_sk p_le tp n (p_pl tp n a))) else 3), .int (nI (p_pl tp n a)), .int (p_wix (p_w tp (p_pl tp n a) (p_sk p_le tp n (p_pl tp n a))) - 6), .int rfa, .ref rlw])), (rta, .inl (cI, 160, .inl tp))] [(0, .ref rd)] 120 []
                  refine x_goto C dX5_advance_120 (tgt := 127) rfl ?_
                  refine E dX5_advance_127 ?_
                  exact ⟨(p_sk p_le tp n (p_pl tp n a)), (p_pl tp n a), (if p_wix (p_w tp (p_pl tp n a) (p_sk p_le tp n (p_pl tp n a))) = -1 then 1 else if p_wix (p_w tp (p_pl tp n a) (p_sk p_le tp n (p_pl tp n a))) < 6 then 4 + p_wix (p_w tp (p_pl tp n a) (p_sk p_le tp n (p_pl tp n a))) else 3), (p_wix (p_w tp (p_pl tp n a) (p_sk p_le tp n (p_pl tp n a))) - 6), rfl, rfl, ⟨(p_tk_le hlt hndg hle).1.symm, rfl, by rw [(p_tk_le hlt hndg hle).2.2.1, (p_tk_le hlt hndg hle).2.1], fun _ => by rw [(p_tk_le hlt hndg hle).2.2.2, (p_tk_le hlt hndg hle).2.1]⟩⟩
                ·
                  obtain ⟨rfl, rfl, hf60⟩ := h51
                  show X 0 0 [(rd, .inr (4, [.ref rta, .int (nI n), .int (nI (p_pl tp n a)), .int rtk, .int (nI (p_pl tp n a)), .int rva, .int rfa, .ref rlw])), (rta, .inl (cI, 160, .inl tp))] [(0, .ref rd)] 113 [.int 0]
                  have hnle := hf60
                  refine x_if_eq C dX5_advance_113 (tgt := 123) rfl (fun _ => ?_) (fun q9 => by first | exact absurd q9 (by decide) | exact absurd (by decide) q9)
                  refine x_aload_n C dX5_advance_123 0 rfl ?_
                  refine x_callV C (As := []) (st := []) (wc := [(rd, .inr (4, [.ref rta, .int (nI n), .int (nI (p_pl tp n a)), .int rtk, .int (nI (p_pl tp n a)), .int rva, .int rfa, .ref rlw])), (rta, .inl (cI, 160, .inl tp))]) (wr := []) (c_X5_advanceSign l dG cI cM cW cS rd rta rlw n tp (p_pl tp n a) rtk rva rfa (by first | assumption | omega | decide) (by first | assumption | omega | decide)) rZ0_ok (fun _ _ _ _ => trivial) kV_X5_96 ⟨rfl, hy_X5_advanceSign⟩ ⟨Nat.le_of_ble_eq_true rfl, Nat.le_of_ble_eq_true rfl⟩ ⟨Nat.le_of_ble_eq_true rfl, Nat.le_of_ble_eq_true rfl⟩ dX5_advance_124 0 rfl rfl [0, 1] [] rfl rfl rfl rfl (by decide) rfl (Nat.le_of_ble_eq_true rfl) ?_
                  intro v61 w62 h63
                  obtain ⟨_, _, rfl, rfl, ⟨rfl, rfl⟩⟩ := h63
                  show X 0 0 [(rd, .inr (4, [.ref rta, .int (nI n), .int (nI ((p_pl tp n a) + 1)), .int (if p_sg (tp (p_pl tp n a)) = true then tp (p_pl tp n a) else 1), .int (nI (p_pl tp n a)), .int rva, .int rfa, .ref rlw])), (rta, .inl (cI, 160, .inl tp))] [(0, .ref rd)] 127 []
                  refine E dX5_advance_127 ?_
                  exact ⟨((p_pl tp n a) + 1), (p_pl tp n a), (if p_sg (tp (p_pl tp n a)) = true then tp (p_pl tp n a) else 1), rva, rfl, rfl, ⟨(p_tk_sg hlt hndg hnle).1.symm, rfl, (p_tk_sg hlt hndg hnle).2.symm, fun h9 => p_sg_no (by rw [(p_tk_sg hlt hndg hnle).2] at h9; exact h9)⟩⟩
            ·
              have c36 : p_pl tp n a ≥ n := q_lt_f rfl rfl (by omega) (by omega) c36
              refine x_aload_n C dX5_advance_71 0 rfl ?_
              refine x_iconst C dX5_advance_72 (v := 0) rfl ?_
              refine x_put C inlX5 rfl tyX5 tyX5_ok nmX5 3 (by decide) gw_7_12 rfl dX5_advance_73 0 rfl (rfl) rfl (Nat.le_of_ble_eq_true rfl) ?_
              show X _ _ [(rd, .inr (4, [.ref rta, .int (nI n), .int (nI (p_pl tp n a)), .int 0, .int (nI (p_pl tp n a)), .int rva, .int rfa, .ref rlw])), (rta, .inl (cI, 160, .inl tp))] _ _ _
              refine x_goto C dX5_advance_76 (tgt := 127) rfl ?_
              refine E dX5_advance_127 ?_
              exact ⟨(p_pl tp n a), (p_pl tp n a), 0, rva, rfl, rfl, ⟨(p_tk_end (by omega)).1.symm, rfl, (p_tk_end (by omega)).2.symm, fun h9 => by rw [(p_tk_end (by omega)).2] at h9; exact absurd h9 (by decide)⟩⟩
          ·
            have hb10 := c35
            refine x_aload_n C dX5_advance_39 0 rfl ?_
            refine x_dup C dX5_advance_40 rfl ?_
            refine x_get C inlX5 rfl 2 (by decide) gw_7_0 dX5_advance_41 0 rfl rfl ?_
            refine x_iconst C dX5_advance_44 (v := 1) rfl ?_
            refine x_iadd C dX5_advance_45 ?_
            refine x_topi C (nI (q + 1)) (q_iadd (a := q) (b := 1) rfl (rfl : (1 : Int32) = nI 1)) ?_
            refine x_put C inlX5 rfl tyX5 tyX5_ok nmX5 2 (by decide) gw_7_0 rfl dX5_advance_46 0 rfl (rfl) rfl (Nat.le_of_ble_eq_true rfl) ?_
            show X _ _ [(rd, .inr (4, [.ref rta, .int (nI n), .int (nI (q + 1)), .int rtk, .int rpl, .int rva, .int rfa, .ref rlw])), (rta, .inl (cI, 160, .inl tp))] _ _ _
            refine x_goto C dX5_advance_49 (tgt := 0) rfl ?_
            exact ihL0_0 (q + 1) (by omega) (by omega) ((p_sk_s (show q < n by omega) (p_bl_t (by first | exact Or.inl hb32 | exact Or.inr hb10))).symm.trans hs9) (by omega)
  exact L0_0 ((n - a) + 1) a (by omega) (by omega) (rfl) (Nat.lt_succ_self _)
set_option maxHeartbeats 4000000 in
set_option maxRecDepth 100000 in
theorem c_X5_has (l : Launch) (dG : va_G) (cI cM cW cS : ClassId) (rd rta rlw n : Nat) (tp : Nat → Int32) (rat rtk rpl rva rfa w : Int32) : rM l yX5_has cX5_has 2 (some .boolean) ({ frames := 0, cells := 0, slots := 0, locals := 0 } : Room) dG (tY cI cM cW cS) rZ0 [.ref rd, .int w] [(rd, .inr (4, [.ref rta, .int (nI n), .int rat, .int rtk, .int rpl, .int rva, .int rfa, .ref rlw]))] (fun ov oz => (ov = some (.int 1) ∧ oz = [(rd, .inr (4, [.ref rta, .int (nI n), .int rat, .int rtk, .int rpl, .int rva, .int rfa, .ref rlw]))] ∧ rfa = -1 ∧ rtk = w) ∨ (ov = some (.int 0) ∧ oz = [(rd, .inr (4, [.ref rta, .int (nI n), .int rat, .int rtk, .int rpl, .int rva, .int rfa, .ref rlw]))] ∧ ¬ (rfa = -1 ∧ rtk = w))) := by
  refine rM_ofI rfl (Nat.le_of_ble_eq_true rfl) rfl (fun X C E => ?_)
  show X 0 0 [(rd, .inr (4, [.ref rta, .int (nI n), .int rat, .int rtk, .int rpl, .int rva, .int rfa, .ref rlw]))] [(0, .ref rd), (1, .int w)] 0 []
  refine x_aload_n C dX5_has_0 0 rfl ?_
  refine x_get C inlX5 rfl 6 (by decide) gw_7_1 dX5_has_1 0 rfl rfl ?_
  refine x_iconst C dX5_has_4 (v := (-1)) rfl ?_
  refine x_icmp_ne C dX5_has_5 (tgt := 20) rfl (fun c1 => ?_) (fun c1 => ?_)
  ·
    have hA := c1
    refine x_iconst C dX5_has_20 (v := 0) rfl ?_
    refine E dX5_has_21 (rfl) ?_
    exact Or.inr (⟨rfl, rfl, by first | exact fun h9 => hB h9.2 | exact fun h9 => hA h9.1⟩)
  ·
    have hA := c1
    refine x_aload_n C dX5_has_8 0 rfl ?_
    refine x_get C inlX5 rfl 3 (by decide) gw_7_12 dX5_has_9 0 rfl rfl ?_
    refine x_iload_n C dX5_has_12 1 rfl ?_
    refine x_icmp_ne C dX5_has_13 (tgt := 20) rfl (fun c2 => ?_) (fun c2 => ?_)
    ·
      have hB := c2
      refine x_iconst C dX5_has_20 (v := 0) rfl ?_
      refine E dX5_has_21 (rfl) ?_
      exact Or.inr (⟨rfl, rfl, by first | exact fun h9 => hB h9.2 | exact fun h9 => hA h9.1⟩)
    ·
      have hB := c2
      refine x_iconst C dX5_has_16 (v := 1) rfl ?_
      refine x_goto C dX5_has_17 (tgt := 21) rfl ?_
      refine E dX5_has_21 (rfl) ?_
      exact Or.inl ⟨rfl, rfl, ⟨hA, hB⟩⟩
set_option maxHeartbeats 4000000 in
set_option maxRecDepth 100000 in
theorem c_X5_faultHere (l : Launch) (dG : va_G) (cI cM cW cS : ClassId) (rd rta rlw n : Nat) (tp : Nat → Int32) (rat rtk rpl rva : Int32) : rM l yX5_faultHere cX5_faultHere 1 none ({ frames := 0, cells := 0, slots := 0, locals := 0 } : Room) dG (tY cI cM cW cS) rZ0 [.ref rd] [(rd, .inr (4, [.ref rta, .int (nI n), .int rat, .int rtk, .int rpl, .int rva, .int (-1), .ref rlw]))] (fun ov oz => ov = none ∧ oz = [(rd, .inr (4, [.ref rta, .int (nI n), .int rat, .int rtk, .int rpl, .int rva, .int rpl, .ref rlw]))] ∧ True) := by
  refine rM_ofV false (by intro h; cases h) rfl (Nat.le_of_ble_eq_true rfl) rfl (fun X C E => ?_)
  show X 0 0 [(rd, .inr (4, [.ref rta, .int (nI n), .int rat, .int rtk, .int rpl, .int rva, .int (-1), .ref rlw]))] [(0, .ref rd)] 0 []
  refine x_aload_n C dX5_faultHere_0 0 rfl ?_
  refine x_get C inlX5 rfl 6 (by decide) gw_7_1 dX5_faultHere_1 0 rfl rfl ?_
  refine x_iconst C dX5_faultHere_4 (v := (-1)) rfl ?_
  refine x_icmp_ne C dX5_faultHere_5 (tgt := 16) rfl (fun q9 => absurd q9 (by decide)) (fun _ => ?_)
  refine x_aload_n C dX5_faultHere_8 0 rfl ?_
  refine x_aload_n C dX5_faultHere_9 0 rfl ?_
  refine x_get C inlX5 rfl 4 (by decide) gw_7_11 dX5_faultHere_10 0 rfl rfl ?_
  refine x_put C inlX5 rfl tyX5 tyX5_ok nmX5 6 (by decide) gw_7_1 rfl dX5_faultHere_13 0 rfl (rfl) rfl (Nat.le_of_ble_eq_true rfl) ?_
  show X _ _ [(rd, .inr (4, [.ref rta, .int (nI n), .int rat, .int rtk, .int rpl, .int rva, .int rpl, .ref rlw]))] _ _ _
  refine E dX5_faultHere_16 ?_
  exact ⟨rfl, rfl, by trivial⟩
set_option maxHeartbeats 4000000 in
set_option maxRecDepth 100000 in
theorem c_X5_faultHere_f (l : Launch) (dG : va_G) (cI cM cW cS : ClassId) (rd rta rlw n : Nat) (tp : Nat → Int32) (rat rtk rpl rva : Int32) (f : Nat) (hf : f < 1000) : rM l yX5_faultHere cX5_faultHere 1 none ({ frames := 0, cells := 0, slots := 0, locals := 0 } : Room) dG (tY cI cM cW cS) rZ0 [.ref rd] [(rd, .inr (4, [.ref rta, .int (nI n), .int rat, .int rtk, .int rpl, .int rva, .int (nI f), .ref rlw]))] (fun ov oz => ov = none ∧ oz = [(rd, .inr (4, [.ref rta, .int (nI n), .int rat, .int rtk, .int rpl, .int rva, .int (nI f), .ref rlw]))] ∧ True) := by
  refine rM_ofV false (by intro h; cases h) rfl (Nat.le_of_ble_eq_true rfl) rfl (fun X C E => ?_)
  show X 0 0 [(rd, .inr (4, [.ref rta, .int (nI n), .int rat, .int rtk, .int rpl, .int rva, .int (nI f), .ref rlw]))] [(0, .ref rd)] 0 []
  refine x_aload_n C dX5_faultHere_0 0 rfl ?_
  refine x_get C inlX5 rfl 6 (by decide) gw_7_1 dX5_faultHere_1 0 rfl rfl ?_
  refine x_iconst C dX5_faultHere_4 (v := (-1)) rfl ?_
  refine x_icmp_ne C dX5_faultHere_5 (tgt := 16) rfl (fun c1 => ?_) (fun c1 => ?_)
  ·
    refine E dX5_faultHere_16 ?_
    exact ⟨rfl, rfl, by trivial⟩
  ·
    exact absurd c1 (nI_nm1 (by omega))
