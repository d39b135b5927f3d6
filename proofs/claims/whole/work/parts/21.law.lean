set_option maxHeartbeats 4000000 in
set_option maxRecDepth 100000 in
theorem c_X3_truth (l : Launch) (dG : va_G) (cI cM cW cS : ClassId) (b : Int32) : rM l yX3_truth cX3_truth 1 (some .int) ({ frames := 0, cells := 0, slots := 0, locals := 0 } : Room) dG (tY cI cM cW cS) rZ0 [.int b] [] (fun ov oz => ∃ (r : Int32), ov = some (.int r) ∧ oz = [] ∧ r = s_tru (b ≠ 0)) := by
  refine rM_ofI rfl (Nat.le_of_ble_eq_true rfl) rfl (fun X C E => ?_)
  show X 0 0 [] [(0, .int b)] 0 []
  refine x_iload_n C dX3_truth_0 0 rfl ?_
  refine x_if_eq C dX3_truth_1 (tgt := 8) rfl (fun c1 => ?_) (fun c1 => ?_)
  ·
    refine x_iconst C dX3_truth_8 (v := 0) rfl ?_
    refine E dX3_truth_9 (rfl) ?_
    exact ⟨0, rfl, rfl, by simp [s_tru, *]⟩
  ·
    refine x_iconst C dX3_truth_4 (v := 1) rfl ?_
    refine x_goto C dX3_truth_5 (tgt := 9) rfl ?_
    refine E dX3_truth_9 (rfl) ?_
    exact ⟨1, rfl, rfl, by simp [s_tru, *]⟩
theorem kS_X3_41 : GoodIn GW (va_wsS RX3 41 yX3_truth (Cond.code yX3_truth cX3_truth 1 (some .int) :: GW)) := r_gS gw_18_1 gw_18_2 gw_2_15 gw_18_3
theorem hy_X3_truth : yX3_truth.cls ≠ "java/lang/invoke/MethodHandle" ∧ yX3_truth.cls ≠ "java/lang/invoke/VarHandle" ∧ (parseMethodDescriptor yX3_truth.desc).map (fun d => d.parameters.length) = some 1 := ⟨by decide +kernel, by decide +kernel, by decide +kernel⟩
set_option maxHeartbeats 4000000 in
set_option maxRecDepth 100000 in
theorem c_X3_turned (l : Launch) (dG : va_G) (cI cM cW cS : ClassId) (op w : Int32) : rM l yX3_turned cX3_turned 2 (some .int) ({ frames := 1, cells := 0, slots := 0, locals := 20 } : Room) dG (tY cI cM cW cS) rZ0 [.int op, .int w] [] (fun ov oz => ∃ (r : Int32), ov = some (.int r) ∧ oz = [] ∧ r = s_turn op w) := by
  refine rM_ofI rfl (Nat.le_of_ble_eq_true rfl) rfl (fun X C E => ?_)
  show X 0 0 [] [(0, .int op), (1, .int w)] 0 []
  refine x_iload_n C dX3_turned_0 0 rfl ?_
  refine x_bipush C dX3_turned_1 (v := (-7)) rfl ?_
  refine x_icmp_ne C dX3_turned_3 (tgt := 11) rfl (fun c1 => ?_) (fun c1 => ?_)
  ·
    refine x_iload_n C dX3_turned_11 1 rfl ?_
    refine x_if_ne C dX3_turned_12 (tgt := 19) rfl (fun c2 => ?_) (fun c2 => ?_)
    ·
      refine x_iconst C dX3_turned_19 (v := 0) rfl ?_
      refine x_callS C (As := [.int 0]) (st := []) (wc := []) (wr := []) (c_X3_truth l dG cI cM cW cS 0 ) rZ0_ok (fun _ _ _ _ => trivial) kS_X3_41 hy_X3_truth ⟨Nat.le_of_ble_eq_true rfl, Nat.le_of_ble_eq_true rfl⟩ ⟨Nat.le_of_ble_eq_true rfl, Nat.le_of_ble_eq_true rfl⟩ dX3_turned_20 [] [] rfl rfl rfl rfl (by decide) rfl (Nat.le_of_ble_eq_true rfl) ?_
      intro v3 w4 h5
      obtain ⟨_, rfl, rfl, rfl⟩ := h5
      show X 0 0 [] [(0, .int op), (1, .int w)] 23 [.int (s_tru (0 ≠ 0))]
      refine E dX3_turned_23 (rfl) ?_
      exact ⟨(s_tru (0 ≠ 0)), rfl, rfl, by first | (subst_vars; simp [s_turn, s_tru]; done) | simp_all [s_turn, s_tru]⟩
    ·
      refine x_iconst C dX3_turned_15 (v := 1) rfl ?_
      refine x_goto C dX3_turned_16 (tgt := 20) rfl ?_
      refine x_callS C (As := [.int 1]) (st := []) (wc := []) (wr := []) (c_X3_truth l dG cI cM cW cS 1 ) rZ0_ok (fun _ _ _ _ => trivial) kS_X3_41 hy_X3_truth ⟨Nat.le_of_ble_eq_true rfl, Nat.le_of_ble_eq_true rfl⟩ ⟨Nat.le_of_ble_eq_true rfl, Nat.le_of_ble_eq_true rfl⟩ dX3_turned_20 [] [] rfl rfl rfl rfl (by decide) rfl (Nat.le_of_ble_eq_true rfl) ?_
      intro v8 w9 h10
      obtain ⟨_, rfl, rfl, rfl⟩ := h10
      show X 0 0 [] [(0, .int op), (1, .int w)] 23 [.int (s_tru (1 ≠ 0))]
      refine E dX3_turned_23 (rfl) ?_
      exact ⟨(s_tru (1 ≠ 0)), rfl, rfl, by first | (subst_vars; simp [s_turn, s_tru]; done) | simp_all [s_turn, s_tru]⟩
  ·
    refine x_iload_n C dX3_turned_6 1 rfl ?_
    refine x_ineg C dX3_turned_7 ?_
    refine x_goto C dX3_turned_8 (tgt := 23) rfl ?_
    refine E dX3_turned_23 (rfl) ?_
    exact ⟨(-w), rfl, rfl, by first | (subst_vars; simp [s_turn, s_tru]; done) | simp_all [s_turn, s_tru]⟩
theorem q_sw_m14_m9 {x : Int32} (h : (-14) ≤ x.toInt ∧ x.toInt ≤ (-9)) : x = (-14) ∨ x = (-13) ∨ x = (-12) ∨ x = (-11) ∨ x = (-10) ∨ x = (-9) := by
  have h9 : x.toInt = (-14) ∨ x.toInt = (-13) ∨ x.toInt = (-12) ∨ x.toInt = (-11) ∨ x.toInt = (-10) ∨ x.toInt = (-9) := by omega
  rcases h9 with h9 | h9 | h9 | h9 | h9 | h9
  · exact Or.inl (q_ti (by rw [h9]; rfl))
  · exact Or.inr (Or.inl (q_ti (by rw [h9]; rfl)))
  · exact Or.inr (Or.inr (Or.inl (q_ti (by rw [h9]; rfl))))
  · exact Or.inr (Or.inr (Or.inr (Or.inl (q_ti (by rw [h9]; rfl)))))
  · exact Or.inr (Or.inr (Or.inr (Or.inr (Or.inl (q_ti (by rw [h9]; rfl))))))
  · exact Or.inr (Or.inr (Or.inr (Or.inr (Or.inr ((q_ti (by rw [h9]; rfl)))))))

set_option maxHeartbeats 4000000 in
set_option maxRecDepth 100000 in
theorem c_X3_joined (l : Launch) (dG : va_G) (cI cM cW cS : ClassId) (op v w : Int32) : rM l yX3_joined cX3_joined 3 (some .int) ({ frames := 1, cells := 0, slots := 0, locals := 20 } : Room) dG (tY cI cM cW cS) rZ0 [.int op, .int v, .int w] [] (fun ov oz => ∃ (r : Int32), ov = some (.int r) ∧ oz = [] ∧ r = s_join op v w) := by
  refine rM_ofI rfl (Nat.le_of_ble_eq_true rfl) rfl (fun X C E => ?_)
  show X 0 0 [] [(0, .int op), (1, .int v), (2, .int w)] 0 []
  refine x_iload_n C dX3_joined_0 0 rfl ?_
  rcases q_sw op (-14) (-9) with q1 | q1
  ·
    refine x_tableOut C dX3_joined_1 q1 (tgt := 97) rfl ?_
    have hj : ¬ op = -9 ∧ ¬ op = -10 ∧ ¬ op = -11 ∧ ¬ op = -12 ∧ ¬ op = -13 ∧ ¬ op = -14 := by refine ⟨?_, ?_, ?_, ?_, ?_, ?_⟩ <;> (intro h; rw [h] at q1; revert q1; decide)
    refine x_iload_n C dX3_joined_97 1 rfl ?_
    refine x_if_ne C dX3_joined_98 (tgt := 105) rfl (fun c2 => ?_) (fun c2 => ?_)
    ·
      refine x_iconst C dX3_joined_105 (v := 1) rfl ?_
      refine x_goto C dX3_joined_106 (tgt := 110) rfl ?_
      refine x_callS C (As := [.int 1]) (st := []) (wc := []) (wr := []) (c_X3_truth l dG cI cM cW cS 1 ) rZ0_ok (fun _ _ _ _ => trivial) kS_X3_41 hy_X3_truth ⟨Nat.le_of_ble_eq_true rfl, Nat.le_of_ble_eq_true rfl⟩ ⟨Nat.le_of_ble_eq_true rfl, Nat.le_of_ble_eq_true rfl⟩ dX3_joined_110 [] [] rfl rfl rfl rfl (by decide) rfl (Nat.le_of_ble_eq_true rfl) ?_
      intro v3 w4 h5
      obtain ⟨_, rfl, rfl, rfl⟩ := h5
      show X 0 0 [] [(0, .int op), (1, .int v), (2, .int w)] 113 [.int (s_tru (1 ≠ 0))]
      refine E dX3_joined_113 (rfl) ?_
      exact ⟨(s_tru (1 ≠ 0)), rfl, rfl, by first | (simp_all [s_join, s_tru]; done) | (simp [s_join, s_tru, *]; done) | (simp_all [s_join, s_tru, Int32.not_le]; done)⟩
    ·
      refine x_iload_n C dX3_joined_101 2 rfl ?_
      refine x_if_eq C dX3_joined_102 (tgt := 109) rfl (fun c8 => ?_) (fun c8 => ?_)
      ·
        refine x_iconst C dX3_joined_109 (v := 0) rfl ?_
        refine x_callS C (As := [.int 0]) (st := []) (wc := []) (wr := []) (c_X3_truth l dG cI cM cW cS 0 ) rZ0_ok (fun _ _ _ _ => trivial) kS_X3_41 hy_X3_truth ⟨Nat.le_of_ble_eq_true rfl, Nat.le_of_ble_eq_true rfl⟩ ⟨Nat.le_of_ble_eq_true rfl, Nat.le_of_ble_eq_true rfl⟩ dX3_joined_110 [] [] rfl rfl rfl rfl (by decide) rfl (Nat.le_of_ble_eq_true rfl) ?_
        intro v9 w10 h11
        obtain ⟨_, rfl, rfl, rfl⟩ := h11
        show X 0 0 [] [(0, .int op), (1, .int v), (2, .int w)] 113 [.int (s_tru (0 ≠ 0))]
        refine E dX3_joined_113 (rfl) ?_
        exact ⟨(s_tru (0 ≠ 0)), rfl, rfl, by first | (simp_all [s_join, s_tru]; done) | (simp [s_join, s_tru, *]; done) | (simp_all [s_join, s_tru, Int32.not_le]; done)⟩
      ·
        refine x_iconst C dX3_joined_105 (v := 1) rfl ?_
        refine x_goto C dX3_joined_106 (tgt := 110) rfl ?_
        refine x_callS C (As := [.int 1]) (st := []) (wc := []) (wr := []) (c_X3_truth l dG cI cM cW cS 1 ) rZ0_ok (fun _ _ _ _ => trivial) kS_X3_41 hy_X3_truth ⟨Nat.le_of_ble_eq_true rfl, Nat.le_of_ble_eq_true rfl⟩ ⟨Nat.le_of_ble_eq_true rfl, Nat.le_of_ble_eq_true rfl⟩ dX3_joined_110 [] [] rfl rfl rfl rfl (by decide) rfl (Nat.le_of_ble_eq_true rfl) ?_
        intro v14 w15 h16
        obtain ⟨_, rfl, rfl, rfl⟩ := h16
        show X 0 0 [] [(0, .int op), (1, .int v), (2, .int w)] 113 [.int (s_tru (1 ≠ 0))]
        refine E dX3_joined_113 (rfl) ?_
        exact ⟨(s_tru (1 ≠ 0)), rfl, rfl, by first | (simp_all [s_join, s_tru]; done) | (simp [s_join, s_tru, *]; done) | (simp_all [s_join, s_tru, Int32.not_le]; done)⟩
  ·
    rcases q_sw_m14_m9 q1 with q1 | q1 | q1 | q1 | q1 | q1
    ·
      have q1 : op = (-14) := q1
      refine x_tableIn C dX3_joined_1 (by rw [q1]; decide) (by rw [q1]; decide) (off := 79) (tgt := 80) (by rw [q1]; rfl) rfl ?_
      refine x_iload_n C dX3_joined_80 1 rfl ?_
      refine x_if_eq C dX3_joined_81 (tgt := 92) rfl (fun c19 => ?_) (fun c19 => ?_)
      ·
        refine x_iconst C dX3_joined_92 (v := 0) rfl ?_
        refine x_callS C (As := [.int 0]) (st := []) (wc := []) (wr := []) (c_X3_truth l dG cI cM cW cS 0 ) rZ0_ok (fun _ _ _ _ => trivial) kS_X3_41 hy_X3_truth ⟨Nat.le_of_ble_eq_true rfl, Nat.le_of_ble_eq_true rfl⟩ ⟨Nat.le_of_ble_eq_true rfl, Nat.le_of_ble_eq_true rfl⟩ dX3_joined_93 [] [] rfl rfl rfl rfl (by decide) rfl (Nat.le_of_ble_eq_true rfl) ?_
        intro v20 w21 h22
        obtain ⟨_, rfl, rfl, rfl⟩ := h22
        show X 0 0 [] [(0, .int op), (1, .int v), (2, .int w)] 96 [.int (s_tru (0 ≠ 0))]
        refine E dX3_joined_96 (rfl) ?_
        exact ⟨(s_tru (0 ≠ 0)), rfl, rfl, by first | (simp_all [s_join, s_tru]; done) | (simp [s_join, s_tru, *]; done) | (simp_all [s_join, s_tru, Int32.not_le]; done)⟩
      ·
        refine x_iload_n C dX3_joined_84 2 rfl ?_
        refine x_if_eq C dX3_joined_85 (tgt := 92) rfl (fun c25 => ?_) (fun c25 => ?_)
        ·
          refine x_iconst C dX3_joined_92 (v := 0) rfl ?_
          refine x_callS C (As := [.int 0]) (st := []) (wc := []) (wr := []) (c_X3_truth l dG cI cM cW cS 0 ) rZ0_ok (fun _ _ _ _ => trivial) kS_X3_41 hy_X3_truth ⟨Nat.le_of_ble_eq_true rfl, Nat.le_of_ble_eq_true rfl⟩ ⟨Nat.le_of_ble_eq_true rfl, Nat.le_of_ble_eq_true rfl⟩ dX3_joined_93 [] [] rfl rfl rfl rfl (by decide) rfl (Nat.le_of_ble_eq_true rfl) ?_
          intro v26 w27 h28
          obtain ⟨_, rfl, rfl, rfl⟩ := h28
          show X 0 0 [] [(0, .int op), (1, .int v), (2, .int w)] 96 [.int (s_tru (0 ≠ 0))]
          refine E dX3_joined_96 (rfl) ?_
          exact ⟨(s_tru (0 ≠ 0)), rfl, rfl, by first | (simp_all [s_join, s_tru]; done) | (simp [s_join, s_tru, *]; done) | (simp_all [s_join, s_tru, Int32.not_le]; done)⟩
        ·
          refine x_iconst C dX3_joined_88 (v := 1) rfl ?_
          refine x_goto C dX3_joined_89 (tgt := 93) rfl ?_
          refine x_callS C (As := [.int 1]) (st := []) (wc := []) (wr := []) (c_X3_truth l dG cI cM cW cS 1 ) rZ0_ok (fun _ _ _ _ => trivial) kS_X3_41 hy_X3_truth ⟨Nat.le_of_ble_eq_true rfl, Nat.le_of_ble_eq_true rfl⟩ ⟨Nat.le_of_ble_eq_true rfl, Nat.le_of_ble_eq_true rfl⟩ dX3_joined_93 [] [] rfl rfl rfl rfl (by decide) rfl (Nat.le_of_ble_eq_true rfl) ?_
          intro v31 w32 h33
          obtain ⟨_, rfl, rfl, rfl⟩ := h33
          show X 0 0 [] [(0, .int op), (1, .int v), (2, .int w)] 96 [.int (s_tru (1 ≠ 0))]
          refine E dX3_joined_96 (rfl) ?_
          exact ⟨(s_tru (1 ≠ 0)), rfl, rfl, by first | (simp_all [s_join, s_tru]; done) | (simp [s_join, s_tru, *]; done) | (simp_all [s_join, s_tru, Int32.not_le]; done)⟩
    ·
      have q1 : op = (-13) := q1
      refine x_tableIn C dX3_joined_1 (by rw [q1]; decide) (by rw [q1]; decide) (off := 65) (tgt := 66) (by rw [q1]; rfl) rfl ?_
      refine x_iload_n C dX3_joined_66 1 rfl ?_
      refine x_iload_n C dX3_joined_67 2 rfl ?_
      refine x_icmp_ne C dX3_joined_68 (tgt := 75) rfl (fun c36 => ?_) (fun c36 => ?_)
      ·
        refine x_iconst C dX3_joined_75 (v := 0) rfl ?_
        refine x_callS C (As := [.int 0]) (st := []) (wc := []) (wr := []) (c_X3_truth l dG cI cM cW cS 0 ) rZ0_ok (fun _ _ _ _ => trivial) kS_X3_41 hy_X3_truth ⟨Nat.le_of_ble_eq_true rfl, Nat.le_of_ble_eq_true rfl⟩ ⟨Nat.le_of_ble_eq_true rfl, Nat.le_of_ble_eq_true rfl⟩ dX3_joined_76 [] [] rfl rfl rfl rfl (by decide) rfl (Nat.le_of_ble_eq_true rfl) ?_
        intro v37 w38 h39
        obtain ⟨_, rfl, rfl, rfl⟩ := h39
        show X 0 0 [] [(0, .int op), (1, .int v), (2, .int w)] 79 [.int (s_tru (0 ≠ 0))]
        refine E dX3_joined_79 (rfl) ?_
        exact ⟨(s_tru (0 ≠ 0)), rfl, rfl, by first | (simp_all [s_join, s_tru]; done) | (simp [s_join, s_tru, *]; done) | (simp_all [s_join, s_tru, Int32.not_le]; done)⟩
      ·
        refine x_iconst C dX3_joined_71 (v := 1) rfl ?_
        refine x_goto C dX3_joined_72 (tgt := 76) rfl ?_
        refine x_callS C (As := [.int 1]) (st := []) (wc := []) (wr := []) (c_X3_truth l dG cI cM cW cS 1 ) rZ0_ok (fun _ _ _ _ => trivial) kS_X3_41 hy_X3_truth ⟨Nat.le_of_ble_eq_true rfl, Nat.le_of_ble_eq_true rfl⟩ ⟨Nat.le_of_ble_eq_true rfl, Nat.le_of_ble_eq_true rfl⟩ dX3_joined_76 [] [] rfl rfl rfl rfl (by decide) rfl (Nat.le_of_ble_eq_true rfl) ?_
        intro v42 w43 h44
        obtain ⟨_, rfl, rfl, rfl⟩ := h44
        show X 0 0 [] [(0, .int op), (1, .int v), (2, .int w)] 79 [.int (s_tru (1 ≠ 0))]
        refine E dX3_joined_79 (rfl) ?_
        exact ⟨(s_tru (1 ≠ 0)), rfl, rfl, by first | (simp_all [s_join, s_tru]; done) | (simp [s_join, s_tru, *]; done) | (simp_all [s_join, s_tru, Int32.not_le]; done)⟩
    ·
      have q1 : op = (-12) := q1
      refine x_tableIn C dX3_joined_1 (by rw [q1]; decide) (by rw [q1]; decide) (off := 51) (tgt := 52) (by rw [q1]; rfl) rfl ?_
      refine x_iload_n C dX3_joined_52 1 rfl ?_
      refine x_iload_n C dX3_joined_53 2 rfl ?_
      refine x_icmp_ge C dX3_joined_54 (tgt := 61) rfl (fun c47 => ?_) (fun c47 => ?_)
      ·
        refine x_iconst C dX3_joined_61 (v := 0) rfl ?_
        refine x_callS C (As := [.int 0]) (st := []) (wc := []) (wr := []) (c_X3_truth l dG cI cM cW cS 0 ) rZ0_ok (fun _ _ _ _ => trivial) kS_X3_41 hy_X3_truth ⟨Nat.le_of_ble_eq_true rfl, Nat.le_of_ble_eq_true rfl⟩ ⟨Nat.le_of_ble_eq_true rfl, Nat.le_of_ble_eq_true rfl⟩ dX3_joined_62 [] [] rfl rfl rfl rfl (by decide) rfl (Nat.le_of_ble_eq_true rfl) ?_
        intro v48 w49 h50
        obtain ⟨_, rfl, rfl, rfl⟩ := h50
        show X 0 0 [] [(0, .int op), (1, .int v), (2, .int w)] 65 [.int (s_tru (0 ≠ 0))]
        refine E dX3_joined_65 (rfl) ?_
        exact ⟨(s_tru (0 ≠ 0)), rfl, rfl, by first | (simp_all [s_join, s_tru]; done) | (simp [s_join, s_tru, *]; done) | (simp_all [s_join, s_tru, Int32.not_le]; done)⟩
      ·
        refine x_iconst C dX3_joined_57 (v := 1) rfl ?_
        refine x_goto C dX3_joined_58 (tgt := 62) rfl ?_
        refine x_callS C (As := [.int 1]) (st := []) (wc := []) (wr := []) (c_X3_truth l dG cI cM cW cS 1 ) rZ0_ok (fun _ _ _ _ => trivial) kS_X3_41 hy_X3_truth ⟨Nat.le_of_ble_eq_true rfl, Nat.le_of_ble_eq_true rfl⟩ ⟨Nat.le_of_ble_eq_true rfl, Nat.le_of_ble_eq_true rfl⟩ dX3_joined_62 [] [] rfl rfl rfl rfl (by decide) rfl (Nat.le_of_ble_eq_true rfl) ?_
        intro v53 w54 h55
        obtain ⟨_, rfl, rfl, rfl⟩ := h55
        show X 0 0 [] [(0, .int op), (1, .int v), (2, .int w)] 65 [.int (s_tru (1 ≠ 0))]
        refine E dX3_joined_65 (rfl) ?_
        exact ⟨(s_tru (1 ≠ 0)), rfl, rfl, by first | (simp_all [s_join, s_tru]; done) | (simp [s_join, s_tru, *]; done) | (simp_all [s_join, s_tru, Int32.not_le]; done)⟩
    ·
      have q1 : op = (-11) := q1
      refine x_tableIn C dX3_joined_1 (by rw [q1]; decide) (by rw [q1]; decide) (off := 47) (tgt := 48) (by rw [q1]; rfl) rfl ?_
      refine x_iload_n C dX3_joined_48 1 rfl ?_
      refine x_iload_n C dX3_joined_49 2 rfl ?_
      refine x_imul C dX3_joined_50 ?_
      refine E dX3_joined_51 (rfl) ?_
      exact ⟨(v * w), rfl, rfl, by first | (simp_all [s_join, s_tru]; done) | (simp [s_join, s_tru, *]; done) | (simp_all [s_join, s_tru, Int32.not_le]; done)⟩
    ·
      have q1 : op = (-10) := q1
      refine x_tableIn C dX3_joined_1 (by rw [q1]; decide) (by rw [q1]; decide) (off := 43) (tgt := 44) (by rw [q1]; rfl) rfl ?_
      refine x_iload_n C dX3_joined_44 1 rfl ?_
      refine x_iload_n C dX3_joined_45 2 rfl ?_
      refine x_isub C dX3_joined_46 ?_
      refine E dX3_joined_47 (rfl) ?_
      exact ⟨(v - w), rfl, rfl, by first | (simp_all [s_join, s_tru]; done) | (simp [s_join, s_tru, *]; done) | (simp_all [s_join, s_tru, Int32.not_le]; done)⟩
    ·
      have q1 : op = (-9) := q1
      refine x_tableIn C dX3_joined_1 (by rw [q1]; decide) (by rw [q1]; decide) (off := 39) (tgt := 40) (by rw [q1]; rfl) rfl ?_
      refine x_iload_n C dX3_joined_40 1 rfl ?_
      refine x_iload_n C dX3_joined_41 2 rfl ?_
      refine x_iadd C dX3_joined_42 ?_
      refine E dX3_joined_43 (rfl) ?_
      exact ⟨(v + w), rfl, rfl, by first | (simp_all [s_join, s_tru]; done) | (simp [s_join, s_tru, *]; done) | (simp_all [s_join, s_tru, Int32.not_le]; done)⟩
theorem kS_X3_29 : GoodIn GW (va_wsS RX3 29 yX3_joined (Cond.code yX3_joined cX3_joined 3 (some .int) :: GW)) := r_gS gw_18_4 gw_18_5 gw_2_15 gw_18_6
theorem hy_X3_joined : yX3_joined.cls ≠ "java/lang/invoke/MethodHandle" ∧ yX3_joined.cls ≠ "java/lang/invoke/VarHandle" ∧ (parseMethodDescriptor yX3_joined.desc).map (fun d => d.parameters.length) = some 3 := ⟨by decide +kernel, by decide +kernel, by decide +kernel⟩
theorem kS_X3_25 : GoodIn GW (va_wsS RX3 25 yX3_turned (Cond.code yX3_turned cX3_turned 2 (some .int) :: GW)) := r_gS gw_17_22 gw_17_23 gw_2_15 gw_18_0
theorem hy_X3_turned : yX3_turned.cls ≠ "java/lang/invoke/MethodHandle" ∧ yX3_turned.cls ≠ "java/lang/invoke/VarHandle" ∧ (parseMethodDescriptor yX3_turned.desc).map (fun d => d.parameters.length) = some 2 := ⟨by decide +kernel, by decide +kernel, by decide +kernel⟩
set_option maxHeartbeats 4000000 in
set_option maxRecDepth 100000 in
theorem c_X3_says (l : Launch) (dG : va_G) (cI cM cW cS : ClassId) (o oc os oe na p : Nat) (sz : Int32) (cd sk en nm : Nat → Int32) (T : sT) (hp : p < 3) (hok : s_ok T) (hL : s_law cd en T) : rM l yX3_says cX3_says 6 (some .int) ({ frames := 2, cells := 0, slots := 0, locals := 42 } : Room) dG (tY cI cM cW cS) rZ0 [.ref o, .int (nI p), .ref na] [(o, .inr (2, [.ref oc, .ref os, .ref oe, .int sz])), (oc, .inl (cI, 160, .inl cd)), (os, .inl (cI, 160, .inl sk)), (oe, .inl (cI, 3, .inl en)), (na, .inl (cI, 6, .inl nm))] (fun ov oz => ∃ (r : Int32) (sk' : Nat → Int32), ov = some (.int r) ∧ oz = [(o, .inr (2, [.ref oc, .ref os, .ref oe, .int sz])), (oc, .inl (cI, 160, .inl cd)), (os, .inl (cI, 160, .inl sk')), (oe, .inl (cI, 3, .inl en)), (na, .inl (cI, 6, .inl nm))] ∧ r = s_says T p nm) := by
  refine rM_ofI rfl (Nat.le_of_ble_eq_true rfl) rfl (fun X C E => ?_)
  show X 0 0 [(o, .inr (2, [.ref oc, .ref os, .ref oe, .int sz])), (oc, .inl (cI, 160, .inl cd)), (os, .inl (cI, 160, .inl sk)), (oe, .inl (cI, 3, .inl en)), (na, .inl (cI, 6, .inl nm))] [(0, .ref o), (1, .int (nI p)), (2, .ref na)] 0 []
  have ho := s_off_succ T hp
  have ho2 := s_off_le T hp
  have ho3 := hok.2
  refine x_iconst C dX3_says_0 (v := 0) rfl ?_
  refine x_istore_n C dX3_says_1 (by decide) (lv' := [(3, .int 0), (0, .ref o), (1, .int (nI p)), (2, .ref na)]) rfl ?_
  refine x_iload_n C dX3_says_2 2 rfl ?_
  have L18_0 : X 0 0 [(o, .inr (2, [.ref oc, .ref os, .ref oe, .int sz])), (oc, .inl (cI, 160, .inl cd)), (os, .inl (cI, 160, .inl sk)), (oe, .inl (cI, 3, .inl en)), (na, .inl (cI, 6, .inl nm))] [(3, .int 0), (2, .ref na), (1, .int (nI p)), (0, .ref o)] 18 [.int (nI (s_off T p))] := by
    refine x_istore C dX3_says_18 (by decide) (lv' := [(4, .int (nI (s_off T p))), (3, .int 0), (2, .ref na), (1, .int (nI p)), (0, .ref o)]) rfl ?_
    have L20_1 : ∀ (fuel : Nat) (t d : Nat) (f : Nat → Int32), (ht : t ≤ (T p).length) → (hr : s_run nm ((T p).take t) (sk, 0) = (f, d)) → (hd : ((T p).take t).foldl s_dp (some 0) = some d) → (T p).length - t < fuel → X 0 0 [(o, .inr (2, [.ref oc, .ref os, .ref oe, .int sz])), (oc, .inl (cI, 160, .inl cd)), (os, .inl (cI, 160, .inl f)), (oe, .inl (cI, 3, .inl en)), (na, .inl (cI, 6, .inl nm))] [(4, .int (nI (s_off T p + t))), (3, .int (nI d)), (2, .ref na), (1, .int (nI p)), (0, .ref o)] 20 [] := by
      intro fuel
      induction fuel with
      | zero => intros; omega
      | succ fuel ihL20_1 =>
        intro t d f ht hr hd hfu
        have hdt : d ≤ t := by
          have h9 := s_dp_le _ _ _ hd
          rw [List.length_take] at h9
          omega
        refine x_iload C dX3_says_20 0 rfl ?_
        refine x_aload_n C dX3_says_22 4 rfl ?_
        refine x_get C inlX3 rfl 2 (by decide) gw_4_7 dX3_says_23 0 rfl rfl ?_
        refine x_iload_n C dX3_says_26 3 rfl ?_
        refine x_iaload C 0 rfl dX3_says_27 p (q_cl rfl (by omega)) (q_ix rfl (by omega) (by omega)) 3 rfl ?_
        refine x_topi C (nI (s_off T (p + 1))) (hL.1 p hp) ?_
        refine x_icmp_ge C dX3_says_28 (tgt := 165) rfl (fun c3 => ?_) (fun c3 => ?_)
        ·
          have c3 : s_off T p + t ≥ s_off T (p + 1) := q_ge_t rfl rfl (by omega) (by omega) c3
          refine x_iload_n C dX3_says_165 3 rfl ?_
          refine x_if_ne C dX3_says_166 (tgt := 175) rfl (fun c4 => ?_) (fun c4 => ?_)
          ·
            have c4 : p ≠ 0 := q_ne_t rfl (rfl : (0 : Int32) = nI 0) (by omega) (by omega) c4
            refine x_bipush C dX3_says_175 (v := 100) rfl ?_
            refine x_istore C dX3_says_177 (by decide) (lv' := [(4, .int 100), (3, .int (nI d)), (2, .ref na), (1, .int (nI p)), (0, .ref o)]) rfl ?_
            refine x_iconst C dX3_says_179 (v := 0) rfl ?_
            refine x_iload C dX3_says_180 0 rfl ?_
            refine x_aload_n C dX3_says_182 4 rfl ?_
            refine x_get C inlX3 rfl 1 (by decide) gw_4_6 dX3_says_183 0 rfl rfl ?_
            refine x_iconst C dX3_says_186 (v := 0) rfl ?_
            refine x_iaload C 0 rfl dX3_says_187 0 rfl (q_ix (rfl : (0 : Int32) = nI 0) (by decide) (by decide)) 2 rfl ?_
            refine x_mmin C gw_17_15 gw_17_16 gw_17_17 gw_17_18 (Nat.le_of_ble_eq_true rfl) (Nat.le_of_ble_eq_true rfl) (Nat.le_of_ble_eq_true rfl) (Nat.le_of_ble_eq_true rfl) dX3_says_188 ?_
            refine x_mmax C gw_17_19 gw_17_20 gw_17_17 gw_17_21 (Nat.le_of_ble_eq_true rfl) (Nat.le_of_ble_eq_true rfl) (Nat.le_of_ble_eq_true rfl) (Nat.le_of_ble_eq_true rfl) dX3_says_191 ?_
            show X _ _ _ _ 194 _
            refine E dX3_says_194 (rfl) ?_
            exact ⟨(if 0 < (if (f 0) < 100 then (f 0) else 100) then (if (f 0) < 100 then (f 0) else 100) else 0), f, rfl, rfl, by ((have et : t = (T p).length := by omega); (subst et); (rw [List.take_length] at hr); (have hv := s_val_of (nm := nm) (f := sk) (hok.1 p hp)); (rw [hr] at hv); (show s_clamp _ (f 0) = _); (rw [show f 0 = s_val nm (T p) from hv]); simp [s_says, s_most, *])⟩
          ·
            have c4 : p = 0 := q_ne_f rfl (rfl : (0 : Int32) = nI 0) (by omega) (by omega) c4
            refine x_sipush C dX3_says_169 (v := 999) rfl ?_
            refine x_goto C dX3_says_172 (tgt := 177) rfl ?_
            refine x_istore C dX3_says_177 (by decide) (lv' := [(4, .int 999), (3, .int (nI d)), (2, .ref na), (1, .int (nI p)), (0, .ref o)]) rfl ?_
            refine x_iconst C dX3_says_179 (v := 0) rfl ?_
            refine x_iload C dX3_says_180 0 rfl ?_
            refine x_aload_n C dX3_says_182 4 rfl ?_
            refine x_get C inlX3 rfl 1 (by decide) gw_4_6 dX3_says_183 0 rfl rfl ?_
            refine x_iconst C dX3_says_186 (v := 0) rfl ?_
            refine x_iaload C 0 rfl dX3_says_187 0 rfl (q_ix (rfl : (0 : Int32) = nI 0) (by decide) (by decide)) 2 rfl ?_
            refine x_mmin C gw_17_15 gw_17_16 gw_17_17 gw_17_18 (Nat.le_of_ble_eq_true rfl) (Nat.le_of_ble_eq_true rfl) (Nat.le_of_ble_eq_true rfl) (Nat.le_of_ble_eq_true rfl) dX3_says_188 ?_
            show X _ _ _ _ 191 _
            refine x_mmax C gw_17_19 gw_17_20 gw_17_17 gw_17_21 (Nat.le_of_ble_eq_true rfl) (Nat.le_of_ble_eq_true rfl) (Nat.le_of_ble_eq_true rfl) (Nat.le_of_ble_eq_true rfl) dX3_says_191 ?_
            refine E dX3_says_194 (rfl) ?_
            exact ⟨(if 0 < (if (f 0) < 999 then (f 0) else 999) then (if (f 0) < 999 then (f 0) else 999) else 0), f, rfl, rfl, by ((have et : t = (T p).length := by omega); (subst et); (rw [List.take_length] at hr); (have hv := s_val_of (nm := nm) (f := sk) (hok.1 p hp)); (rw [hr] at hv); (show s_clamp _ (f 0) = _); (rw [show f 0 = s_val nm (T p) from hv]); simp [s_says, s_most, *])⟩
        ·
          have c3 : s_off T p + t < s_off T (p + 1) := q_ge_f rfl rfl (by omega) (by omega) c3
          refine x_aload_n C dX3_says_31 4 rfl ?_
          refine x_get C inlX3 rfl 0 (by decide) gw_4_5 dX3_says_32 0 rfl rfl ?_
          refine x_iload C dX3_says_35 0 rfl ?_
          refine x_iaload C 0 rfl dX3_says_37 (s_off T p + t) (q_cl rfl (by omega)) (q_ix rfl (by omega) (by omega)) 1 rfl ?_
          have ht2 : t < (T p).length := by omega
          obtain ⟨op, hop⟩ : ∃ z, z = (T p).getD t 0 := ⟨_, rfl⟩
          have hnx := s_dp_next (hok.1 p hp) ht2 hop hd
          refine x_topi C op (by rw [hop]; exact hL.2 p hp t ht2) ?_
          refine x_istore C dX3_says_38 (by decide) (lv' := [(5, .int op), (4, .int (nI (s_off T p + t))), (3, .int (nI d)), (2, .ref na), (1, .int (nI p)), (0, .ref o)]) rfl ?_
          refine x_iload C dX3_says_40 0 rfl ?_
          refine x_bipush C dX3_says_42 (v := (-6)) rfl ?_
          refine x_icmp_lt C dX3_says_44 (tgt := 84) rfl (fun c5 => ?_) (fun c5 => ?_)
          ·
            have hop6 : ¬ -6 ≤ op := q_nle c5
            refine x_iload C dX3_says_84 0 rfl ?_
            refine x_bipush C dX3_says_86 (v := (-8)) rfl ?_
            refine x_icmp_lt C dX3_says_88 (tgt := 122) rfl (fun c6 => ?_) (fun c6 => ?_)
            ·
              have hop8 : ¬ -8 ≤ op := q_nle c6
              have hdd := s_dp_bi hnx hop6 hop8
              have hdd1 := hdd.1
              refine x_iload_n C dX3_says_122 2 rfl ?_
              refine x_iconst C dX3_says_123 (v := 2) rfl ?_
              refine x_icmp_ge C dX3_says_124 (tgt := 129) rfl (fun c7 => ?_) (fun c7 => ?_)
              ·
                have c7 : d ≥ 2 := q_ge_t rfl (rfl : (2 : Int32) = nI 2) (by omega) (by omega) c7
                refine x_iinc C dX3_says_129 2 rfl (v := nI (d - 1)) (q_dec (by omega)) (by decide) (lv' := [(3, .int (nI (d - 1))), (5, .int op), (4, .int (nI (s_off T p + t))), (2, .ref na), (1, .int (nI p)), (0, .ref o)]) rfl ?_
                refine x_aload_n C dX3_says_132 5 rfl ?_
                refine x_get C inlX3 rfl 1 (by decide) gw_4_6 dX3_says_133 0 rfl rfl ?_
                refine x_iload_n C dX3_says_136 0 rfl ?_
                refine x_iconst C dX3_says_137 (v := 1) rfl ?_
                refine x_isub C dX3_says_138 ?_
                refine x_iload C dX3_says_139 1 rfl ?_
                refine x_aload_n C dX3_says_141 5 rfl ?_
                refine x_get C inlX3 rfl 1 (by decide) gw_4_6 dX3_says_142 0 rfl rfl ?_
                refine x_iload_n C dX3_says_145 0 rfl ?_
                show X _ _ _ _ 146 _
                refine x_iconst C dX3_says_146 (v := 1) rfl ?_
                refine x_isub C dX3_says_147 ?_
                refine x_iaload C 0 rfl dX3_says_148 ((d - 1) - 1) (q_cl (q_isub (a := d - 1) (b := 1) rfl (rfl : (1 : Int32) = nI 1) (by omega)) (by omega)) (q_ix (q_isub (a := d - 1) (b := 1) rfl (rfl : (1 : Int32) = nI 1) (by omega)) (by omega) (by omega)) 2 rfl ?_
                refine x_aload_n C dX3_says_149 5 rfl ?_
                refine x_get C inlX3 rfl 1 (by decide) gw_4_6 dX3_says_150 0 rfl rfl ?_
                refine x_iload_n C dX3_says_153 0 rfl ?_
                refine x_iaload C 0 rfl dX3_says_154 (d - 1) (q_cl rfl (by omega)) (q_ix rfl (by omega) (by omega)) 2 rfl ?_
                refine x_callS C (As := [.int op, .int (f ((d - 1) - 1)), .int (f (d - 1))]) (st := [.int ((nI (d - 1)) - 1), .ref os]) (wc := []) (wr := [(o, .inr (2, [.ref oc, .ref os, .ref oe, .int sz])), (oc, .inl (cI, 160, .inl cd)), (os, .inl (cI, 160, .inl f)), (oe, .inl (cI, 3, .inl en)), (na, .inl (cI, 6, .inl nm))]) (c_X3_joined l dG cI cM cW cS op (f ((d - 1) - 1)) (f (d - 1)) ) rZ0_ok (fun _ _ _ _ => trivial) kS_X3_29 hy_X3_joined ⟨Nat.le_of_ble_eq_true rfl, Nat.le_of_ble_eq_true rfl⟩ ⟨Nat.le_of_ble_eq_true rfl, Nat.le_of_ble_eq_true rfl⟩ dX3_says_155 [] [0, 1, 2, 3, 4] rfl rfl rfl rfl (by decide) rfl (Nat.le_of_ble_eq_true rfl) ?_
                intro v8 w9 h10
                obtain ⟨_, rfl, rfl, rfl⟩ := h10
                show X 0 0 [(o, .inr (2, [.ref oc, .ref os, .ref oe, .int sz])), (oc, .inl (cI, 160, .inl cd)), (os, .inl (cI, 160, .inl f)), (oe, .inl (cI, 3, .inl en)), (na, .inl (cI, 6, .inl nm))] [(3, .int (nI (d - 1))), (5, .int op), (4, .int (nI (s_off T p + t))), (2, .ref na), (1, .int (nI p)), (0, .ref o)] 158 [.int (s_join op (f ((d - 1) - 1)) (f (d - 1))), .int ((nI (d - 1)) - 1), .ref os]
                refine x_iastore C 0 rfl dX3_says_158 ((d - 1) - 1) (q_cl (q_isub (a := d - 1) (b := 1) rfl (rfl : (1 : Int32) = nI 1) (by omega)) (by omega)) (q_ix (q_isub (a := d - 1) (b := 1) rfl (rfl : (1 : Int32) = nI 1) (by omega)) (by omega) (by omega)) 2 rfl ?_
                show X _ _ [(o, .inr (2, [.ref oc, .ref os, .ref oe, .int sz])), (oc, .inl (cI, 160, .inl cd)), (os, .inl (cI, 160, .inl (upd f ((d - 1) - 1) (s_join op (f ((d - 1) - 1)) (f (d - 1)))))), (oe, .inl (cI, 3, .inl en)), (na, .inl (cI, 6, .inl nm))] _ _ _
                refine x_iinc C dX3_says_159 2 rfl (v := nI (s_off T p + t + 1)) (nI_1 _) (by decide) (lv' := [(4, .int (nI (s_off T p + t + 1))), (3, .int (nI (d - 1))), (5, .int op), (2, .ref na), (1, .int (nI p)), (0, .ref o)]) rfl ?_
                show X _ _ _ _ 162 _
                refine x_goto C dX3_says_162 (tgt := 20) rfl ?_
                refine x_lv C [0, 1, 3, 4, 5] (lv' := [(4, .int (nI (s_off T p + t + 1))), (3, .int (nI (d - 1))), (2, .ref na), (1, .int (nI p)), (0, .ref o)]) rfl ?_
                exact ihL20_1 (t + 1) (d - 1) (upd f ((d - 1) - 1) (s_join op (f ((d - 1) - 1)) (f (d - 1)))) (by omega) (by rw [s_run_succ nm _ ht2 hop, hr]; first | (simp [s_st, hop6, hop0]; done) | (simp [s_st, hop6, hop8]; done)) (by rw [s_dpl_succ _ ht2 hop, hd]; first | (simp [s_dp, hop6]; done) | exact hdd.2) (by omega)
              ·
                have c7 : d < 2 := q_ge_f rfl (rfl : (2 : Int32) = nI 2) (by omega) (by omega) c7
                exfalso; omega
            ·
              have hop8 : -8 ≤ op := q_nlt c6
              have hdd := s_dp_un hnx hop6 hop8
              have hdd1 := hdd.1
              refine x_iload_n C dX3_says_91 2 rfl ?_
              refine x_iconst C dX3_says_92 (v := 1) rfl ?_
              refine x_icmp_ge C dX3_says_93 (tgt := 98) rfl (fun c13 => ?_) (fun c13 => ?_)
              ·
                have c13 : d ≥ 1 := q_ge_t rfl (rfl : (1 : Int32) = nI 1) (by omega) (by omega) c13
                refine x_aload_n C dX3_says_98 5 rfl ?_
                refine x_get C inlX3 rfl 1 (by decide) gw_4_6 dX3_says_99 0 rfl rfl ?_
                refine x_iload_n C dX3_says_102 2 rfl ?_
                refine x_iconst C dX3_says_103 (v := 1) rfl ?_
                refine x_isub C dX3_says_104 ?_
                refine x_iload C dX3_says_105 0 rfl ?_
                refine x_aload_n C dX3_says_107 5 rfl ?_
                refine x_get C inlX3 rfl 1 (by decide) gw_4_6 dX3_says_108 0 rfl rfl ?_
                refine x_iload_n C dX3_says_111 2 rfl ?_
                refine x_iconst C dX3_says_112 (v := 1) rfl ?_
                show X _ _ _ _ 113 _
                refine x_isub C dX3_says_113 ?_
                refine x_iaload C 0 rfl dX3_says_114 (d - 1) (q_cl (q_isub (a := d) (b := 1) rfl (rfl : (1 : Int32) = nI 1) (by omega)) (by omega)) (q_ix (q_isub (a := d) (b := 1) rfl (rfl : (1 : Int32) = nI 1) (by omega)) (by omega) (by omega)) 2 rfl ?_
                refine x_callS C (As := [.int op, .int (f (d - 1))]) (st := [.int ((nI d) - 1), .ref os]) (wc := []) (wr := [(o, .inr (2, [.ref oc, .ref os, .ref oe, .int sz])), (oc, .inl (cI, 160, .inl cd)), (os, .inl (cI, 160, .inl f)), (oe, .inl (cI, 3, .inl en)), (na, .inl (cI, 6, .inl nm))]) (c_X3_turned l dG cI cM cW cS op (f (d - 1)) ) rZ0_ok (fun _ _ _ _ => trivial) kS_X3_25 hy_X3_turned ⟨Nat.le_of_ble_eq_true rfl, Nat.le_of_ble_eq_true rfl⟩ ⟨Nat.le_of_ble_eq_true rfl, Nat.le_of_ble_eq_true rfl⟩ dX3_says_115 [] [0, 1, 2, 3, 4] rfl rfl rfl rfl (by decide) rfl (Nat.le_of_ble_eq_true rfl) ?_
                intro v14 w15 h16
                obtain ⟨_, rfl, rfl, rfl⟩ := h16
                show X 0 0 [(o, .inr (2, [.ref oc, .ref os, .ref oe, .int sz])), (oc, .inl (cI, 160, .inl cd)), (os, .inl (cI, 160, .inl f)), (oe, .inl (cI, 3, .inl en)), (na, .inl (cI, 6, .inl nm))] [(5, .int op), (4, .int (nI (s_off T p + t))), (3, .int (nI d)), (2, .ref na), (1, .int (nI p)), (0, .ref o)] 118 [.int (s_turn op (f (d - 1))), .int ((nI d) - 1), .ref os]
                refine x_iastore C 0 rfl dX3_says_118 (d - 1) (q_cl (q_isub (a := d) (b := 1) rfl (rfl : (1 : Int32) = nI 1) (by omega)) (by omega)) (q_ix (q_isub (a := d) (b := 1) rfl (rfl : (1 : Int32) = nI 1) (by omega)) (by omega) (by omega)) 2 rfl ?_
                show X _ _ [(o, .inr (2, [.ref oc, .ref os, .ref oe, .int sz])), (oc, .inl (cI, 160, .inl cd)), (os, .inl (cI, 160, .inl (upd f (d - 1) (s_turn op (f (d - 1)))))), (oe, .inl (cI, 3, .inl en)), (na, .inl (cI, 6, .inl nm))] _ _ _
                refine x_goto C dX3_says_119 (tgt := 159) rfl ?_
                refine x_iinc C dX3_says_159 1 rfl (v := nI (s_off T p + t + 1)) (nI_1 _) (by decide) (lv' := [(4, .int (nI (s_off T p + t + 1))), (5, .int op), (3, .int (nI d)), (2, .ref na), (1, .int (nI p)), (0, .ref o)]) rfl ?_
                refine x_goto C dX3_says_162 (tgt := 20) rfl ?_
                refine x_lv C [0, 2, 3, 4, 5] (lv' := [(4, .int (nI (s_off T p + t + 1))), (3, .int (nI d)), (2, .ref na), (1, .int (nI p)), (0, .ref o)]) rfl ?_
                exact ihL20_1 (t + 1) d (upd f (d - 1) (s_turn op (f (d - 1)))) (by omega) (by rw [s_run_succ nm _ ht2 hop, hr]; first | (simp [s_st, hop6, hop0]; done) | (simp [s_st, hop6, hop8]; done)) (by rw [s_dpl_succ _ ht2 hop, hd]; first | (simp [s_dp, hop6]; done) | exact hdd.2) (by omega)
              ·
                have c13 : d < 1 := q_ge_f rfl (rfl : (1 : Int32) = nI 1) (by omega) (by omega) c13
                exfalso; omega
          ·
            have hop6 : -6 ≤ op := q_nlt c5
            refine x_iload_n C dX3_says_47 2 rfl ?_
            refine x_sipush C dX3_says_48 (v := 160) rfl ?_
            refine x_icmp_lt C dX3_says_51 (tgt := 56) rfl (fun c19 => ?_) (fun c19 => ?_)
            ·
              have c19 : d < 160 := q_lt_t rfl (rfl : (160 : Int32) = nI 160) (by omega) (by omega) c19
              refine x_aload_n C dX3_says_56 5 rfl ?_
              refine x_get C inlX3 rfl 1 (by decide) gw_4_6 dX3_says_57 0 rfl rfl ?_
              refine x_iload_n C dX3_says_60 2 rfl ?_
              refine x_iload C dX3_says_61 0 rfl ?_
              refine x_if_lt C dX3_says_63 (tgt := 71) rfl (fun c20 => ?_) (fun c20 => ?_)
              ·
                have hop0 : ¬ 0 ≤ op := q_nle c20
                refine x_aload_n C dX3_says_71 3 rfl ?_
                refine x_iconst C dX3_says_72 (v := (-1)) rfl ?_
                refine x_iload C dX3_says_73 0 rfl ?_
                refine x_isub C dX3_says_75 ?_
                obtain ⟨hix, hix2⟩ := q_nmix hop6 hop0
                refine x_iaload C 0 rfl dX3_says_76 ((-1 - op).toNatClampNeg) (q_cl hix (by omega)) (q_ix hix (by omega) (by omega)) 4 rfl ?_
                refine x_iastore C 0 rfl dX3_says_77 d (q_cl rfl (by omega)) (q_ix rfl (by omega) (by omega)) 2 rfl ?_
                show X _ _ [(o, .inr (2, [.ref oc, .ref os, .ref oe, .int sz])), (oc, .inl (cI, 160, .inl cd)), (os, .inl (cI, 160, .inl (upd f d (nm ((-1 - op).toNatClampNeg))))), (oe, .inl (cI, 3, .inl en)), (na, .inl (cI, 6, .inl nm))] _ _ _
                refine x_iinc C dX3_says_78 2 rfl (v := nI (d + 1)) (nI_1 _) (by decide) (lv' := [(3, .int (nI (d + 1))), (5, .int op), (4, .int (nI (s_off T p + t))), (2, .ref na), (1, .int (nI p)), (0, .ref o)]) rfl ?_
                refine x_goto C dX3_says_81 (tgt := 159) rfl ?_
                refine x_iinc C dX3_says_159 2 rfl (v := nI (s_off T p + t + 1)) (nI_1 _) (by decide) (lv' := [(4, .int (nI (s_off T p + t + 1))), (3, .int (nI (d + 1))), (5, .int op), (2, .ref na), (1, .int (nI p)), (0, .ref o)]) rfl ?_
                refine x_goto C dX3_says_162 (tgt := 20) rfl ?_
                refine x_lv C [0, 1, 3, 4, 5] (lv' := [(4, .int (nI (s_off T p + t + 1))), (3, .int (nI (d + 1))), (2, .ref na), (1, .int (nI p)), (0, .ref o)]) rfl ?_
                exact ihL20_1 (t + 1) (d + 1) (upd f d (nm ((-1 - op).toNatClampNeg))) (by omega) (by rw [s_run_succ nm _ ht2 hop, hr]; first | (simp [s_st, hop6, hop0]; done) | (simp [s_st, hop6, hop8]; done)) (by rw [s_dpl_succ _ ht2 hop, hd]; first | (simp [s_dp, hop6]; done) | exact hdd.2) (by omega)
              ·
                have hop0 : 0 ≤ op := q_nlt c20
                refine x_iload C dX3_says_66 0 rfl ?_
                refine x_goto C dX3_says_68 (tgt := 77) rfl ?_
                refine x_iastore C 0 rfl dX3_says_77 d (q_cl rfl (by omega)) (q_ix rfl (by omega) (by omega)) 2 rfl ?_
                show X _ _ [(o, .inr (2, [.ref oc, .ref os, .ref oe, .int sz])), (oc, .inl (cI, 160, .inl cd)), (os, .inl (cI, 160, .inl (upd f d op))), (oe, .inl (cI, 3, .inl en)), (na, .inl (cI, 6, .inl nm))] _ _ _
                refine x_iinc C dX3_says_78 2 rfl (v := nI (d + 1)) (nI_1 _) (by decide) (lv' := [(3, .int (nI (d + 1))), (5, .int op), (4, .int (nI (s_off T p + t))), (2, .ref na), (1, .int (nI p)), (0, .ref o)]) rfl ?_
                refine x_goto C dX3_says_81 (tgt := 159) rfl ?_
                refine x_iinc C dX3_says_159 2 rfl (v := nI (s_off T p + t + 1)) (nI_1 _) (by decide) (lv' := [(4, .int (nI (s_off T p + t + 1))), (3, .int (nI (d + 1))), (5, .int op), (2, .ref na), (1, .int (nI p)), (0, .ref o)]) rfl ?_
                refine x_goto C dX3_says_162 (tgt := 20) rfl ?_
                refine x_lv C [0, 1, 3, 4, 5] (lv' := [(4, .int (nI (s_off T p + t + 1))), (3, .int (nI (d + 1))), (2, .ref na), (1, .int (nI p)), (0, .ref o)]) rfl ?_
                exact ihL20_1 (t + 1) (d + 1) (upd f d op) (by omega) (by rw [s_run_succ nm _ ht2 hop, hr]; first | (simp [s_st, hop6, hop0]; done) | (simp [s_st, hop6, hop8]; done)) (by rw [s_dpl_succ _ ht2 hop, hd]; first | (simp [s_dp, hop6]; done) | exact hdd.2) (by omega)
            ·
              have c19 : d ≥ 160 := q_lt_f rfl (rfl : (160 : Int32) = nI 160) (by omega) (by omega) c19
              exfalso; omega
    rw [show (nI (s_off T p) : Int32) = nI (s_off T p + 0) from rfl.trans (congrArg nI (by omega))]
    show X 0 0 [(o, .inr (2, [.ref oc, .ref os, .ref oe, .int sz])), (oc, .inl (cI, 160, .inl cd)), (os, .inl (cI, 160, .inl sk)), (oe, .inl (cI, 3, .inl en)), (na, .inl (cI, 6, .inl nm))] [(4, .int (nI (s_off T p + 0))), (3, .int (nI 0)), (2, .ref na), (1, .int (nI p)), (0, .ref o)] 20 []
    exact L20_1 (((T p).length - 0) + 1) 0 0 sk (Nat.zero_le _) (by rw [List.take_zero]; rfl) (by rw [List.take_zero]; rfl) (Nat.lt_succ_self _)
  refine x_if_ne C dX3_says_3 (tgt := 10) rfl (fun c21 => ?_) (fun c21 => ?_)
  ·
    have c21 : p ≠ 0 := q_ne_t rfl (rfl : (0 : Int32) = nI 0) (by omega) (by omega) c21
    refine x_aload_n C dX3_says_10 1 rfl ?_
    refine x_get C inlX3 rfl 2 (by decide) gw_4_7 dX3_says_11 0 rfl rfl ?_
    refine x_iload_n C dX3_says_14 2 rfl ?_
    refine x_iconst C dX3_says_15 (v := 1) rfl ?_
    refine x_isub C dX3_says_16 ?_
    refine x_iaload C 0 rfl dX3_says_17 (p - 1) (q_cl (q_isub (a := p) (b := 1) rfl (rfl : (1 : Int32) = nI 1) (by omega)) (by omega)) (q_ix (q_isub (a := p) (b := 1) rfl (rfl : (1 : Int32) = nI 1) (by omega)) (by omega) (by omega)) 3 rfl ?_
    refine x_topi C (nI (s_off T p)) (by rw [hL.1 (p - 1) (by omega), show p - 1 + 1 = p by omega]) ?_
    refine x_lv C [0, 3, 2, 1] (lv' := [(3, .int 0), (2, .ref na), (1, .int (nI p)), (0, .ref o)]) rfl ?_
    exact L18_0  
  ·
    have c21 : p = 0 := q_ne_f rfl (rfl : (0 : Int32) = nI 0) (by omega) (by omega) c21
    refine x_iconst C dX3_says_6 (v := 0) rfl ?_
    refine x_goto C dX3_says_7 (tgt := 18) rfl ?_
    refine x_topi C (nI (s_off T p)) (by rw [show p = 0 by omega]; rfl) ?_
    refine x_lv C [0, 3, 2, 1] (lv' := [(3, .int 0), (2, .ref na), (1, .int (nI p)), (0, .ref o)]) rfl ?_
    exact L18_0  
