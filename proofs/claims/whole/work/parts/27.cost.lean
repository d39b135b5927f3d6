theorem kV_X1_15 : GoodIn GW (wsV RX1 15 yX1_list.cls yX1_list (Cond.code yX1_list cX1_list 5 (some .int) :: GW)) := r_gV gw_26_9 gw_26_10 gw_26_11 gw_2_1 gw_26_12
theorem hy_X1_list : yX1_list.cls ≠ "java/lang/invoke/MethodHandle" ∧ yX1_list.cls ≠ "java/lang/invoke/VarHandle" ∧ (parseMethodDescriptor yX1_list.desc).map (fun d => d.parameters.length) = some 1 := ⟨by decide +kernel, by decide +kernel, by decide +kernel⟩
theorem kS_X1_26 : GoodIn GW (va_wsS RX1 26 yJ13_bitCount_95d88 (Cond.code yJ13_bitCount_95d88 cJ13_bitCount_95d88 2 (some .int) :: GW)) := r_gS gw_26_23 gw_27_0 gw_27_1 gw_27_2
theorem hy_J13_bitCount_95d88 : yJ13_bitCount_95d88.cls ≠ "java/lang/invoke/MethodHandle" ∧ yJ13_bitCount_95d88.cls ≠ "java/lang/invoke/VarHandle" ∧ (parseMethodDescriptor yJ13_bitCount_95d88.desc).map (fun d => d.parameters.length) = some 1 := ⟨by decide +kernel, by decide +kernel, by decide +kernel⟩
theorem kV_X1_19 : GoodIn GW (wsV RX1 19 yX1_nearest.cls yX1_nearest (Cond.code yX1_nearest cX1_nearest 5 (some .int) :: GW)) := r_gV gw_26_13 gw_26_14 gw_26_15 gw_2_1 gw_26_16
theorem hy_X1_nearest : yX1_nearest.cls ≠ "java/lang/invoke/MethodHandle" ∧ yX1_nearest.cls ≠ "java/lang/invoke/VarHandle" ∧ (parseMethodDescriptor yX1_nearest.desc).map (fun d => d.parameters.length) = some 2 := ⟨by decide +kernel, by decide +kernel, by decide +kernel⟩
set_option maxHeartbeats 4000000 in
set_option maxRecDepth 100000 in
theorem c_X1_cost (l : Launch) (dG : va_G) (cI cM cW cS : ClassId) (hh aa ly l0 l1 : Nat) (z : Int64) (f D W : Nat → Int32) (hP : ∃ e, e < 36 ∧ s_b1 z e = true) : rM l yX1_cost cX1_cost 11 (some .int) ({ frames := 3, cells := 0, slots := 0, locals := 59 } : Room) dG (tY cI cM cW cS) rZ0 [.ref hh, .long z, .ref ly] [(hh, .inr (1, [.ref aa])), (aa, .inl (cI, 36, .inl f)), (ly, .inl (cM, 2, .inr (.inr (.inr (.inr (rr2 l0 l1)))))), (l0, .inl (cI, 36, .inl D)), (l1, .inl (cI, 36, .inl W))] (fun ov oz => ∃ (r : Int32) (f' : Nat → Int32), ov = some (.int r) ∧ oz = [(hh, .inr (1, [.ref aa])), (aa, .inl (cI, 36, .inl f')), (ly, .inl (cM, 2, .inr (.inr (.inr (.inr (rr2 l0 l1)))))), (l0, .inl (cI, 36, .inl D)), (l1, .inl (cI, 36, .inl W))] ∧ r = s_cost (s_b1 z) D W) := by
  refine rM_ofI rfl (Nat.le_of_ble_eq_true rfl) rfl (fun X C E => ?_)
  show X 0 0 [(hh, .inr (1, [.ref aa])), (aa, .inl (cI, 36, .inl f)), (ly, .inl (cM, 2, .inr (.inr (.inr (.inr (rr2 l0 l1)))))), (l0, .inl (cI, 36, .inl D)), (l1, .inl (cI, 36, .inl W))] [(0, .ref hh), (1, .long z), (3, .ref ly)] 0 []
  refine x_aload_n C dX1_cost_0 0 rfl ?_
  refine x_lload_n C dX1_cost_1 1 rfl ?_
  refine x_callV C (As := [.long z]) (st := []) (wc := [(hh, .inr (1, [.ref aa])), (aa, .inl (cI, 36, .inl f))]) (wr := [(ly, .inl (cM, 2, .inr (.inr (.inr (.inr (rr2 l0 l1)))))), (l0, .inl (cI, 36, .inl D)), (l1, .inl (cI, 36, .inl W))]) (c_X1_list l dG cI cM cW cS hh aa z f ) rZ0_ok (fun _ _ _ _ => trivial) kV_X1_15 ⟨rfl, hy_X1_list⟩ ⟨Nat.le_of_ble_eq_true rfl, Nat.le_of_ble_eq_true rfl⟩ ⟨Nat.le_of_ble_eq_true rfl, Nat.le_of_ble_eq_true rfl⟩ dX1_cost_2 0 rfl rfl [0, 1] [2, 3, 4] rfl rfl rfl rfl (by decide) rfl (Nat.le_of_ble_eq_true rfl) ?_
  intro v1 w2 h3
  obtain ⟨m_4, f_5, rfl, rfl, ⟨hm_7, hf_8⟩⟩ := h3
  show X 0 0 [(ly, .inl (cM, 2, .inr (.inr (.inr (.inr (rr2 l0 l1)))))), (l0, .inl (cI, 36, .inl D)), (l1, .inl (cI, 36, .inl W)), (hh, .inr (1, [.ref aa])), (aa, .inl (cI, 36, .inl f_5))] [(0, .ref hh), (1, .long z), (3, .ref ly)] 5 [.int (nI m_4)]
  have hle := s_heaps_le (s_b1 z) 36
  have hpos : 1 ≤ m_4 := by rw [hm_7]; obtain ⟨e9, he1, he2⟩ := hP; exact s_heaps_pos he1 he2
  have hnr : ∀ c, s_near f_5 c (m_4 - 1) = s_nr (s_b1 z) c 36 := fun c => by rcases s_near_nr (s_b1 z) f_5 c 36 (by decide) (fun j hj => hf_8 j (by rw [hm_7]; exact hj)) with h | h <;> first | exact absurd h.1 (by omega) | rw [h.2, hm_7]
  have hm36 : m_4 ≤ 36 := by omega
  refine x_istore C dX1_cost_5 (by decide) (lv' := [(4, .int (nI m_4)), (0, .ref hh), (1, .long z), (3, .ref ly)]) rfl ?_
  refine x_iconst C dX1_cost_7 (v := 0) rfl ?_
  refine x_istore C dX1_cost_8 (by decide) (lv' := [(5, .int 0), (4, .int (nI m_4)), (0, .ref hh), (1, .long z), (3, .ref ly)]) rfl ?_
  refine x_lconst C dX1_cost_10 (v := 0) rfl ?_
  refine x_lstore C dX1_cost_11 (by decide) (lv' := [(6, .long 0), (5, .int 0), (4, .int (nI m_4)), (0, .ref hh), (1, .long z), (3, .ref ly)]) rfl ?_
  refine x_iconst C dX1_cost_13 (v := 0) rfl ?_
  refine x_istore C dX1_cost_14 (by decide) (lv' := [(8, .int 0), (6, .long 0), (5, .int 0), (4, .int (nI m_4)), (0, .ref hh), (1, .long z), (3, .ref ly)]) rfl ?_
  have L16_8 : ∀ (fuel : Nat) (c : Nat) (u9 : Int64) (a9 : Int32), (hc : c ≤ 36) → (hq : s_cs (s_b1 z) D W c = (a9, u9)) → 36 - c < fuel → X 0 0 [(hh, .inr (1, [.ref aa])), (aa, .inl (cI, 36, .inl f_5)), (ly, .inl (cM, 2, .inr (.inr (.inr (.inr (rr2 l0 l1)))))), (l0, .inl (cI, 36, .inl D)), (l1, .inl (cI, 36, .inl W))] [(8, .int (nI c)), (6, .long u9), (5, .int a9), (4, .int (nI m_4)), (3, .ref ly), (1, .long z), (0, .ref hh)] 16 [] := by
    intro fuel
    induction fuel with
    | zero => intros; omega
    | succ fuel ihL16_8 =>
      intro c u9 a9 hc hq hfu
      refine x_iload C dX1_cost_16 0 rfl ?_
      refine x_bipush C dX1_cost_18 (v := 36) rfl ?_
      refine x_icmp_ge C dX1_cost_20 (tgt := 88) rfl (fun c10 => ?_) (fun c10 => ?_)
      ·
        have c10 : c ≥ 36 := q_ge_t rfl (rfl : (36 : Int32) = nI 36) (by omega) (by omega) c10
        refine x_iload C dX1_cost_88 2 rfl ?_
        refine x_bipush C dX1_cost_90 (v := 30) rfl ?_
        refine x_lload C dX1_cost_92 1 rfl ?_
        refine x_callS C (As := [.long u9]) (st := [.int 30, .int a9]) (wc := []) (wr := [(hh, .inr (1, [.ref aa])), (aa, .inl (cI, 36, .inl f_5)), (ly, .inl (cM, 2, .inr (.inr (.inr (.inr (rr2 l0 l1)))))), (l0, .inl (cI, 36, .inl D)), (l1, .inl (cI, 36, .inl W))]) (c_J13_bitCount_95d88 l dG cI cM cW cS u9 ) rZ0_ok (fun _ _ _ _ => trivial) kS_X1_26 hy_J13_bitCount_95d88 ⟨Nat.le_of_ble_eq_true rfl, Nat.le_of_ble_eq_true rfl⟩ ⟨Nat.le_of_ble_eq_true rfl, Nat.le_of_ble_eq_true rfl⟩ dX1_cost_94 [] [0, 1, 2, 3, 4] rfl rfl rfl rfl (by decide) rfl (Nat.le_of_ble_eq_true rfl) ?_
        intro v11 w12 h13
        obtain ⟨_, rfl, rfl, rfl⟩ := h13
        show X 0 0 [(hh, .inr (1, [.ref aa])), (aa, .inl (cI, 36, .inl f_5)), (ly, .inl (cM, 2, .inr (.inr (.inr (.inr (rr2 l0 l1)))))), (l0, .inl (cI, 36, .inl D)), (l1, .inl (cI, 36, .inl W))] [(8, .int (nI c)), (6, .long u9), (5, .int a9), (4, .int (nI m_4)), (3, .ref ly), (1, .long z), (0, .ref hh)] 97 [.int (s_bc u9), .int 30, .int a9]
        refine x_imul C dX1_cost_97 ?_
        refine x_iadd C dX1_cost_98 ?_
        refine E dX1_cost_99 (rfl) ?_
        exact ⟨(a9 + (30 * (s_bc u9))), f_5, rfl, rfl, by rw [show c = 36 by omega] at hq; rw [s_cost, hq]⟩
      ·
        have c10 : c < 36 := q_ge_f rfl (rfl : (36 : Int32) = nI 36) (by omega) (by omega) c10
        refine x_aload_n C dX1_cost_23 4 rfl ?_
        refine x_iconst C dX1_cost_24 (v := 0) rfl ?_
        refine x_aaloadA C 1 rfl dX1_cost_25 0 rfl (q_ix (rfl : (0 : Int32) = nI 0) (by decide) (by decide)) 2 rfl rfl ?_
        refine x_iload C dX1_cost_26 0 rfl ?_
        refine x_iaload C 0 rfl dX1_cost_28 c (q_cl rfl (by omega)) (q_ix rfl (by omega) (by omega)) 3 rfl ?_
        refine x_iconst C dX1_cost_29 (v := 4) rfl ?_
        refine x_aload_n C dX1_cost_30 4 rfl ?_
        refine x_iconst C dX1_cost_31 (v := 1) rfl ?_
        refine x_aaloadA C 1 rfl dX1_cost_32 1 rfl (q_ix (rfl : (1 : Int32) = nI 1) (by decide) (by decide)) 2 rfl rfl ?_
        refine x_iload C dX1_cost_33 0 rfl ?_
        show X _ _ _ _ 35 _
        refine x_iaload C 0 rfl dX1_cost_35 c (q_cl rfl (by omega)) (q_ix rfl (by omega) (by omega)) 4 rfl ?_
        refine x_imul C dX1_cost_36 ?_
        refine x_iadd C dX1_cost_37 ?_
        refine x_istore C dX1_cost_38 (by decide) (lv' := [(9, .int ((D c) + (4 * (W c)))), (8, .int (nI c)), (6, .long u9), (5, .int a9), (4, .int (nI m_4)), (3, .ref ly), (1, .long z), (0, .ref hh)]) rfl ?_
        refine x_iload C dX1_cost_40 0 rfl ?_
        refine x_if_ne C dX1_cost_42 (tgt := 48) rfl (fun c16 => ?_) (fun c16 => ?_)
        ·
          refine x_aload_n C dX1_cost_48 7 rfl ?_
          refine x_iload C dX1_cost_49 1 rfl ?_
          refine x_iload C dX1_cost_51 4 rfl ?_
          refine x_callV C (As := [.int (nI c), .int (nI m_4)]) (st := []) (wc := [(hh, .inr (1, [.ref aa])), (aa, .inl (cI, 36, .inl f_5))]) (wr := [(ly, .inl (cM, 2, .inr (.inr (.inr (.inr (rr2 l0 l1)))))), (l0, .inl (cI, 36, .inl D)), (l1, .inl (cI, 36, .inl W))]) (c_X1_nearest l dG cI cM cW cS hh aa (nI c) m_4 f_5 (by first | assumption | omega | decide) (by first | assumption | omega | decide)) rZ0_ok (fun _ _ _ _ => trivial) kV_X1_19 ⟨rfl, hy_X1_nearest⟩ ⟨Nat.le_of_ble_eq_true rfl, Nat.le_of_ble_eq_true rfl⟩ ⟨Nat.le_of_ble_eq_true rfl, Nat.le_of_ble_eq_true rfl⟩ dX1_cost_53 0 rfl rfl [0, 1] [2, 3, 4] rfl rfl rfl rfl (by decide) rfl (Nat.le_of_ble_eq_true rfl) ?_
          intro v17 w18 h19
          obtain ⟨_, rfl, rfl, rfl⟩ := h19
          show X 0 0 [(ly, .inl (cM, 2, .inr (.inr (.inr (.inr (rr2 l0 l1)))))), (l0, .inl (cI, 36, .inl D)), (l1, .inl (cI, 36, .inl W)), (hh, .inr (1, [.ref aa])), (aa, .inl (cI, 36, .inl f_5))] [(9, .int ((D c) + (4 * (W c)))), (8, .int (nI c)), (6, .long u9), (5, .int a9), (4, .int (nI m_4)), (3, .ref ly), (1, .long z), (0, .ref hh)] 56 [.int (s_near f_5 (nI c) (m_4 - 1))]
          refine x_topi C (s_nr (s_b1 z) (nI c) 36) (hnr (nI c)) ?_
          refine x_istore C dX1_cost_56 (by decide) (lv' := [(10, .int (s_nr (s_b1 z) (nI c) 36)), (9, .int ((D c) + (4 * (W c)))), (8, .int (nI c)), (6, .long u9), (5, .int a9), (4, .int (nI m_4)), (3, .ref ly), (1, .long z), (0, .ref hh)]) rfl ?_
          refine x_iload C dX1_cost_58 4 rfl ?_
          refine x_iload C dX1_cost_60 1 rfl ?_
          refine x_iload C dX1_cost_62 2 rfl ?_
          refine x_iload C dX1_cost_64 0 rfl ?_
          refine x_callS C (As := [.int (nI c), .int (s_nr (s_b1 z) (nI c) 36)]) (st := [.int ((D c) + (4 * (W c))), .int a9]) (wc := []) (wr := [(ly, .inl (cM, 2, .inr (.inr (.inr (.inr (rr2 l0 l1)))))), (l0, .inl (cI, 36, .inl D)), (l1, .inl (cI, 36, .inl W)), (hh, .inr (1, [.ref aa])), (aa, .inl (cI, 36, .inl f_5))]) (c_X1_far l dG cI cM cW cS (nI c) (s_nr (s_b1 z) (nI c) 36) ) rZ0_ok (fun _ _ _ _ => trivial) kS_X1_23 hy_X1_far ⟨Nat.le_of_ble_eq_true rfl, Nat.le_of_ble_eq_true rfl⟩ ⟨Nat.le_of_ble_eq_true rfl, Nat.le_of_ble_eq_true rfl⟩ dX1_cost_66 [] [0, 1, 2, 3, 4] rfl rfl rfl rfl (by decide) rfl (Nat.le_of_ble_eq_true rfl) ?_
          intro v22 w23 h24
          obtain ⟨_, rfl, rfl, rfl⟩ := h24
          show X 0 0 [(ly, .inl (cM, 2, .inr (.inr (.inr (.inr (rr2 l0 l1)))))), (l0, .inl (cI, 36, .inl D)), (l1, .inl (cI, 36, .inl W)), (hh, .inr (1, [.ref aa])), (aa, .inl (cI, 36, .inl f_5))] [(10, .int (s_nr (s_b1 z) (nI c) 36)), (9, .int ((D c) + (4 * (W c)))), (8, .int (nI c)), (6, .long u9), (5, .int a9), (4, .int (nI m_4)), (3, .ref ly), (1, .long z), (0, .ref hh)] 69 [.int (s_far (nI c) (s_nr (s_b1 z) (nI c) 36)), .int ((D c) + (4 * (W c))), .int a9]
          show X _ _ _ _ 69 _
          refine x_imul C dX1_cost_69 ?_
          refine x_iadd C dX1_cost_70 ?_
          refine x_istore C dX1_cost_71 (by decide) (lv' := [(5, .int (a9 + (((D c) + (4 * (W c))) * (s_far (nI c) (s_nr (s_b1 z) (nI c) 36))))), (10, .int (s_nr (s_b1 z) (nI c) 36)), (9, .int ((D c) + (4 * (W c)))), (8, .int (nI c)), (6, .long u9), (4, .int (nI m_4)), (3, .ref ly), (1, .long z), (0, .ref hh)]) rfl ?_
          refine x_lload C dX1_cost_73 4 rfl ?_
          refine x_lconst C dX1_cost_75 (v := 1) rfl ?_
          refine x_iload C dX1_cost_76 1 rfl ?_
          refine x_lshl C dX1_cost_78 ?_
          refine x_lor C dX1_cost_79 ?_
          refine x_lstore C dX1_cost_80 (by decide) (lv' := [(6, .long (u9 ||| (1 <<< ((s_nr (s_b1 z) (nI c) 36).toInt64 &&& 63)))), (5, .int (a9 + (((D c) + (4 * (W c))) * (s_far (nI c) (s_nr (s_b1 z) (nI c) 36))))), (10, .int (s_nr (s_b1 z) (nI c) 36)), (9, .int ((D c) + (4 * (W c)))), (8, .int (nI c)), (4, .int (nI m_4)), (3, .ref ly), (1, .long z), (0, .ref hh)]) rfl ?_
          refine x_iinc C dX1_cost_82 4 rfl (v := nI (c + 1)) (nI_1 _) (by decide) (lv' := [(8, .int (nI (c + 1))), (6, .long (u9 ||| (1 <<< ((s_nr (s_b1 z) (nI c) 36).toInt64 &&& 63)))), (5, .int (a9 + (((D c) + (4 * (W c))) * (s_far (nI c) (s_nr (s_b1 z) (nI c) 36))))), (10, .int (s_nr (s_b1 z) (nI c) 36)), (9, .int ((D c) + (4 * (W c)))), (4, .int (nI m_4)), (3, .ref ly), (1, .long z), (0, .ref hh)]) rfl ?_
          show X _ _ _ _ 85 _
          refine x_goto C dX1_cost_85 (tgt := 16) rfl ?_
          refine x_lv C [0, 1, 2, 5, 6, 7, 8] (lv' := [(8, .int (nI (c + 1))), (6, .long (u9 ||| (1 <<< ((s_nr (s_b1 z) (nI c) 36).toInt64 &&& 63)))), (5, .int (a9 + (((D c) + (4 * (W c))) * (s_far (nI c) (s_nr (s_b1 z) (nI c) 36))))), (4, .int (nI m_4)), (3, .ref ly), (1, .long z), (0, .ref hh)]) rfl ?_
          refine x_sub C [3, 4, 0, 1, 2] (ws' := [(hh, .inr (1, [.ref aa])), (aa, .inl (cI, 36, .inl f_5)), (ly, .inl (cM, 2, .inr (.inr (.inr (.inr (rr2 l0 l1)))))), (l0, .inl (cI, 36, .inl D)), (l1, .inl (cI, 36, .inl W))]) rfl rfl ?_
          exact ihL16_8 (c + 1) (u9 ||| (1 <<< ((s_nr (s_b1 z) (nI c) 36).toInt64 &&& 63))) (a9 + (((D c) + (4 * (W c))) * (s_far (nI c) (s_nr (s_b1 z) (nI c) 36)))) (by omega) (by first | (rw [s_cs_z (by assumption)]; exact hq) | (rw [s_cs_s (by assumption), hq])) (by omega)
        ·
          refine x_goto C dX1_cost_45 (tgt := 82) rfl ?_
          refine x_iinc C dX1_cost_82 1 rfl (v := nI (c + 1)) (nI_1 _) (by decide) (lv' := [(8, .int (nI (c + 1))), (9, .int ((D c) + (4 * (W c)))), (6, .long u9), (5, .int a9), (4, .int (nI m_4)), (3, .ref ly), (1, .long z), (0, .ref hh)]) rfl ?_
          refine x_goto C dX1_cost_85 (tgt := 16) rfl ?_
          refine x_lv C [0, 2, 3, 4, 5, 6, 7] (lv' := [(8, .int (nI (c + 1))), (6, .long u9), (5, .int a9), (4, .int (nI m_4)), (3, .ref ly), (1, .long z), (0, .ref hh)]) rfl ?_
          exact ihL16_8 (c + 1) u9 a9 (by omega) (by first | (rw [s_cs_z (by assumption)]; exact hq) | (rw [s_cs_s (by assumption), hq])) (by omega)
  refine x_lv C [0, 1, 2, 3, 6, 5, 4] (lv' := [(8, .int 0), (6, .long 0), (5, .int 0), (4, .int (nI m_4)), (3, .ref ly), (1, .long z), (0, .ref hh)]) rfl ?_
  refine x_sub C [3, 4, 0, 1, 2] (ws' := [(hh, .inr (1, [.ref aa])), (aa, .inl (cI, 36, .inl f_5)), (ly, .inl (cM, 2, .inr (.inr (.inr (.inr (rr2 l0 l1)))))), (l0, .inl (cI, 36, .inl D)), (l1, .inl (cI, 36, .inl W))]) rfl rfl ?_
  show X 0 0 [(hh, .inr (1, [.ref aa])), (aa, .inl (cI, 36, .inl f_5)), (ly, .inl (cM, 2, .inr (.inr (.inr (.inr (rr2 l0 l1)))))), (l0, .inl (cI, 36, .inl D)), (l1, .inl (cI, 36, .inl W))] [(8, .int (nI 0)), (6, .long 0), (5, .int 0), (4, .int (nI m_4)), (3, .ref ly), (1, .long z), (0, .ref hh)] 16 []
  exact L16_8 ((36 - 0) + 1) 0 0 0 (by omega) (rfl) (Nat.lt_succ_self _)
