set_option maxHeartbeats 4000000 in
set_option maxRecDepth 100000 in
theorem c_X3_add (l : Launch) (dG : va_G) (cI cM cW cS : ClassId) (rlw : Nat) (lc lsk len9 : Nat) (z : Nat) (cd : Nat → Int32) (w : Int32) (hz : z < 160) : rM l yX3_add cX3_add 2 none ({ frames := 0, cells := 0, slots := 0, locals := 0 } : Room) dG (tY cI cM cW cS) rZ0 [.ref rlw, .int w] [(rlw, .inr (2, [.ref lc, .ref lsk, .ref len9, .int (nI z)])), (lc, .inl (cI, 160, .inl cd))] (fun ov oz => ov = none ∧ oz = [(rlw, .inr (2, [.ref lc, .ref lsk, .ref len9, .int (nI (z + 1))])), (lc, .inl (cI, 160, .inl (upd cd z w)))] ∧ True) := by
  refine rM_ofV false (by intro h; cases h) rfl (Nat.le_of_ble_eq_true rfl) rfl (fun X C E => ?_)
  show X 0 0 [(rlw, .inr (2, [.ref lc, .ref lsk, .ref len9, .int (nI z)])), (lc, .inl (cI, 160, .inl cd))] [(0, .ref rlw), (1, .int w)] 0 []
  refine x_aload_n C dX3_add_0 0 rfl ?_
  refine x_get C inlX3 rfl 3 (by decide) gw_7_6 dX3_add_1 0 rfl rfl ?_
  refine x_sipush C dX3_add_4 (v := 160) rfl ?_
  refine x_icmp_lt C dX3_add_7 (tgt := 11) rfl (fun c1 => ?_) (fun c1 => ?_)
  ·
    have c1 : z < 160 := q_lt_t rfl (rfl : (160 : Int32) = nI 160) (by omega) (by omega) c1
    refine x_aload_n C dX3_add_11 0 rfl ?_
    refine x_get C inlX3 rfl 0 (by decide) gw_4_5 dX3_add_12 0 rfl rfl ?_
    refine x_aload_n C dX3_add_15 0 rfl ?_
    refine x_get C inlX3 rfl 3 (by decide) gw_7_6 dX3_add_16 0 rfl rfl ?_
    refine x_iload_n C dX3_add_19 1 rfl ?_
    refine x_iastore C 0 rfl dX3_add_20 z (q_cl rfl (by omega)) (q_ix rfl (by omega) (by omega)) 1 rfl ?_
    show X _ _ [(rlw, .inr (2, [.ref lc, .ref lsk, .ref len9, .int (nI z)])), (lc, .inl (cI, 160, .inl (upd cd z w)))] _ _ _
    refine x_aload_n C dX3_add_21 0 rfl ?_
    refine x_dup C dX3_add_22 rfl ?_
    refine x_get C inlX3 rfl 3 (by decide) gw_7_6 dX3_add_23 0 rfl rfl ?_
    refine x_iconst C dX3_add_26 (v := 1) rfl ?_
    show X _ _ _ _ 27 _
    refine x_iadd C dX3_add_27 ?_
    refine x_topi C (nI (z + 1)) (q_iadd (a := z) (b := 1) rfl (rfl : (1 : Int32) = nI 1)) ?_
    refine x_put C inlX3 rfl tyX3 tyX3_ok nmX3 3 (by decide) gw_7_6 rfl dX3_add_28 0 rfl (rfl) rfl (Nat.le_of_ble_eq_true rfl) ?_
    show X _ _ [(rlw, .inr (2, [.ref lc, .ref lsk, .ref len9, .int (nI (z + 1))])), (lc, .inl (cI, 160, .inl (upd cd z w)))] _ _ _
    refine E dX3_add_31 ?_
    exact ⟨rfl, rfl, by trivial⟩
  ·
    have c1 : z ≥ 160 := q_lt_f rfl (rfl : (160 : Int32) = nI 160) (by omega) (by omega) c1
    exfalso; omega
set_option maxHeartbeats 4000000 in
set_option maxRecDepth 100000 in
theorem c_X3_add_f (l : Launch) (dG : va_G) (cI cM cW cS : ClassId) (rlw : Nat) (lc lsk len9 : Nat) (z : Nat) (cd : Nat → Int32) (w : Int32) (hz : z ≤ 160) : rM l yX3_add cX3_add 2 none ({ frames := 0, cells := 0, slots := 0, locals := 0 } : Room) dG (tY cI cM cW cS) rZ0 [.ref rlw, .int w] [(rlw, .inr (2, [.ref lc, .ref lsk, .ref len9, .int (nI z)])), (lc, .inl (cI, 160, .inl cd))] (fun ov oz => ∃ (z' : Nat) (cd' : Nat → Int32), ov = none ∧ oz = [(rlw, .inr (2, [.ref lc, .ref lsk, .ref len9, .int (nI z')])), (lc, .inl (cI, 160, .inl cd'))] ∧ z' ≤ 160) := by
  refine rM_ofV false (by intro h; cases h) rfl (Nat.le_of_ble_eq_true rfl) rfl (fun X C E => ?_)
  show X 0 0 [(rlw, .inr (2, [.ref lc, .ref lsk, .ref len9, .int (nI z)])), (lc, .inl (cI, 160, .inl cd))] [(0, .ref rlw), (1, .int w)] 0 []
  refine x_aload_n C dX3_add_0 0 rfl ?_
  refine x_get C inlX3 rfl 3 (by decide) gw_7_6 dX3_add_1 0 rfl rfl ?_
  refine x_sipush C dX3_add_4 (v := 160) rfl ?_
  refine x_icmp_lt C dX3_add_7 (tgt := 11) rfl (fun c1 => ?_) (fun c1 => ?_)
  ·
    have c1 : z < 160 := q_lt_t rfl (rfl : (160 : Int32) = nI 160) (by omega) (by omega) c1
    refine x_aload_n C dX3_add_11 0 rfl ?_
    refine x_get C inlX3 rfl 0 (by decide) gw_4_5 dX3_add_12 0 rfl rfl ?_
    refine x_aload_n C dX3_add_15 0 rfl ?_
    refine x_get C inlX3 rfl 3 (by decide) gw_7_6 dX3_add_16 0 rfl rfl ?_
    refine x_iload_n C dX3_add_19 1 rfl ?_
    refine x_iastore C 0 rfl dX3_add_20 z (q_cl rfl (by omega)) (q_ix rfl (by omega) (by omega)) 1 rfl ?_
    show X _ _ [(rlw, .inr (2, [.ref lc, .ref lsk, .ref len9, .int (nI z)])), (lc, .inl (cI, 160, .inl (upd cd z w)))] _ _ _
    refine x_aload_n C dX3_add_21 0 rfl ?_
    refine x_dup C dX3_add_22 rfl ?_
    refine x_get C inlX3 rfl 3 (by decide) gw_7_6 dX3_add_23 0 rfl rfl ?_
    refine x_iconst C dX3_add_26 (v := 1) rfl ?_
    show X _ _ _ _ 27 _
    refine x_iadd C dX3_add_27 ?_
    refine x_topi C (nI (z + 1)) (q_iadd (a := z) (b := 1) rfl (rfl : (1 : Int32) = nI 1)) ?_
    refine x_put C inlX3 rfl tyX3 tyX3_ok nmX3 3 (by decide) gw_7_6 rfl dX3_add_28 0 rfl (rfl) rfl (Nat.le_of_ble_eq_true rfl) ?_
    show X _ _ [(rlw, .inr (2, [.ref lc, .ref lsk, .ref len9, .int (nI (z + 1))])), (lc, .inl (cI, 160, .inl (upd cd z w)))] _ _ _
    refine E dX3_add_31 ?_
    exact ⟨(z + 1), (upd cd z w), rfl, rfl, by omega⟩
  ·
    have c1 : z ≥ 160 := q_lt_f rfl (rfl : (160 : Int32) = nI 160) (by omega) (by omega) c1
    refine E dX3_add_10 ?_
    exact ⟨z, cd, rfl, rfl, by omega⟩
set_option maxHeartbeats 4000000 in
set_option maxRecDepth 100000 in
theorem c_X3_clear (l : Launch) (dG : va_G) (cI cM cW cS : ClassId) (rlw : Nat) (lc lsk len9 : Nat) (z : Nat) : rM l yX3_clear cX3_clear 1 none ({ frames := 0, cells := 0, slots := 0, locals := 0 } : Room) dG (tY cI cM cW cS) rZ0 [.ref rlw] [(rlw, .inr (2, [.ref lc, .ref lsk, .ref len9, .int (nI z)]))] (fun ov oz => ov = none ∧ oz = [(rlw, .inr (2, [.ref lc, .ref lsk, .ref len9, .int (nI 0)]))] ∧ True) := by
  refine rM_ofV false (by intro h; cases h) rfl (Nat.le_of_ble_eq_true rfl) rfl (fun X C E => ?_)
  show X 0 0 [(rlw, .inr (2, [.ref lc, .ref lsk, .ref len9, .int (nI z)]))] [(0, .ref rlw)] 0 []
  refine x_aload_n C dX3_clear_0 0 rfl ?_
  refine x_iconst C dX3_clear_1 (v := 0) rfl ?_
  refine x_put C inlX3 rfl tyX3 tyX3_ok nmX3 3 (by decide) gw_7_6 rfl dX3_clear_2 0 rfl (rfl) rfl (Nat.le_of_ble_eq_true rfl) ?_
  show X _ _ [(rlw, .inr (2, [.ref lc, .ref lsk, .ref len9, .int 0]))] _ _ _
  refine E dX3_clear_5 ?_
  exact ⟨rfl, rfl, by trivial⟩
theorem kV_X5_47 : GoodIn GW (wsV RX5 47 yX5_has.cls yX5_has (Cond.code yX5_has cX5_has 2 (some .boolean) :: GW)) := r_gV gw_8_18 gw_8_19 gw_8_20 gw_2_5 gw_8_21
theorem hy_X5_has : yX5_has.cls ≠ "java/lang/invoke/MethodHandle" ∧ yX5_has.cls ≠ "java/lang/invoke/VarHandle" ∧ (parseMethodDescriptor yX5_has.desc).map (fun d => d.parameters.length) = some 1 := ⟨by decide +kernel, by decide +kernel, by decide +kernel⟩
theorem kV_X5_51 : GoodIn GW (wsV RX5 51 yX5_faultHere.cls yX5_faultHere (Cond.code yX5_faultHere cX5_faultHere 1 none :: GW)) := r_gV gw_8_22 gw_8_23 gw_9_0 gw_2_5 gw_9_1
theorem hy_X5_faultHere : yX5_faultHere.cls ≠ "java/lang/invoke/MethodHandle" ∧ yX5_faultHere.cls ≠ "java/lang/invoke/VarHandle" ∧ (parseMethodDescriptor yX5_faultHere.desc).map (fun d => d.parameters.length) = some 0 := ⟨by decide +kernel, by decide +kernel, by decide +kernel⟩
set_option maxHeartbeats 4000000 in
set_option maxRecDepth 100000 in
theorem c_X5_readOne_f (l : Launch) (dG : va_G) (cI cM cW cS : ClassId) (adK adV : Nat → Nat) (fm : Option Nat) (rd rta rlw n : Nat) (tp : Nat → Int32) (rat rtk rpl rva : Int32) (f : Nat) (w : Int32) (hf : f < 1000) : rM l yX5_readOne cX5_readOne 2 none ({ frames := 1, cells := 0, slots := 0, locals := 21 } : Room) dG (tY cI cM cW cS) (rZs adK adV fm) [.ref rd, .int w] [(rd, .inr (4, [.ref rta, .int (nI n), .int rat, .int rtk, .int rpl, .int rva, .int (nI f), .ref rlw])), (rta, .inl (cI, 160, .inl tp))] (fun ov oz => ov = none ∧ oz = [(rd, .inr (4, [.ref rta, .int (nI n), .int rat, .int rtk, .int rpl, .int rva, .int (nI f), .ref rlw])), (rta, .inl (cI, 160, .inl tp))] ∧ True) := by
  refine rM_ofV false (by intro h; cases h) rfl (Nat.le_of_ble_eq_true rfl) rfl (fun X C E => ?_)
  show X 0 0 [(rd, .inr (4, [.ref rta, .int (nI n), .int rat, .int rtk, .int rpl, .int rva, .int (nI f), .ref rlw])), (rta, .inl (cI, 160, .inl tp))] [(0, .ref rd), (1, .int w)] 0 []
  refine x_aload_n C dX5_readOne_0 0 rfl ?_
  refine x_iconst C dX5_readOne_1 (v := 2) rfl ?_
  refine x_callV C (As := [.int 2]) (st := []) (wc := [(rd, .inr (4, [.ref rta, .int (nI n), .int rat, .int rtk, .int rpl, .int rva, .int (nI f), .ref rlw]))]) (wr := [(rta, .inl (cI, 160, .inl tp))]) (c_X5_has l dG cI cM cW cS rd rta rlw n tp rat rtk rpl rva (nI f) 2 ) rZ0_ok (fun _ _ _ _ => trivial) kV_X5_47 ⟨rfl, hy_X5_has⟩ ⟨Nat.le_of_ble_eq_true rfl, Nat.le_of_ble_eq_true rfl⟩ ⟨Nat.le_of_ble_eq_true rfl, Nat.le_of_ble_eq_true rfl⟩ dX5_readOne_2 0 rfl rfl [0] [1] rfl rfl rfl rfl (by decide) rfl (Nat.le_of_ble_eq_true rfl) ?_
  intro v1 w2 h3
  rcases h3 with h3 | h3
  ·
    obtain ⟨rfl, rfl, hf4⟩ := h3
    show X 0 0 [(rta, .inl (cI, 160, .inl tp)), (rd, .inr (4, [.ref rta, .int (nI n), .int rat, .int rtk, .int rpl, .int rva, .int (nI f), .ref rlw]))] [(0, .ref rd), (1, .int w)] 5 [.int 1]
    exact absurd hf4.1 (nI_nm1 (by omega))
  ·
    obtain ⟨rfl, rfl, hf5⟩ := h3
    show X 0 0 [(rta, .inl (cI, 160, .inl tp)), (rd, .inr (4, [.ref rta, .int (nI n), .int rat, .int rtk, .int rpl, .int rva, .int (nI f), .ref rlw]))] [(0, .ref rd), (1, .int w)] 5 [.int 0]
    refine x_if_ne C dX5_readOne_5 (tgt := 16) rfl (fun q9 => absurd q9 (by decide)) (fun _ => ?_)
    refine x_aload_n C dX5_readOne_8 0 rfl ?_
    refine x_iconst C dX5_readOne_9 (v := 3) rfl ?_
    refine x_callV C (As := [.int 3]) (st := []) (wc := [(rd, .inr (4, [.ref rta, .int (nI n), .int rat, .int rtk, .int rpl, .int rva, .int (nI f), .ref rlw]))]) (wr := [(rta, .inl (cI, 160, .inl tp))]) (c_X5_has l dG cI cM cW cS rd rta rlw n tp rat rtk rpl rva (nI f) 3 ) rZ0_ok (fun _ _ _ _ => trivial) kV_X5_47 ⟨rfl, hy_X5_has⟩ ⟨Nat.le_of_ble_eq_true rfl, Nat.le_of_ble_eq_true rfl⟩ ⟨Nat.le_of_ble_eq_true rfl, Nat.le_of_ble_eq_true rfl⟩ dX5_readOne_10 1 rfl rfl [1] [0] rfl rfl rfl rfl (by decide) rfl (Nat.le_of_ble_eq_true rfl) ?_
    intro v6 w7 h8
    rcases h8 with h8 | h8
    ·
      obtain ⟨rfl, rfl, hf9⟩ := h8
      show X 0 0 [(rta, .inl (cI, 160, .inl tp)), (rd, .inr (4, [.ref rta, .int (nI n), .int rat, .int rtk, .int rpl, .int rva, .int (nI f), .ref rlw]))] [(0, .ref rd), (1, .int w)] 13 [.int 1]
      exact absurd hf9.1 (nI_nm1 (by omega))
    ·
      obtain ⟨rfl, rfl, hf10⟩ := h8
      show X 0 0 [(rta, .inl (cI, 160, .inl tp)), (rd, .inr (4, [.ref rta, .int (nI n), .int rat, .int rtk, .int rpl, .int rva, .int (nI f), .ref rlw]))] [(0, .ref rd), (1, .int w)] 13 [.int 0]
      refine x_if_eq C dX5_readOne_13 (tgt := 51) rfl (fun _ => ?_) (fun q9 => by first | exact absurd q9 (by decide) | exact absurd (by decide) q9)
      refine x_aload_n C dX5_readOne_51 0 rfl ?_
      refine x_bipush C dX5_readOne_52 (v := 45) rfl ?_
      refine x_callV C (As := [.int 45]) (st := []) (wc := [(rd, .inr (4, [.ref rta, .int (nI n), .int rat, .int rtk, .int rpl, .int rva, .int (nI f), .ref rlw]))]) (wr := [(rta, .inl (cI, 160, .inl tp))]) (c_X5_has l dG cI cM cW cS rd rta rlw n tp rat rtk rpl rva (nI f) 45 ) rZ0_ok (fun _ _ _ _ => trivial) kV_X5_47 ⟨rfl, hy_X5_has⟩ ⟨Nat.le_of_ble_eq_true rfl, Nat.le_of_ble_eq_true rfl⟩ ⟨Nat.le_of_ble_eq_true rfl, Nat.le_of_ble_eq_true rfl⟩ dX5_readOne_54 1 rfl rfl [1] [0] rfl rfl rfl rfl (by decide) rfl (Nat.le_of_ble_eq_true rfl) ?_
      intro v11 w12 h13
      rcases h13 with h13 | h13
      ·
        obtain ⟨rfl, rfl, hf14⟩ := h13
        show X 0 0 [(rta, .inl (cI, 160, .inl tp)), (rd, .inr (4, [.ref rta, .int (nI n), .int rat, .int rtk, .int rpl, .int rva, .int (nI f), .ref rlw]))] [(0, .ref rd), (1, .int w)] 57 [.int 1]
        exact absurd hf14.1 (nI_nm1 (by omega))
      ·
        obtain ⟨rfl, rfl, hf15⟩ := h13
        show X 0 0 [(rta, .inl (cI, 160, .inl tp)), (rd, .inr (4, [.ref rta, .int (nI n), .int rat, .int rtk, .int rpl, .int rva, .int (nI f), .ref rlw]))] [(0, .ref rd), (1, .int w)] 57 [.int 0]
        refine x_if_eq C dX5_readOne_57 (tgt := 87) rfl (fun _ => ?_) (fun q9 => by first | exact absurd q9 (by decide) | exact absurd (by decide) q9)
        refine x_aload_n C dX5_readOne_87 0 rfl ?_
        refine x_bipush C dX5_readOne_88 (v := 40) rfl ?_
        refine x_callV C (As := [.int 40]) (st := []) (wc := [(rd, .inr (4, [.ref rta, .int (nI n), .int rat, .int rtk, .int rpl, .int rva, .int (nI f), .ref rlw]))]) (wr := [(rta, .inl (cI, 160, .inl tp))]) (c_X5_has l dG cI cM cW cS rd rta rlw n tp rat rtk rpl rva (nI f) 40 ) rZ0_ok (fun _ _ _ _ => trivial) kV_X5_47 ⟨rfl, hy_X5_has⟩ ⟨Nat.le_of_ble_eq_true rfl, Nat.le_of_ble_eq_true rfl⟩ ⟨Nat.le_of_ble_eq_true rfl, Nat.le_of_ble_eq_true rfl⟩ dX5_readOne_90 1 rfl rfl [1] [0] rfl rfl rfl rfl (by decide) rfl (Nat.le_of_ble_eq_true rfl) ?_
        intro v16 w17 h18
        rcases h18 with h18 | h18
        ·
          obtain ⟨rfl, rfl, hf19⟩ := h18
          show X 0 0 [(rta, .inl (cI, 160, .inl tp)), (rd, .inr (4, [.ref rta, .int (nI n), .int rat, .int rtk, .int rpl, .int rva, .int (nI f), .ref rlw]))] [(0, .ref rd), (1, .int w)] 93 [.int 1]
          exact absurd hf19.1 (nI_nm1 (by omega))
        ·
          obtain ⟨rfl, rfl, hf20⟩ := h18
          show X 0 0 [(rta, .inl (cI, 160, .inl tp)), (rd, .inr (4, [.ref rta, .int (nI n), .int rat, .int rtk, .int rpl, .int rva, .int (nI f), .ref rlw]))] [(0, .ref rd), (1, .int w)] 93 [.int 0]
          refine x_if_eq C dX5_readOne_93 (tgt := 120) rfl (fun _ => ?_) (fun q9 => by first | exact absurd q9 (by decide) | exact absurd (by decide) q9)
          refine x_aload_n C dX5_readOne_120 0 rfl ?_
          refine x_callV C (As := []) (st := []) (wc := [(rd, .inr (4, [.ref rta, .int (nI n), .int rat, .int rtk, .int rpl, .int rva, .int (nI f), .ref rlw]))]) (wr := [(rta, .inl (cI, 160, .inl tp))]) (c_X5_faultHere_f l dG cI cM cW cS rd rta rlw n tp rat rtk rpl rva f (by first | assumption | omega | decide)) rZ0_ok (fun _ _ _ _ => trivial) kV_X5_51 ⟨rfl, hy_X5_faultHere⟩ ⟨Nat.le_of_ble_eq_true rfl, Nat.le_of_ble_eq_true rfl⟩ ⟨Nat.le_of_ble_eq_true rfl, Nat.le_of_ble_eq_true rfl⟩ dX5_readOne_121 1 rfl rfl [1] [0] rfl rfl rfl rfl (by decide) rfl (Nat.le_of_ble_eq_true rfl) ?_
          intro v21 w22 h23
          obtain ⟨rfl, rfl, hf24⟩ := h23
          show X 0 0 [(rta, .inl (cI, 160, .inl tp)), (rd, .inr (4, [.ref rta, .int (nI n), .int rat, .int rtk, .int rpl, .int rva, .int (nI f), .ref rlw]))] [(0, .ref rd), (1, .int w)] 124 []
          refine x_sub C [1, 0] (ws' := [(rd, .inr (4, [.ref rta, .int (nI n), .int rat, .int rtk, .int rpl, .int rva, .int (nI f), .ref rlw])), (rta, .inl (cI, 160, .inl tp))]) rfl rfl ?_
          refine E dX5_readOne_124 ?_
          exact ⟨rfl, rfl, by trivial⟩
theorem kV_X5_75 : GoodIn GW (wsV RX5 75 yX5_readOne.cls yX5_readOne (Cond.code yX5_readOne cX5_readOne 2 none :: GW)) := r_gV gw_10_2 gw_10_3 gw_10_4 gw_2_5 gw_10_1
theorem hy_X5_readOne : yX5_readOne.cls ≠ "java/lang/invoke/MethodHandle" ∧ yX5_readOne.cls ≠ "java/lang/invoke/VarHandle" ∧ (parseMethodDescriptor yX5_readOne.desc).map (fun d => d.parameters.length) = some 1 := ⟨by decide +kernel, by decide +kernel, by decide +kernel⟩
set_option maxHeartbeats 4000000 in
set_option maxRecDepth 100000 in
theorem c_X5_readTerm_f (l : Launch) (dG : va_G) (cI cM cW cS : ClassId) (adK adV : Nat → Nat) (fm : Option Nat) (rd rta rlw n : Nat) (tp : Nat → Int32) (rat rtk rpl rva : Int32) (f : Nat) (w : Int32) (hf : f < 1000) : rM l yX5_readTerm cX5_readTerm 3 none ({ frames := 2, cells := 0, slots := 0, locals := 42 } : Room) dG (tY cI cM cW cS) (rZs adK adV fm) [.ref rd, .int w] [(rd, .inr (4, [.ref rta, .int (nI n), .int rat, .int rtk, .int rpl, .int rva, .int (nI f), .ref rlw])), (rta, .inl (cI, 160, .inl tp))] (fun ov oz => ov = none ∧ oz = [(rd, .inr (4, [.ref rta, .int (nI n), .int rat, .int rtk, .int rpl, .int rva, .int (nI f), .ref rlw])), (rta, .inl (cI, 160, .inl tp))] ∧ True) := by
  refine rM_ofV false (by intro h; cases h) rfl (Nat.le_of_ble_eq_true rfl) rfl (fun X C E => ?_)
  show X 0 0 [(rd, .inr (4, [.ref rta, .int (nI n), .int rat, .int rtk, .int rpl, .int rva, .int (nI f), .ref rlw])), (rta, .inl (cI, 160, .inl tp))] [(0, .ref rd), (1, .int w)] 0 []
  refine x_aload_n C dX5_readTerm_0 0 rfl ?_
  refine x_iload_n C dX5_readTerm_1 1 rfl ?_
  refine x_callV C (As := [.int w]) (st := []) (wc := [(rd, .inr (4, [.ref rta, .int (nI n), .int rat, .int rtk, .int rpl, .int rva, .int (nI f), .ref rlw])), (rta, .inl (cI, 160, .inl tp))]) (wr := []) (c_X5_readOne_f l dG cI cM cW cS adK adV fm rd rta rlw n tp rat rtk rpl rva f w (by omega)) (rZs_ok adK adV fm) (fun _ _ _ h9 => h9) kV_X5_75 ⟨rfl, hy_X5_readOne⟩ ⟨Nat.le_of_ble_eq_true rfl, Nat.le_of_ble_eq_true rfl⟩ ⟨Nat.le_of_ble_eq_true rfl, Nat.le_of_ble_eq_true rfl⟩ dX5_readTerm_2 0 rfl rfl [0, 1] [] rfl rfl rfl rfl (by decide) rfl (Nat.le_of_ble_eq_true rfl) ?_
  intro v1 w2 h3
  obtain ⟨rfl, rfl, hf4⟩ := h3
  show X 0 0 [(rd, .inr (4, [.ref rta, .int (nI n), .int rat, .int rtk, .int rpl, .int rva, .int (nI f), .ref rlw])), (rta, .inl (cI, 160, .inl tp))] [(0, .ref rd), (1, .int w)] 5 []
  refine x_iconst C dX5_readTerm_5 (v := 0) rfl ?_
  refine x_istore_n C dX5_readTerm_6 (by decide) (lv' := [(2, .int 0), (0, .ref rd), (1, .int w)]) rfl ?_
  refine x_iload_n C dX5_readTerm_7 0 rfl ?_
  refine x_sipush C dX5_readTerm_8 (v := 160) rfl ?_
  refine x_icmp_ge C dX5_readTerm_11 (tgt := 47) rfl (fun q9 => absurd q9 (by decide)) (fun _ => ?_)
  refine x_aload_n C dX5_readTerm_14 1 rfl ?_
  refine x_bipush C dX5_readTerm_15 (v := 42) rfl ?_
  show X _ _ _ _ 17 _
  refine x_callV C (As := [.int 42]) (st := []) (wc := [(rd, .inr (4, [.ref rta, .int (nI n), .int rat, .int rtk, .int rpl, .int rva, .int (nI f), .ref rlw]))]) (wr := [(rta, .inl (cI, 160, .inl tp))]) (c_X5_has l dG cI cM cW cS rd rta rlw n tp rat rtk rpl rva (nI f) 42 ) rZ0_ok (fun _ _ _ _ => trivial) kV_X5_47 ⟨rfl, hy_X5_has⟩ ⟨Nat.le_of_ble_eq_true rfl, Nat.le_of_ble_eq_true rfl⟩ ⟨Nat.le_of_ble_eq_true rfl, Nat.le_of_ble_eq_true rfl⟩ dX5_readTerm_17 0 rfl rfl [0] [1] rfl rfl rfl rfl (by decide) rfl (Nat.le_of_ble_eq_true rfl) ?_
  intro v5 w6 h7
  rcases h7 with h7 | h7
  ·
    obtain ⟨rfl, rfl, hf8⟩ := h7
    show X 0 0 [(rta, .inl (cI, 160, .inl tp)), (rd, .inr (4, [.ref rta, .int (nI n), .int rat, .int rtk, .int rpl, .int rva, .int (nI f), .ref rlw]))] [(2, .int 0), (0, .ref rd), (1, .int w)] 20 [.int 1]
    exact absurd hf8.1 (nI_nm1 (by omega))
  ·
    obtain ⟨rfl, rfl, hf9⟩ := h7
    show X 0 0 [(rta, .inl (cI, 160, .inl tp)), (rd, .inr (4, [.ref rta, .int (nI n), .int rat, .int rtk, .int rpl, .int rva, .int (nI f), .ref rlw]))] [(2, .int 0), (0, .ref rd), (1, .int w)] 20 [.int 0]
    refine x_if_eq C dX5_readTerm_20 (tgt := 47) rfl (fun _ => ?_) (fun q9 => by first | exact absurd q9 (by decide) | exact absurd (by decide) q9)
    refine x_sub C [1, 0] (ws' := [(rd, .inr (4, [.ref rta, .int (nI n), .int rat, .int rtk, .int rpl, .int rva, .int (nI f), .ref rlw])), (rta, .inl (cI, 160, .inl tp))]) rfl rfl ?_
    refine E dX5_readTerm_47 ?_
    exact ⟨rfl, rfl, by trivial⟩
theorem kV_X5_72 : GoodIn GW (wsV RX5 72 yX5_readTerm.cls yX5_readTerm (Cond.code yX5_readTerm cX5_readTerm 3 none :: GW)) := r_gV gw_10_6 gw_10_7 gw_10_8 gw_2_5 gw_10_9
theorem hy_X5_readTerm : yX5_readTerm.cls ≠ "java/lang/invoke/MethodHandle" ∧ yX5_readTerm.cls ≠ "java/lang/invoke/VarHandle" ∧ (parseMethodDescriptor yX5_readTerm.desc).map (fun d => d.parameters.length) = some 1 := ⟨by decide +kernel, by decide +kernel, by decide +kernel⟩
set_option maxHeartbeats 4000000 in
set_option maxRecDepth 100000 in
theorem c_X5_readSum_f (l : Launch) (dG : va_G) (cI cM cW cS : ClassId) (adK adV : Nat → Nat) (fm : Option Nat) (rd rta rlw n : Nat) (tp : Nat → Int32) (rat rtk rpl rva : Int32) (f : Nat) (w : Int32) (hf : f < 1000) : rM l yX5_readSum cX5_readSum 4 none ({ frames := 3, cells := 0, slots := 0, locals := 64 } : Room) dG (tY cI cM cW cS) (rZs adK adV fm) [.ref rd, .int w] [(rd, .inr (4, [.ref rta, .int (nI n), .int rat, .int rtk, .int rpl, .int rva, .int (nI f), .ref rlw])), (rta, .inl (cI, 160, .inl tp))] (fun ov oz => ov = none ∧ oz = [(rd, .inr (4, [.ref rta, .int (nI n), .int rat, .int rtk, .int rpl, .int rva, .int (nI f), .ref rlw])), (rta, .inl (cI, 160, .inl tp))] ∧ True) := by
  refine rM_ofV false (by intro h; cases h) rfl (Nat.le_of_ble_eq_true rfl) rfl (fun X C E => ?_)
  show X 0 0 [(rd, .inr (4, [.ref rta, .int (nI n), .int rat, .int rtk, .int rpl, .int rva, .int (nI f), .ref rlw])), (rta, .inl (cI, 160, .inl tp))] [(0, .ref rd), (1, .int w)] 0 []
  refine x_aload_n C dX5_readSum_0 0 rfl ?_
  refine x_iload_n C dX5_readSum_1 1 rfl ?_
  refine x_callV C (As := [.int w]) (st := []) (wc := [(rd, .inr (4, [.ref rta, .int (nI n), .int rat, .int rtk, .int rpl, .int rva, .int (nI f), .ref rlw])), (rta, .inl (cI, 160, .inl tp))]) (wr := []) (c_X5_readTerm_f l dG cI cM cW cS adK adV fm rd rta rlw n tp rat rtk rpl rva f w (by omega)) (rZs_ok adK adV fm) (fun _ _ _ h9 => h9) kV_X5_72 ⟨rfl, hy_X5_readTerm⟩ ⟨Nat.le_of_ble_eq_true rfl, Nat.le_of_ble_eq_true rfl⟩ ⟨Nat.le_of_ble_eq_true rfl, Nat.le_of_ble_eq_true rfl⟩ dX5_readSum_2 0 rfl rfl [0, 1] [] rfl rfl rfl rfl (by decide) rfl (Nat.le_of_ble_eq_true rfl) ?_
  intro v1 w2 h3
  obtain ⟨rfl, rfl, hf4⟩ := h3
  show X 0 0 [(rd, .inr (4, [.ref rta, .int (nI n), .int rat, .int rtk, .int rpl, .int rva, .int (nI f), .ref rlw])), (rta, .inl (cI, 160, .inl tp))] [(0, .ref rd), (1, .int w)] 5 []
  refine x_iconst C dX5_readSum_5 (v := 0) rfl ?_
  refine x_istore_n C dX5_readSum_6 (by decide) (lv' := [(2, .int 0), (0, .ref rd), (1, .int w)]) rfl ?_
  refine x_iload_n C dX5_readSum_7 0 rfl ?_
  refine x_sipush C dX5_readSum_8 (v := 160) rfl ?_
  refine x_icmp_ge C dX5_readSum_11 (tgt := 72) rfl (fun q9 => absurd q9 (by decide)) (fun _ => ?_)
  refine x_aload_n C dX5_readSum_14 1 rfl ?_
  refine x_bipush C dX5_readSum_15 (v := 43) rfl ?_
  show X _ _ _ _ 17 _
  refine x_callV C (As := [.int 43]) (st := []) (wc := [(rd, .inr (4, [.ref rta, .int (nI n), .int rat, .int rtk, .int rpl, .int rva, .int (nI f), .ref rlw]))]) (wr := [(rta, .inl (cI, 160, .inl tp))]) (c_X5_has l dG cI cM cW cS rd rta rlw n tp rat rtk rpl rva (nI f) 43 ) rZ0_ok (fun _ _ _ _ => trivial) kV_X5_47 ⟨rfl, hy_X5_has⟩ ⟨Nat.le_of_ble_eq_true rfl, Nat.le_of_ble_eq_true rfl⟩ ⟨Nat.le_of_ble_eq_true rfl, Nat.le_of_ble_eq_true rfl⟩ dX5_readSum_17 0 rfl rfl [0] [1] rfl rfl rfl rfl (by decide) rfl (Nat.le_of_ble_eq_true rfl) ?_
  intro v5 w6 h7
  rcases h7 with h7 | h7
  ·
    obtain ⟨rfl, rfl, hf8⟩ := h7
    show X 0 0 [(rta, .inl (cI, 160, .inl tp)), (rd, .inr (4, [.ref rta, .int (nI n), .int rat, .int rtk, .int rpl, .int rva, .int (nI f), .ref rlw]))] [(2, .int 0), (0, .ref rd), (1, .int w)] 20 [.int 1]
    exact absurd hf8.1 (nI_nm1 (by omega))
  ·
    obtain ⟨rfl, rfl, hf9⟩ := h7
    show X 0 0 [(rta, .inl (cI, 160, .inl tp)), (rd, .inr (4, [.ref rta, .int (nI n), .int rat, .int rtk, .int rpl, .int rva, .int (nI f), .ref rlw]))] [(2, .int 0), (0, .ref rd), (1, .int w)] 20 [.int 0]
    refine x_if_ne C dX5_readSum_20 (tgt := 32) rfl (fun q9 => absurd q9 (by decide)) (fun _ => ?_)
    refine x_aload_n C dX5_readSum_23 1 rfl ?_
    refine x_bipush C dX5_readSum_24 (v := 45) rfl ?_
    refine x_callV C (As := [.int 45]) (st := []) (wc := [(rd, .inr (4, [.ref rta, .int (nI n), .int rat, .int rtk, .int rpl, .int rva, .int (nI f), .ref rlw]))]) (wr := [(rta, .inl (cI, 160, .inl tp))]) (c_X5_has l dG cI cM cW cS rd rta rlw n tp rat rtk rpl rva (nI f) 45 ) rZ0_ok (fun _ _ _ _ => trivial) kV_X5_47 ⟨rfl, hy_X5_has⟩ ⟨Nat.le_of_ble_eq_true rfl, Nat.le_of_ble_eq_true rfl⟩ ⟨Nat.le_of_ble_eq_true rfl, Nat.le_of_ble_eq_true rfl⟩ dX5_readSum_26 1 rfl rfl [1] [0] rfl rfl rfl rfl (by decide) rfl (Nat.le_of_ble_eq_true rfl) ?_
    intro v10 w11 h12
    rcases h12 with h12 | h12
    ·
      obtain ⟨rfl, rfl, hf13⟩ := h12
      show X 0 0 [(rta, .inl (cI, 160, .inl tp)), (rd, .inr (4, [.ref rta, .int (nI n), .int rat, .int rtk, .int rpl, .int rva, .int (nI f), .ref rlw]))] [(2, .int 0), (0, .ref rd), (1, .int w)] 29 [.int 1]
      exact absurd hf13.1 (nI_nm1 (by omega))
    ·
      obtain ⟨rfl, rfl, hf14⟩ := h12
      show X 0 0 [(rta, .inl (cI, 160, .inl tp)), (rd, .inr (4, [.ref rta, .int (nI n), .int rat, .int rtk, .int rpl, .int rva, .int (nI f), .ref rlw]))] [(2, .int 0), (0, .ref rd), (1, .int w)] 29 [.int 0]
      refine x_if_eq C dX5_readSum_29 (tgt := 72) rfl (fun _ => ?_) (fun q9 => by first | exact absurd q9 (by decide) | exact absurd (by decide) q9)
      refine x_sub C [1, 0] (ws' := [(rd, .inr (4, [.ref rta, .int (nI n), .int rat, .int rtk, .int rpl, .int rva, .int (nI f), .ref rlw])), (rta, .inl (cI, 160, .inl tp))]) rfl rfl ?_
      refine E dX5_readSum_72 ?_
      exact ⟨rfl, rfl, by trivial⟩
theorem kV_X5_66 : GoodIn GW (wsV RX5 66 yX5_readSum.cls yX5_readSum (Cond.code yX5_readSum cX5_readSum 4 none :: GW)) := r_gV gw_9_22 gw_9_23 gw_10_0 gw_2_5 gw_10_5
theorem hy_X5_readSum : yX5_readSum.cls ≠ "java/lang/invoke/MethodHandle" ∧ yX5_readSum.cls ≠ "java/lang/invoke/VarHandle" ∧ (parseMethodDescriptor yX5_readSum.desc).map (fun d => d.parameters.length) = some 1 := ⟨by decide +kernel, by decide +kernel, by decide +kernel⟩
set_option maxHeartbeats 4000000 in
set_option maxRecDepth 100000 in
theorem c_X5_readNot_f (l : Launch) (dG : va_G) (cI cM cW cS : ClassId) (adK adV : Nat → Nat) (fm : Option Nat) (rd rta rlw n : Nat) (tp : Nat → Int32) (rat rtk rpl rva : Int32) (f : Nat) (w : Int32) (hf : f < 1000) : rM l yX5_readNot cX5_readNot 3 none ({ frames := 4, cells := 0, slots := 0, locals := 87 } : Room) dG (tY cI cM cW cS) (rZs adK adV fm) [.ref rd, .int w] [(rd, .inr (4, [.ref rta, .int (nI n), .int rat, .int rtk, .int rpl, .int rva, .int (nI f), .ref rlw])), (rta, .inl (cI, 160, .inl tp))] (fun ov oz => ov = none ∧ oz = [(rd, .inr (4, [.ref rta, .int (nI n), .int rat, .int rtk, .int rpl, .int rva, .int (nI f), .ref rlw])), (rta, .inl (cI, 160, .inl tp))] ∧ True) := by
  refine rM_ofV false (by intro h; cases h) rfl (Nat.le_of_ble_eq_true rfl) rfl (fun X C E => ?_)
  show X 0 0 [(rd, .inr (4, [.ref rta, .int (nI n), .int rat, .int rtk, .int rpl, .int rva, .int (nI f), .ref rlw])), (rta, .inl (cI, 160, .inl tp))] [(0, .ref rd), (1, .int w)] 0 []
  refine x_aload_n C dX5_readNot_0 0 rfl ?_
  refine x_bipush C dX5_readNot_1 (v := 9) rfl ?_
  refine x_callV C (As := [.int 9]) (st := []) (wc := [(rd, .inr (4, [.ref rta, .int (nI n), .int rat, .int rtk, .int rpl, .int rva, .int (nI f), .ref rlw]))]) (wr := [(rta, .inl (cI, 160, .inl tp))]) (c_X5_has l dG cI cM cW cS rd rta rlw n tp rat rtk rpl rva (nI f) 9 ) rZ0_ok (fun _ _ _ _ => trivial) kV_X5_47 ⟨rfl, hy_X5_has⟩ ⟨Nat.le_of_ble_eq_true rfl, Nat.le_of_ble_eq_true rfl⟩ ⟨Nat.le_of_ble_eq_true rfl, Nat.le_of_ble_eq_true rfl⟩ dX5_readNot_3 0 rfl rfl [0] [1] rfl rfl rfl rfl (by decide) rfl (Nat.le_of_ble_eq_true rfl) ?_
  intro v1 w2 h3
  rcases h3 with h3 | h3
  ·
    obtain ⟨rfl, rfl, hf4⟩ := h3
    show X 0 0 [(rta, .inl (cI, 160, .inl tp)), (rd, .inr (4, [.ref rta, .int (nI n), .int rat, .int rtk, .int rpl, .int rva, .int (nI f), .ref rlw]))] [(0, .ref rd), (1, .int w)] 6 [.int 1]
    exact absurd hf4.1 (nI_nm1 (by omega))
  ·
    obtain ⟨rfl, rfl, hf5⟩ := h3
    show X 0 0 [(rta, .inl (cI, 160, .inl tp)), (rd, .inr (4, [.ref rta, .int (nI n), .int rat, .int rtk, .int rpl, .int rva, .int (nI f), .ref rlw]))] [(0, .ref rd), (1, .int w)] 6 [.int 0]
    refine x_if_eq C dX5_readNot_6 (tgt := 34) rfl (fun _ => ?_) (fun q9 => by first | exact absurd q9 (by decide) | exact absurd (by decide) q9)
    refine x_aload_n C dX5_readNot_34 0 rfl ?_
    refine x_iload_n C dX5_readNot_35 1 rfl ?_
    refine x_callV C (As := [.int w]) (st := []) (wc := [(rd, .inr (4, [.ref rta, .int (nI n), .int rat, .int rtk, .int rpl, .int rva, .int (nI f), .ref rlw])), (rta, .inl (cI, 160, .inl tp))]) (wr := []) (c_X5_readSum_f l dG cI cM cW cS adK adV fm rd rta rlw n tp rat rtk rpl rva f w (by omega)) (rZs_ok adK adV fm) (fun _ _ _ h9 => h9) kV_X5_66 ⟨rfl, hy_X5_readSum⟩ ⟨Nat.le_of_ble_eq_true rfl, Nat.le_of_ble_eq_true rfl⟩ ⟨Nat.le_of_ble_eq_true rfl, Nat.le_of_ble_eq_true rfl⟩ dX5_readNot_36 1 rfl rfl [1, 0] [] rfl rfl rfl rfl (by decide) rfl (Nat.le_of_ble_eq_true rfl) ?_
    intro v6 w7 h8
    obtain ⟨rfl, rfl, hf9⟩ := h8
    show X 0 0 [(rd, .inr (4, [.ref rta, .int (nI n), .int rat, .int rtk, .int rpl, .int rva, .int (nI f), .ref rlw])), (rta, .inl (cI, 160, .inl tp))] [(0, .ref rd), (1, .int w)] 39 []
    refine x_aload_n C dX5_readNot_39 0 rfl ?_
    refine x_bipush C dX5_readNot_40 (v := 60) rfl ?_
    refine x_callV C (As := [.int 60]) (st := []) (wc := [(rd, .inr (4, [.ref rta, .int (nI n), .int rat, .int rtk, .int rpl, .int rva, .int (nI f), .ref rlw]))]) (wr := [(rta, .inl (cI, 160, .inl tp))]) (c_X5_has l dG cI cM cW cS rd rta rlw n tp rat rtk rpl rva (nI f) 60 ) rZ0_ok (fun _ _ _ _ => trivial) kV_X5_47 ⟨rfl, hy_X5_has⟩ ⟨Nat.le_of_ble_eq_true rfl, Nat.le_of_ble_eq_true rfl⟩ ⟨Nat.le_of_ble_eq_true rfl, Nat.le_of_ble_eq_true rfl⟩ dX5_readNot_42 0 rfl rfl [0] [1] rfl rfl rfl rfl (by decide) rfl (Nat.le_of_ble_eq_true rfl) ?_
    intro v10 w11 h12
    rcases h12 with h12 | h12
    ·
      obtain ⟨rfl, rfl, hf13⟩ := h12
      show X 0 0 [(rta, .inl (cI, 160, .inl tp)), (rd, .inr (4, [.ref rta, .int (nI n), .int rat, .int rtk, .int rpl, .int rva, .int (nI f), .ref rlw]))] [(0, .ref rd), (1, .int w)] 45 [.int 1]
      exact absurd hf13.1 (nI_nm1 (by omega))
    ·
      obtain ⟨rfl, rfl, hf14⟩ := h12
      show X 0 0 [(rta, .inl (cI, 160, .inl tp)), (rd, .inr (4, [.ref rta, .int (nI n), .int rat, .int rtk, .int rpl, .int rva, .int (nI f), .ref rlw]))] [(0, .ref rd), (1, .int w)] 45 [.int 0]
      refine x_if_ne C dX5_readNot_45 (tgt := 58) rfl (fun q9 => absurd q9 (by decide)) (fun _ => ?_)
      refine x_aload_n C dX5_readNot_48 0 rfl ?_
      refine x_bipush C dX5_readNot_49 (v := 61) rfl ?_
      refine x_callV C (As := [.int 61]) (st := []) (wc := [(rd, .inr (4, [.ref rta, .int (nI n), .int rat, .int rtk, .int rpl, .int rva, .int (nI f), .ref rlw]))]) (wr := [(rta, .inl (cI, 160, .inl tp))]) (c_X5_has l dG cI cM cW cS rd rta rlw n tp rat rtk rpl rva (nI f) 61 ) rZ0_ok (fun _ _ _ _ => trivial) kV_X5_47 ⟨rfl, hy_X5_has⟩ ⟨Nat.le_of_ble_eq_true rfl, Nat.le_of_ble_eq_true rfl⟩ ⟨Nat.le_of_ble_eq_true rfl, Nat.le_of_ble_eq_true rfl⟩ dX5_readNot_51 1 rfl rfl [1] [0] rfl rfl rfl rfl (by decide) rfl (Nat.le_of_ble_eq_true rfl) ?_
      intro v15 w16 h17
      rcases h17 with h17 | h17
      ·
        obtain ⟨rfl, rfl, hf18⟩ := h17
        show X 0 0 [(rta, .inl (cI, 160, .inl tp)), (rd, .inr (4, [.ref rta, .int (nI n), .int rat, .int rtk, .int rpl, .int rva, .int (nI f), .ref rlw]))] [(0, .ref rd), (1, .int w)] 54 [.int 1]
        exact absurd hf18.1 (nI_nm1 (by omega))
      ·
        obtain ⟨rfl, rfl, hf19⟩ := h17
        show X 0 0 [(rta, .inl (cI, 160, .inl tp)), (rd, .inr (4, [.ref rta, .int (nI n), .int rat, .int rtk, .int rpl, .int rva, .int (nI f), .ref rlw]))] [(0, .ref rd), (1, .int w)] 54 [.int 0]
        refine x_if_ne C dX5_readNot_54 (tgt := 58) rfl (fun q9 => absurd q9 (by decide)) (fun _ => ?_)
        refine x_sub C [1, 0] (ws' := [(rd, .inr (4, [.ref rta, .int (nI n), .int rat, .int rtk, .int rpl, .int rva, .int (nI f), .ref rlw])), (rta, .inl (cI, 160, .inl tp))]) rfl rfl ?_
        refine E dX5_readNot_57 ?_
        exact ⟨rfl, rfl, by trivial⟩
theorem kV_X5_60 : GoodIn GW (wsV RX5 60 yX5_readNot.cls yX5_readNot (Cond.code yX5_readNot cX5_readNot 3 none :: GW)) := r_gV gw_9_14 gw_9_15 gw_9_16 gw_2_5 gw_9_17
theorem hy_X5_readNot : yX5_readNot.cls ≠ "java/lang/invoke/MethodHandle" ∧ yX5_readNot.cls ≠ "java/lang/invoke/VarHandle" ∧ (parseMethodDescriptor yX5_readNot.desc).map (fun d => d.parameters.length) = some 1 := ⟨by decide +kernel, by decide +kernel, by decide +kernel⟩
set_option maxHeartbeats 4000000 in
set_option maxRecDepth 100000 in
theorem c_X5_readAnd_f (l : Launch) (dG : va_G) (cI cM cW cS : ClassId) (adK adV : Nat → Nat) (fm : Option Nat) (rd rta rlw n : Nat) (tp : Nat → Int32) (rat rtk rpl rva : Int32) (f : Nat) (w : Int32) (hf : f < 1000) : rM l yX5_readAnd cX5_readAnd 3 none ({ frames := 5, cells := 0, slots := 0, locals := 109 } : Room) dG (tY cI cM cW cS) (rZs adK adV fm) [.ref rd, .int w] [(rd, .inr (4, [.ref rta, .int (nI n), .int rat, .int rtk, .int rpl, .int rva, .int (nI f), .ref rlw])), (rta, .inl (cI, 160, .inl tp))] (fun ov oz => ov = none ∧ oz = [(rd, .inr (4, [.ref rta, .int (nI n), .int rat, .int rtk, .int rpl, .int rva, .int (nI f), .ref rlw])), (rta, .inl (cI, 160, .inl tp))] ∧ True) := by
  refine rM_ofV false (by intro h; cases h) rfl (Nat.le_of_ble_eq_true rfl) rfl (fun X C E => ?_)
  show X 0 0 [(rd, .inr (4, [.ref rta, .int (nI n), .int rat, .int rtk, .int rpl, .int rva, .int (nI f), .ref rlw])), (rta, .inl (cI, 160, .inl tp))] [(0, .ref rd), (1, .int w)] 0 []
  refine x_aload_n C dX5_readAnd_0 0 rfl ?_
  refine x_iload_n C dX5_readAnd_1 1 rfl ?_
  refine x_callV C (As := [.int w]) (st := []) (wc := [(rd, .inr (4, [.ref rta, .int (nI n), .int rat, .int rtk, .int rpl, .int rva, .int (nI f), .ref rlw])), (rta, .inl (cI, 160, .inl tp))]) (wr := []) (c_X5_readNot_f l dG cI cM cW cS adK adV fm rd rta rlw n tp rat rtk rpl rva f w (by omega)) (rZs_ok adK adV fm) (fun _ _ _ h9 => h9) kV_X5_60 ⟨rfl, hy_X5_readNot⟩ ⟨Nat.le_of_ble_eq_true rfl, Nat.le_of_ble_eq_true rfl⟩ ⟨Nat.le_of_ble_eq_true rfl, Nat.le_of_ble_eq_true rfl⟩ dX5_readAnd_2 0 rfl rfl [0, 1] [] rfl rfl rfl rfl (by decide) rfl (Nat.le_of_ble_eq_true rfl) ?_
  intro v1 w2 h3
  obtain ⟨rfl, rfl, hf4⟩ := h3
  show X 0 0 [(rd, .inr (4, [.ref rta, .int (nI n), .int rat, .int rtk, .int rpl, .int rva, .int (nI f), .ref rlw])), (rta, .inl (cI, 160, .inl tp))] [(0, .ref rd), (1, .int w)] 5 []
  refine x_iconst C dX5_readAnd_5 (v := 0) rfl ?_
  refine x_istore_n C dX5_readAnd_6 (by decide) (lv' := [(2, .int 0), (0, .ref rd), (1, .int w)]) rfl ?_
  refine x_iload_n C dX5_readAnd_7 0 rfl ?_
  refine x_sipush C dX5_readAnd_8 (v := 160) rfl ?_
  refine x_icmp_ge C dX5_readAnd_11 (tgt := 47) rfl (fun q9 => absurd q9 (by decide)) (fun _ => ?_)
  refine x_aload_n C dX5_readAnd_14 1 rfl ?_
  refine x_bipush C dX5_readAnd_15 (v := 8) rfl ?_
  show X _ _ _ _ 17 _
  refine x_callV C (As := [.int 8]) (st := []) (wc := [(rd, .inr (4, [.ref rta, .int (nI n), .int rat, .int rtk, .int rpl, .int rva, .int (nI f), .ref rlw]))]) (wr := [(rta, .inl (cI, 160, .inl tp))]) (c_X5_has l dG cI cM cW cS rd rta rlw n tp rat rtk rpl rva (nI f) 8 ) rZ0_ok (fun _ _ _ _ => trivial) kV_X5_47 ⟨rfl, hy_X5_has⟩ ⟨Nat.le_of_ble_eq_true rfl, Nat.le_of_ble_eq_true rfl⟩ ⟨Nat.le_of_ble_eq_true rfl, Nat.le_of_ble_eq_true rfl⟩ dX5_readAnd_17 0 rfl rfl [0] [1] rfl rfl rfl rfl (by decide) rfl (Nat.le_of_ble_eq_true rfl) ?_
  intro v5 w6 h7
  rcases h7 with h7 | h7
  ·
    obtain ⟨rfl, rfl, hf8⟩ := h7
    show X 0 0 [(rta, .inl (cI, 160, .inl tp)), (rd, .inr (4, [.ref rta, .int (nI n), .int rat, .int rtk, .int rpl, .int rva, .int (nI f), .ref rlw]))] [(2, .int 0), (0, .ref rd), (1, .int w)] 20 [.int 1]
    exact absurd hf8.1 (nI_nm1 (by omega))
  ·
    obtain ⟨rfl, rfl, hf9⟩ := h7
    show X 0 0 [(rta, .inl (cI, 160, .inl tp)), (rd, .inr (4, [.ref rta, .int (nI n), .int rat, .int rtk, .int rpl, .int rva, .int (nI f), .ref rlw]))] [(2, .int 0), (0, .ref rd), (1, .int w)] 20 [.int 0]
    refine x_if_eq C dX5_readAnd_20 (tgt := 47) rfl (fun _ => ?_) (fun q9 => by first | exact absurd q9 (by decide) | exact absurd (by decide) q9)
    refine x_sub C [1, 0] (ws' := [(rd, .inr (4, [.ref rta, .int (nI n), .int rat, .int rtk, .int rpl, .int rva, .int (nI f), .ref rlw])), (rta, .inl (cI, 160, .inl tp))]) rfl rfl ?_
    refine E dX5_readAnd_47 ?_
    exact ⟨rfl, rfl, by trivial⟩
theorem kV_X5_54 : GoodIn GW (wsV RX5 54 yX5_readAnd.cls yX5_readAnd (Cond.code yX5_readAnd cX5_readAnd 3 none :: GW)) := r_gV gw_9_6 gw_9_7 gw_9_8 gw_2_5 gw_9_13
theorem hy_X5_readAnd : yX5_readAnd.cls ≠ "java/lang/invoke/MethodHandle" ∧ yX5_readAnd.cls ≠ "java/lang/invoke/VarHandle" ∧ (parseMethodDescriptor yX5_readAnd.desc).map (fun d => d.parameters.length) = some 1 := ⟨by decide +kernel, by decide +kernel, by decide +kernel⟩
set_option maxHeartbeats 4000000 in
set_option maxRecDepth 100000 in
theorem c_X5_readOr_f (l : Launch) (dG : va_G) (cI cM cW cS : ClassId) (adK adV : Nat → Nat) (fm : Option Nat) (rd rta rlw n : Nat) (tp : Nat → Int32) (rat rtk rpl rva : Int32) (f : Nat) (w : Int32) (hf : f < 1000) : rM l yX5_readOr cX5_readOr 3 none ({ frames := 6, cells := 0, slots := 0, locals := 131 } : Room) dG (tY cI cM cW cS) (rZs adK adV fm) [.ref rd, .int w] [(rd, .inr (4, [.ref rta, .int (nI n), .int rat, .int rtk, .int rpl, .int rva, .int (nI f), .ref rlw])), (rta, .inl (cI, 160, .inl tp))] (fun ov oz => ov = none ∧ oz = [(rd, .inr (4, [.ref rta, .int (nI n), .int rat, .int rtk, .int rpl, .int rva, .int (nI f), .ref rlw])), (rta, .inl (cI, 160, .inl tp))] ∧ True) := by
  refine rM_ofV false (by intro h; cases h) rfl (Nat.le_of_ble_eq_true rfl) rfl (fun X C E => ?_)
  show X 0 0 [(rd, .inr (4, [.ref rta, .int (nI n), .int rat, .int rtk, .int rpl, .int rva, .int (nI f), .ref rlw])), (rta, .inl (cI, 160, .inl tp))] [(0, .ref rd), (1, .int w)] 0 []
  refine x_aload_n C dX5_readOr_0 0 rfl ?_
  refine x_iload_n C dX5_readOr_1 1 rfl ?_
  refine x_callV C (As := [.int w]) (st := []) (wc := [(rd, .inr (4, [.ref rta, .int (nI n), .int rat, .int rtk, .int rpl, .int rva, .int (nI f), .ref rlw])), (rta, .inl (cI, 160, .inl tp))]) (wr := []) (c_X5_readAnd_f l dG cI cM cW cS adK adV fm rd rta rlw n tp rat rtk rpl rva f w (by omega)) (rZs_ok adK adV fm) (fun _ _ _ h9 => h9) kV_X5_54 ⟨rfl, hy_X5_readAnd⟩ ⟨Nat.le_of_ble_eq_true rfl, Nat.le_of_ble_eq_true rfl⟩ ⟨Nat.le_of_ble_eq_true rfl, Nat.le_of_ble_eq_true rfl⟩ dX5_readOr_2 0 rfl rfl [0, 1] [] rfl rfl rfl rfl (by decide) rfl (Nat.le_of_ble_eq_true rfl) ?_
  intro v1 w2 h3
  obtain ⟨rfl, rfl, hf4⟩ := h3
  show X 0 0 [(rd, .inr (4, [.ref rta, .int (nI n), .int rat, .int rtk, .int rpl, .int rva, .int (nI f), .ref rlw])), (rta, .inl (cI, 160, .inl tp))] [(0, .ref rd), (1, .int w)] 5 []
  refine x_iconst C dX5_readOr_5 (v := 0) rfl ?_
  refine x_istore_n C dX5_readOr_6 (by decide) (lv' := [(2, .int 0), (0, .ref rd), (1, .int w)]) rfl ?_
  refine x_iload_n C dX5_readOr_7 0 rfl ?_
  refine x_sipush C dX5_readOr_8 (v := 160) rfl ?_
  refine x_icmp_ge C dX5_readOr_11 (tgt := 47) rfl (fun q9 => absurd q9 (by decide)) (fun _ => ?_)
  refine x_aload_n C dX5_readOr_14 1 rfl ?_
  refine x_bipush C dX5_readOr_15 (v := 7) rfl ?_
  show X _ _ _ _ 17 _
  refine x_callV C (As := [.int 7]) (st := []) (wc := [(rd, .inr (4, [.ref rta, .int (nI n), .int rat, .int rtk, .int rpl, .int rva, .int (nI f), .ref rlw]))]) (wr := [(rta, .inl (cI, 160, .inl tp))]) (c_X5_has l dG cI cM cW cS rd rta rlw n tp rat rtk rpl rva (nI f) 7 ) rZ0_ok (fun _ _ _ _ => trivial) kV_X5_47 ⟨rfl, hy_X5_has⟩ ⟨Nat.le_of_ble_eq_true rfl, Nat.le_of_ble_eq_true rfl⟩ ⟨Nat.le_of_ble_eq_true rfl, Nat.le_of_ble_eq_true rfl⟩ dX5_readOr_17 0 rfl rfl [0] [1] rfl rfl rfl rfl (by decide) rfl (Nat.le_of_ble_eq_true rfl) ?_
  intro v5 w6 h7
  rcases h7 with h7 | h7
  ·
    obtain ⟨rfl, rfl, hf8⟩ := h7
    show X 0 0 [(rta, .inl (cI, 160, .inl tp)), (rd, .inr (4, [.ref rta, .int (nI n), .int rat, .int rtk, .int rpl, .int rva, .int (nI f), .ref rlw]))] [(2, .int 0), (0, .ref rd), (1, .int w)] 20 [.int 1]
    exact absurd hf8.1 (nI_nm1 (by omega))
  ·
    obtain ⟨rfl, rfl, hf9⟩ := h7
    show X 0 0 [(rta, .inl (cI, 160, .inl tp)), (rd, .inr (4, [.ref rta, .int (nI n), .int rat, .int rtk, .int rpl, .int rva, .int (nI f), .ref rlw]))] [(2, .int 0), (0, .ref rd), (1, .int w)] 20 [.int 0]
    refine x_if_eq C dX5_readOr_20 (tgt := 47) rfl (fun _ => ?_) (fun q9 => by first | exact absurd q9 (by decide) | exact absurd (by decide) q9)
    refine x_sub C [1, 0] (ws' := [(rd, .inr (4, [.ref rta, .int (nI n), .int rat, .int rtk, .int rpl, .int rva, .int (nI f), .ref rlw])), (rta, .inl (cI, 160, .inl tp))]) rfl rfl ?_
    refine E dX5_readOr_47 ?_
    exact ⟨rfl, rfl, by trivial⟩
theorem kV_X5_34 : GoodIn GW (wsV RX5 34 yX5_advance.cls yX5_advance (Cond.code yX5_advance cX5_advance 1 none :: GW)) := r_gV gw_7_7 gw_7_8 gw_7_9 gw_2_5 gw_7_10
theorem hy_X5_advance : yX5_advance.cls ≠ "java/lang/invoke/MethodHandle" ∧ yX5_advance.cls ≠ "java/lang/invoke/VarHandle" ∧ (parseMethodDescriptor yX5_advance.desc).map (fun d => d.parameters.length) = some 0 := ⟨by decide +kernel, by decide +kernel, by decide +kernel⟩
set_option maxHeartbeats 4000000 in
set_option maxRecDepth 100000 in
theorem c_X5_goesDeeper_0 (l : Launch) (dG : va_G) (cI cM cW cS : ClassId) (adK adV : Nat → Nat) (fm : Option Nat) (rd rta rlw n : Nat) (tp : Nat → Int32) (a : Nat) (v : Int32)  (hn : n ≤ 160) (ha : a ≤ n) : rM l yX5_goesDeeper cX5_goesDeeper 2 (some .boolean) ({ frames := 7, cells := 0, slots := 0, locals := 151 } : Room) dG (tY cI cM cW cS) (rZs adK adV fm) [.ref rd, .int 0] [(rd, .inr (4, [.ref rta, .int (nI n), .int (nI (p_nx tp n a)), .int (p_tk tp n a), .int (nI (p_pl tp n a)), .int v, .int (-1), .ref rlw])), (rta, .inl (cI, 160, .inl tp))] (fun ov oz => ∃ (v' : Int32), ov = some (.int 1) ∧ oz = [(rd, .inr (4, [.ref rta, .int (nI n), .int (nI (p_nx tp n (p_nx tp n a))), .int (p_tk tp n (p_nx tp n a)), .int (nI (p_pl tp n (p_nx tp n a))), .int v', .int (-1), .ref rlw])), (rta, .inl (cI, 160, .inl tp))] ∧ (p_tk tp n (p_nx tp n a) = 2 ∨ p_tk tp n (p_nx tp n a) = 3 → v' = p_vl tp n (p_nx tp n a))) := by
  refine rM_ofI rfl (Nat.le_of_ble_eq_true rfl) rfl (fun X C E => ?_)
  show X 0 0 [(rd, .inr (4, [.ref rta, .int (nI n), .int (nI (p_nx tp n a)), .int (p_tk tp n a), .int (nI (p_pl tp n a)), .int v, .int (-1), .ref rlw])), (rta, .inl (cI, 160, .inl tp))] [(0, .ref rd), (1, .int 0)] 0 []
  refine x_iload_n C dX5_goesDeeper_0 1 rfl ?_
  refine x_iconst C dX5_goesDeeper_1 (v := 5) rfl ?_
  refine x_icmp_lt C dX5_goesDeeper_2 (tgt := 12) rfl (fun _ => ?_) (fun q9 => by first | exact absurd q9 (by decide) | exact absurd (by decide) q9)
  refine x_aload_n C dX5_goesDeeper_12 0 rfl ?_
  have hx1 : p_nx tp n a ≤ n := p_nx_le (by omega)
  refine x_callV C (As := []) (st := []) (wc := [(rd, .inr (4, [.ref rta, .int (nI n), .int (nI (p_nx tp n a)), .int (p_tk tp n a), .int (nI (p_pl tp n a)), .int v, .int (-1), .ref rlw])), (rta, .inl (cI, 160, .inl tp))]) (wr := []) (c_X5_advance l dG cI cM cW cS adK adV fm rd rta rlw n tp (p_nx tp n a) (p_tk tp n a) (nI (p_pl tp n a)) v (-1) (hx1) (by first | assumption | omega | decide)) (rZs_ok adK adV fm) (fun _ _ _ h9 => h9) kV_X5_34 ⟨rfl, hy_X5_advance⟩ ⟨Nat.le_of_ble_eq_true rfl, Nat.le_of_ble_eq_true rfl⟩ ⟨Nat.le_of_ble_eq_true rfl, Nat.le_of_ble_eq_true rfl⟩ dX5_goesDeeper_13 0 rfl rfl [0, 1] [] rfl rfl rfl rfl (by decide) rfl (Nat.le_of_ble_eq_true rfl) ?_
  intro v2 w3 h4
  obtain ⟨_, _, _, v_8, rfl, rfl, ⟨rfl, rfl, rfl, hf10⟩⟩ := h4
  show X 0 0 [(rd, .inr (4, [.ref rta, .int (nI n), .int (nI (p_nx tp n (p_nx tp n a))), .int (p_tk tp n (p_nx tp n a)), .int (nI (p_pl tp n (p_nx tp n a))), .int v_8, .int (-1), .ref rlw])), (rta, .inl (cI, 160, .inl tp))] [(0, .ref rd), (1, .int 0)] 16 []
  refine x_iload_n C dX5_goesDeeper_16 1 rfl ?_
  refine x_iconst C dX5_goesDeeper_17 (v := 5) rfl ?_
  refine x_icmp_ge C dX5_goesDeeper_18 (tgt := 25) rfl (fun q9 => absurd q9 (by decide)) (fun _ => ?_)
  refine x_iconst C dX5_goesDeeper_21 (v := 1) rfl ?_
  refine x_goto C dX5_goesDeeper_22 (tgt := 26) rfl ?_
  show X _ _ _ _ 26 _
  refine E dX5_goesDeeper_26 (rfl) ?_
  exact ⟨v_8, rfl, rfl, hf10⟩
set_option maxHeartbeats 4000000 in
set_option maxRecDepth 100000 in
theorem c_X5_goesDeeper_1 (l : Launch) (dG : va_G) (cI cM cW cS : ClassId) (adK adV : Nat → Nat) (fm : Option Nat) (rd rta rlw n : Nat) (tp : Nat → Int32) (a : Nat) (v : Int32)  (hn : n ≤ 160) (ha : a ≤ n) : rM l yX5_goesDeeper cX5_goesDeeper 2 (some .boolean) ({ frames := 7, cells := 0, slots := 0, locals := 151 } : Room) dG (tY cI cM cW cS) (rZs adK adV fm) [.ref rd, .int 1] [(rd, .inr (4, [.ref rta, .int (nI n), .int (nI (p_nx tp n a)), .int (p_tk tp n a), .int (nI (p_pl tp n a)), .int v, .int (-1), .ref rlw])), (rta, .inl (cI, 160, .inl tp))] (fun ov oz => ∃ (v' : Int32), ov = some (.int 1) ∧ oz = [(rd, .inr (4, [.ref rta, .int (nI n), .int (nI (p_nx tp n (p_nx tp n a))), .int (p_tk tp n (p_nx tp n a)), .int (nI (p_pl tp n (p_nx tp n a))), .int v', .int (-1), .ref rlw])), (rta, .inl (cI, 160, .inl tp))] ∧ (p_tk tp n (p_nx tp n a) = 2 ∨ p_tk tp n (p_nx tp n a) = 3 → v' = p_vl tp n (p_nx tp n a))) := by
  refine rM_ofI rfl (Nat.le_of_ble_eq_true rfl) rfl (fun X C E => ?_)
  show X 0 0 [(rd, .inr (4, [.ref rta, .int (nI n), .int (nI (p_nx tp n a)), .int (p_tk tp n a), .int (nI (p_pl tp n a)), .int v, .int (-1), .ref rlw])), (rta, .inl (cI, 160, .inl tp))] [(0, .ref rd), (1, .int 1)] 0 []
  refine x_iload_n C dX5_goesDeeper_0 1 rfl ?_
  refine x_iconst C dX5_goesDeeper_1 (v := 5) rfl ?_
  refine x_icmp_lt C dX5_goesDeeper_2 (tgt := 12) rfl (fun _ => ?_) (fun q9 => by first | exact absurd q9 (by decide) | exact absurd (by decide) q9)
  refine x_aload_n C dX5_goesDeeper_12 0 rfl ?_
  have hx1 : p_nx tp n a ≤ n := p_nx_le (by omega)
  refine x_callV C (As := []) (st := []) (wc := [(rd, .inr (4, [.ref rta, .int (nI n), .int (nI (p_nx tp n a)), .int (p_tk tp n a), .int (nI (p_pl tp n a)), .int v, .int (-1), .ref rlw])), (rta, .inl (cI, 160, .inl tp))]) (wr := []) (c_X5_advance l dG cI cM cW cS adK adV fm rd rta rlw n tp (p_nx tp n a) (p_tk tp n a) (nI (p_pl tp n a)) v (-1) (hx1) (by first | assumption | omega | decide)) (rZs_ok adK adV fm) (fun _ _ _ h9 => h9) kV_X5_34 ⟨rfl, hy_X5_advance⟩ ⟨Nat.le_of_ble_eq_true rfl, Nat.le_of_ble_eq_true rfl⟩ ⟨Nat.le_of_ble_eq_true rfl, Nat.le_of_ble_eq_true rfl⟩ dX5_goesDeeper_13 0 rfl rfl [0, 1] [] rfl rfl rfl rfl (by decide) rfl (Nat.le_of_ble_eq_true rfl) ?_
  intro v2 w3 h4
  obtain ⟨_, _, _, v_8, rfl, rfl, ⟨rfl, rfl, rfl, hf10⟩⟩ := h4
  show X 0 0 [(rd, .inr (4, [.ref rta, .int (nI n), .int (nI (p_nx tp n (p_nx tp n a))), .int (p_tk tp n (p_nx tp n a)), .int (nI (p_pl tp n (p_nx tp n a))), .int v_8, .int (-1), .ref rlw])), (rta, .inl (cI, 160, .inl tp))] [(0, .ref rd), (1, .int 1)] 16 []
  refine x_iload_n C dX5_goesDeeper_16 1 rfl ?_
  refine x_iconst C dX5_goesDeeper_17 (v := 5) rfl ?_
  refine x_icmp_ge C dX5_goesDeeper_18 (tgt := 25) rfl (fun q9 => absurd q9 (by decide)) (fun _ => ?_)
  refine x_iconst C dX5_goesDeeper_21 (v := 1) rfl ?_
  refine x_goto C dX5_goesDeeper_22 (tgt := 26) rfl ?_
  show X _ _ _ _ 26 _
  refine E dX5_goesDeeper_26 (rfl) ?_
  exact ⟨v_8, rfl, rfl, hf10⟩
set_option maxHeartbeats 4000000 in
set_option maxRecDepth 100000 in
theorem c_X5_goesDeeper_2 (l : Launch) (dG : va_G) (cI cM cW cS : ClassId) (adK adV : Nat → Nat) (fm : Option Nat) (rd rta rlw n : Nat) (tp : Nat → Int32) (a : Nat) (v : Int32)  (hn : n ≤ 160) (ha : a ≤ n) : rM l yX5_goesDeeper cX5_goesDeeper 2 (some .boolean) ({ frames := 7, cells := 0, slots := 0, locals := 151 } : Room) dG (tY cI cM cW cS) (rZs adK adV fm) [.ref rd, .int 2] [(rd, .inr (4, [.ref rta, .int (nI n), .int (nI (p_nx tp n a)), .int (p_tk tp n a), .int (nI (p_pl tp n a)), .int v, .int (-1), .ref rlw])), (rta, .inl (cI, 160, .inl tp))] (fun ov oz => ∃ (v' : Int32), ov = some (.int 1) ∧ oz = [(rd, .inr (4, [.ref rta, .int (nI n), .int (nI (p_nx tp n (p_nx tp n a))), .int (p_tk tp n (p_nx tp n a)), .int (nI (p_pl tp n (p_nx tp n a))), .int v', .int (-1), .ref rlw])), (rta, .inl (cI, 160, .inl tp))] ∧ (p_tk tp n (p_nx tp n a) = 2 ∨ p_tk tp n (p_nx tp n a) = 3 → v' = p_vl tp n (p_nx tp n a))) := by
  refine rM_ofI rfl (Nat.le_of_ble_eq_true rfl) rfl (fun X C E => ?_)
  show X 0 0 [(rd, .inr (4, [.ref rta, .int (nI n), .int (nI (p_nx tp n a)), .int (p_tk tp n a), .int (nI (p_pl tp n a)), .int v, .int (-1), .ref rlw])), (rta, .inl (cI, 160, .inl tp))] [(0, .ref rd), (1, .int 2)] 0 []
  refine x_iload_n C dX5_goesDeeper_0 1 rfl ?_
  refine x_iconst C dX5_goesDeeper_1 (v := 5) rfl ?_
  refine x_icmp_lt C dX5_goesDeeper_2 (tgt := 12) rfl (fun _ => ?_) (fun q9 => by first | exact absurd q9 (by decide) | exact absurd (by decide) q9)
  refine x_aload_n C dX5_goesDeeper_12 0 rfl ?_
  have hx1 : p_nx tp n a ≤ n := p_nx_le (by omega)
  refine x_callV C (As := []) (st := []) (wc := [(rd, .inr (4, [.ref rta, .int (nI n), .int (nI (p_nx tp n a)), .int (p_tk tp n a), .int (nI (p_pl tp n a)), .int v, .int (-1), .ref rlw])), (rta, .inl (cI, 160, .inl tp))]) (wr := []) (c_X5_advance l dG cI cM cW cS adK adV fm rd rta rlw n tp (p_nx tp n a) (p_tk tp n a) (nI (p_pl tp n a)) v (-1) (hx1) (by first | assumption | omega | decide)) (rZs_ok adK adV fm) (fun _ _ _ h9 => h9) kV_X5_34 ⟨rfl, hy_X5_advance⟩ ⟨Nat.le_of_ble_eq_true rfl, Nat.le_of_ble_eq_true rfl⟩ ⟨Nat.le_of_ble_eq_true rfl, Nat.le_of_ble_eq_true rfl⟩ dX5_goesDeeper_13 0 rfl rfl [0, 1] [] rfl rfl rfl rfl (by decide) rfl (Nat.le_of_ble_eq_true rfl) ?_
  intro v2 w3 h4
  obtain ⟨_, _, _, v_8, rfl, rfl, ⟨rfl, rfl, rfl, hf10⟩⟩ := h4
  show X 0 0 [(rd, .inr (4, [.ref rta, .int (nI n), .int (nI (p_nx tp n (p_nx tp n a))), .int (p_tk tp n (p_nx tp n a)), .int (nI (p_pl tp n (p_nx tp n a))), .int v_8, .int (-1), .ref rlw])), (rta, .inl (cI, 160, .inl tp))] [(0, .ref rd), (1, .int 2)] 16 []
  refine x_iload_n C dX5_goesDeeper_16 1 rfl ?_
  refine x_iconst C dX5_goesDeeper_17 (v := 5) rfl ?_
  refine x_icmp_ge C dX5_goesDeeper_18 (tgt := 25) rfl (fun q9 => absurd q9 (by decide)) (fun _ => ?_)
  refine x_iconst C dX5_goesDeeper_21 (v := 1) rfl ?_
  refine x_goto C dX5_goesDeeper_22 (tgt := 26) rfl ?_
  show X _ _ _ _ 26 _
  refine E dX5_goesDeeper_26 (rfl) ?_
  exact ⟨v_8, rfl, rfl, hf10⟩
set_option maxHeartbeats 4000000 in
set_option maxRecDepth 100000 in
theorem c_X5_goesDeeper_3 (l : Launch) (dG : va_G) (cI cM cW cS : ClassId) (adK adV : Nat → Nat) (fm : Option Nat) (rd rta rlw n : Nat) (tp : Nat → Int32) (a : Nat) (v : Int32)  (hn : n ≤ 160) (ha : a ≤ n) : rM l yX5_goesDeeper cX5_goesDeeper 2 (some .boolean) ({ frames := 7, cells := 0, slots := 0, locals := 151 } : Room) dG (tY cI cM cW cS) (rZs adK adV fm) [.ref rd, .int 3] [(rd, .inr (4, [.ref rta, .int (nI n), .int (nI (p_nx tp n a)), .int (p_tk tp n a), .int (nI (p_pl tp n a)), .int v, .int (-1), .ref rlw])), (rta, .inl (cI, 160, .inl tp))] (fun ov oz => ∃ (v' : Int32), ov = some (.int 1) ∧ oz = [(rd, .inr (4, [.ref rta, .int (nI n), .int (nI (p_nx tp n (p_nx tp n a))), .int (p_tk tp n (p_nx tp n a)), .int (nI (p_pl tp n (p_nx tp n a))), .int v', .int (-1), .ref rlw])), (rta, .inl (cI, 160, .inl tp))] ∧ (p_tk tp n (p_nx tp n a) = 2 ∨ p_tk tp n (p_nx tp n a) = 3 → v' = p_vl tp n (p_nx tp n a))) := by
  refine rM_ofI rfl (Nat.le_of_ble_eq_true rfl) rfl (fun X C E => ?_)
  show X 0 0 [(rd, .inr (4, [.ref rta, .int (nI n), .int (nI (p_nx tp n a)), .int (p_tk tp n a), .int (nI (p_pl tp n a)), .int v, .int (-1), .ref rlw])), (rta, .inl (cI, 160, .inl tp))] [(0, .ref rd), (1, .int 3)] 0 []
  refine x_iload_n C dX5_goesDeeper_0 1 rfl ?_
  refine x_iconst C dX5_goesDeeper_1 (v := 5) rfl ?_
  refine x_icmp_lt C dX5_goesDeeper_2 (tgt := 12) rfl (fun _ => ?_) (fun q9 => by first | exact absurd q9 (by decide) | exact absurd (by decide) q9)
  refine x_aload_n C dX5_goesDeeper_12 0 rfl ?_
  have hx1 : p_nx tp n a ≤ n := p_nx_le (by omega)
  refine x_callV C (As := []) (st := []) (wc := [(rd, .inr (4, [.ref rta, .int (nI n), .int (nI (p_nx tp n a)), .int (p_tk tp n a), .int (nI (p_pl tp n a)), .int v, .int (-1), .ref rlw])), (rta, .inl (cI, 160, .inl tp))]) (wr := []) (c_X5_advance l dG cI cM cW cS adK adV fm rd rta rlw n tp (p_nx tp n a) (p_tk tp n a) (nI (p_pl tp n a)) v (-1) (hx1) (by first | assumption | omega | decide)) (rZs_ok adK adV fm) (fun _ _ _ h9 => h9) kV_X5_34 ⟨rfl, hy_X5_advance⟩ ⟨Nat.le_of_ble_eq_true rfl, Nat.le_of_ble_eq_true rfl⟩ ⟨Nat.le_of_ble_eq_true rfl, Nat.le_of_ble_eq_true rfl⟩ dX5_goesDeeper_13 0 rfl rfl [0, 1] [] rfl rfl rfl rfl (by decide) rfl (Nat.le_of_ble_eq_true rfl) ?_
  intro v2 w3 h4
  obtain ⟨_, _, _, v_8, rfl, rfl, ⟨rfl, rfl, rfl, hf10⟩⟩ := h4
  show X 0 0 [(rd, .inr (4, [.ref rta, .int (nI n), .int (nI (p_nx tp n (p_nx tp n a))), .int (p_tk tp n (p_nx tp n a)), .int (nI (p_pl tp n (p_nx tp n a))), .int v_8, .int (-1), .ref rlw])), (rta, .inl (cI, 160, .inl tp))] [(0, .ref rd), (1, .int 3)] 16 []
  refine x_iload_n C dX5_goesDeeper_16 1 rfl ?_
  refine x_iconst C dX5_goesDeeper_17 (v := 5) rfl ?_
  refine x_icmp_ge C dX5_goesDeeper_18 (tgt := 25) rfl (fun q9 => absurd q9 (by decide)) (fun _ => ?_)
  refine x_iconst C dX5_goesDeeper_21 (v := 1) rfl ?_
  refine x_goto C dX5_goesDeeper_22 (tgt := 26) rfl ?_
  show X _ _ _ _ 26 _
  refine E dX5_goesDeeper_26 (rfl) ?_
  exact ⟨v_8, rfl, rfl, hf10⟩
set_option maxHeartbeats 4000000 in
set_option maxRecDepth 100000 in
theorem c_X5_goesDeeper_4 (l : Launch) (dG : va_G) (cI cM cW cS : ClassId) (adK adV : Nat → Nat) (fm : Option Nat) (rd rta rlw n : Nat) (tp : Nat → Int32) (a : Nat) (v : Int32)  (hn : n ≤ 160) (ha : a ≤ n) : rM l yX5_goesDeeper cX5_goesDeeper 2 (some .boolean) ({ frames := 7, cells := 0, slots := 0, locals := 151 } : Room) dG (tY cI cM cW cS) (rZs adK adV fm) [.ref rd, .int 4] [(rd, .inr (4, [.ref rta, .int (nI n), .int (nI (p_nx tp n a)), .int (p_tk tp n a), .int (nI (p_pl tp n a)), .int v, .int (-1), .ref rlw])), (rta, .inl (cI, 160, .inl tp))] (fun ov oz => ∃ (v' : Int32), ov = some (.int 1) ∧ oz = [(rd, .inr (4, [.ref rta, .int (nI n), .int (nI (p_nx tp n (p_nx tp n a))), .int (p_tk tp n (p_nx tp n a)), .int (nI (p_pl tp n (p_nx tp n a))), .int v', .int (-1), .ref rlw])), (rta, .inl (cI, 160, .inl tp))] ∧ (p_tk tp n (p_nx tp n a) = 2 ∨ p_tk tp n (p_nx tp n a) = 3 → v' = p_vl tp n (p_nx tp n a))) := by
  refine rM_ofI rfl (Nat.le_of_ble_eq_true rfl) rfl (fun X C E => ?_)
  show X 0 0 [(rd, .inr (4, [.ref rta, .int (nI n), .int (nI (p_nx tp n a)), .int (p_tk tp n a), .int (nI (p_pl tp n a)), .int v, .int (-1), .ref rlw])), (rta, .inl (cI, 160, .inl tp))] [(0, .ref rd), (1, .int 4)] 0 []
  refine x_iload_n C dX5_goesDeeper_0 1 rfl ?_
  refine x_iconst C dX5_goesDeeper_1 (v := 5) rfl ?_
  refine x_icmp_lt C dX5_goesDeeper_2 (tgt := 12) rfl (fun _ => ?_) (fun q9 => by first | exact absurd q9 (by decide) | exact absurd (by decide) q9)
  refine x_aload_n C dX5_goesDeeper_12 0 rfl ?_
  have hx1 : p_nx tp n a ≤ n := p_nx_le (by omega)
  refine x_callV C (As := []) (st := []) (wc := [(rd, .inr (4, [.ref rta, .int (nI n), .int (nI (p_nx tp n a)), .int (p_tk tp n a), .int (nI (p_pl tp n a)), .int v, .int (-1), .ref rlw])), (rta, .inl (cI, 160, .inl tp))]) (wr := []) (c_X5_advance l dG cI cM cW cS adK adV fm rd rta rlw n tp (p_nx tp n a) (p_tk tp n a) (nI (p_pl tp n a)) v (-1) (hx1) (by first | assumption | omega | decide)) (rZs_ok adK adV fm) (fun _ _ _ h9 => h9) kV_X5_34 ⟨rfl, hy_X5_advance⟩ ⟨Nat.le_of_ble_eq_true rfl, Nat.le_of_ble_eq_true rfl⟩ ⟨Nat.le_of_ble_eq_true rfl, Nat.le_of_ble_eq_true rfl⟩ dX5_goesDeeper_13 0 rfl rfl [0, 1] [] rfl rfl rfl rfl (by decide) rfl (Nat.le_of_ble_eq_true rfl) ?_
  intro v2 w3 h4
  obtain ⟨_, _, _, v_8, rfl, rfl, ⟨rfl, rfl, rfl, hf10⟩⟩ := h4
  show X 0 0 [(rd, .inr (4, [.ref rta, .int (nI n), .int (nI (p_nx tp n (p_nx tp n a))), .int (p_tk tp n (p_nx tp n a)), .int (nI (p_pl tp n (p_nx tp n a))), .int v_8, .int (-1), .ref rlw])), (rta, .inl (cI, 160, .inl tp))] [(0, .ref rd), (1, .int 4)] 16 []
  refine x_iload_n C dX5_goesDeeper_16 1 rfl ?_
  refine x_iconst C dX5_goesDeeper_17 (v := 5) rfl ?_
  refine x_icmp_ge C dX5_goesDeeper_18 (tgt := 25) rfl (fun q9 => absurd q9 (by decide)) (fun _ => ?_)
  refine x_iconst C dX5_goesDeeper_21 (v := 1) rfl ?_
  refine x_goto C dX5_goesDeeper_22 (tgt := 26) rfl ?_
  show X _ _ _ _ 26 _
  refine E dX5_goesDeeper_26 (rfl) ?_
  exact ⟨v_8, rfl, rfl, hf10⟩
set_option maxHeartbeats 4000000 in
set_option maxRecDepth 100000 in
theorem c_X5_goesDeeper_5 (l : Launch) (dG : va_G) (cI cM cW cS : ClassId) (adK adV : Nat → Nat) (fm : Option Nat) (rd rta rlw n : Nat) (tp : Nat → Int32) (a : Nat) (v : Int32)  (hn : n ≤ 160) (ha : a ≤ n) : rM l yX5_goesDeeper cX5_goesDeeper 2 (some .boolean) ({ frames := 1, cells := 0, slots := 0, locals := 20 } : Room) dG (tY cI cM cW cS) (rZs adK adV fm) [.ref rd, .int 5] [(rd, .inr (4, [.ref rta, .int (nI n), .int (nI (p_nx tp n a)), .int (p_tk tp n a), .int (nI (p_pl tp n a)), .int v, .int (-1), .ref rlw])), (rta, .inl (cI, 160, .inl tp))] (fun ov oz => ov = some (.int 0) ∧ oz = [(rd, .inr (4, [.ref rta, .int (nI n), .int (nI (p_nx tp n a)), .int (p_tk tp n a), .int (nI (p_pl tp n a)), .int v, .int (nI (p_pl tp n a)), .ref rlw])), (rta, .inl (cI, 160, .inl tp))] ∧ True) := by
  refine rM_ofI rfl (Nat.le_of_ble_eq_true rfl) rfl (fun X C E => ?_)
  show X 0 0 [(rd, .inr (4, [.ref rta, .int (nI n), .int (nI (p_nx tp n a)), .int (p_tk tp n a), .int (nI (p_pl tp n a)), .int v, .int (-1), .ref rlw])), (rta, .inl (cI, 160, .inl tp))] [(0, .ref rd), (1, .int 5)] 0 []
  refine x_iload_n C dX5_goesDeeper_0 1 rfl ?_
  refine x_iconst C dX5_goesDeeper_1 (v := 5) rfl ?_
  refine x_icmp_lt C dX5_goesDeeper_2 (tgt := 12) rfl (fun q9 => absurd q9 (by decide)) (fun _ => ?_)
  refine x_aload_n C dX5_goesDeeper_5 0 rfl ?_
  refine x_callV C (As := []) (st := []) (wc := [(rd, .inr (4, [.ref rta, .int (nI n), .int (nI (p_nx tp n a)), .int (p_tk tp n a), .int (nI (p_pl tp n a)), .int v, .int (-1), .ref rlw]))]) (wr := [(rta, .inl (cI, 160, .inl tp))]) (c_X5_faultHere l dG cI cM cW cS rd rta rlw n tp (nI (p_nx tp n a)) (p_tk tp n a) (nI (p_pl tp n a)) v ) rZ0_ok (fun _ _ _ _ => trivial) kV_X5_51 ⟨rfl, hy_X5_faultHere⟩ ⟨Nat.le_of_ble_eq_true rfl, Nat.le_of_ble_eq_true rfl⟩ ⟨Nat.le_of_ble_eq_true rfl, Nat.le_of_ble_eq_true rfl⟩ dX5_goesDeeper_6 0 rfl rfl [0] [1] rfl rfl rfl rfl (by decide) rfl (Nat.le_of_ble_eq_true rfl) ?_
  intro v1 w2 h3
  obtain ⟨rfl, rfl, hf4⟩ := h3
  show X 0 0 [(rta, .inl (cI, 160, .inl tp)), (rd, .inr (4, [.ref rta, .int (nI n), .int (nI (p_nx tp n a)), .int (p_tk tp n a), .int (nI (p_pl tp n a)), .int v, .int (nI (p_pl tp n a)), .ref rlw]))] [(0, .ref rd), (1, .int 5)] 9 []
  refine x_goto C dX5_goesDeeper_9 (tgt := 16) rfl ?_
  refine x_iload_n C dX5_goesDeeper_16 1 rfl ?_
  refine x_iconst C dX5_goesDeeper_17 (v := 5) rfl ?_
  refine x_icmp_ge C dX5_goesDeeper_18 (tgt := 25) rfl (fun _ => ?_) (fun q9 => by first | exact absurd q9 (by decide) | exact absurd (by decide) q9)
  refine x_iconst C dX5_goesDeeper_25 (v := 0) rfl ?_
  show X _ _ _ _ 26 _
  refine x_sub C [1, 0] (ws' := [(rd, .inr (4, [.ref rta, .int (nI n), .int (nI (p_nx tp n a)), .int (p_tk tp n a), .int (nI (p_pl tp n a)), .int v, .int (nI (p_pl tp n a)), .ref rlw])), (rta, .inl (cI, 160, .inl tp))]) rfl rfl ?_
  refine E dX5_goesDeeper_26 (rfl) ?_
  exact ⟨rfl, rfl, by trivial⟩
set_option maxHeartbeats 4000000 in
set_option maxRecDepth 100000 in
theorem c_X5_expect (l : Launch) (dG : va_G) (cI cM cW cS : ClassId) (adK adV : Nat → Nat) (fm : Option Nat) (rd rta rlw n : Nat) (tp : Nat → Int32) (a : Nat) (v : Int32) (w : Int32) (hn : n ≤ 160) (ha : a ≤ n) : rM l yX5_expect cX5_expect 2 none ({ frames := 7, cells := 0, slots := 0, locals := 151 } : Room) dG (tY cI cM cW cS) (rZs adK adV fm) [.ref rd, .int w] [(rd, .inr (4, [.ref rta, .int (nI n), .int (nI (p_nx tp n a)), .int (p_tk tp n a), .int (nI (p_pl tp n a)), .int v, .int (-1), .ref rlw])), (rta, .inl (cI, 160, .inl tp))] (fun ov oz => (∃ (v' : Int32), ov = none ∧ oz = [(rd, .inr (4, [.ref rta, .int (nI n), .int (nI (p_nx tp n (p_nx tp n a))), .int (p_tk tp n (p_nx tp n a)), .int (nI (p_pl tp n (p_nx tp n a))), .int v', .int (-1), .ref rlw])), (rta, .inl (cI, 160, .inl tp))] ∧ p_tk tp n a = w ∧ (p_tk tp n (p_nx tp n a) = 2 ∨ p_tk tp n (p_nx tp n a) = 3 → v' = p_vl tp n (p_nx tp n a))) ∨ (ov = none ∧ oz = [(rd, .inr (4, [.ref rta, .int (nI n), .int (nI (p_nx tp n a)), .int (p_tk tp n a), .int (nI (p_pl tp n a)), .int v, .int (nI (p_pl tp n a)), .ref rlw])), (rta, .inl (cI, 160, .inl tp))] ∧ ¬ p_tk tp n a = w)) := by
  refine rM_ofV false (by intro h; cases h) rfl (Nat.le_of_ble_eq_true rfl) rfl (fun X C E => ?_)
  show X 0 0 [(rd, .inr (4, [.ref rta, .int (nI n), .int (nI (p_nx tp n a)), .int (p_tk tp n a), .int (nI (p_pl tp n a)), .int v, .int (-1), .ref rlw])), (rta, .inl (cI, 160, .inl tp))] [(0, .ref rd), (1, .int w)] 0 []
  refine x_aload_n C dX5_expect_0 0 rfl ?_
  refine x_iload_n C dX5_expect_1 1 rfl ?_
  refine x_callV C (As := [.int w]) (st := []) (wc := [(rd, .inr (4, [.ref rta, .int (nI n), .int (nI (p_nx tp n a)), .int (p_tk tp n a), .int (nI (p_pl tp n a)), .int v, .int (-1), .ref rlw]))]) (wr := [(rta, .inl (cI, 160, .inl tp))]) (c_X5_has l dG cI cM cW cS rd rta rlw n tp (nI (p_nx tp n a)) (p_tk tp n a) (nI (p_pl tp n a)) v (-1) w ) rZ0_ok (fun _ _ _ _ => trivial) kV_X5_47 ⟨rfl, hy_X5_has⟩ ⟨Nat.le_of_ble_eq_true rfl, Nat.le_of_ble_eq_true rfl⟩ ⟨Nat.le_of_ble_eq_true rfl, Nat.le_of_ble_eq_true rfl⟩ dX5_expect_2 0 rfl rfl [0] [1] rfl rfl rfl rfl (by decide) rfl (Nat.le_of_ble_eq_true rfl) ?_
  intro v1 w2 h3
  rcases h3 with h3 | h3
  ·
    obtain ⟨rfl, rfl, hf4⟩ := h3
    show X 0 0 [(rta, .inl (cI, 160, .inl tp)), (rd, .inr (4, [.ref rta, .int (nI n), .int (nI (p_nx tp n a)), .int (p_tk tp n a), .int (nI (p_pl tp n a)), .int v, .int (-1), .ref rlw]))] [(0, .ref rd), (1, .int w)] 5 [.int 1]
    have hE := hf4
    refine x_if_eq C dX5_expect_5 (tgt := 15) rfl (fun q9 => absurd q9 (by decide)) (fun _ => ?_)
    refine x_aload_n C dX5_expect_8 0 rfl ?_
    have hx5 : p_nx tp n a ≤ n := p_nx_le (by omega)
    refine x_callV C (As := []) (st := []) (wc := [(rd, .inr (4, [.ref rta, .int (nI n), .int (nI (p_nx tp n a)), .int (p_tk tp n a), .int (nI (p_pl tp n a)), .int v, .int (-1), .ref rlw])), (rta, .inl (cI, 160, .inl tp))]) (wr := []) (c_X5_advance l dG cI cM cW cS adK adV fm rd rta rlw n tp (p_nx tp n a) (p_tk tp n a) (nI (p_pl tp n a)) v (-1) (hx5) (by first | assumption | omega | decide)) (rZs_ok adK adV fm) (fun _ _ _ h9 => h9) kV_X5_34 ⟨rfl, hy_X5_advance⟩ ⟨Nat.le_of_ble_eq_true rfl, Nat.le_of_ble_eq_true rfl⟩ ⟨Nat.le_of_ble_eq_true rfl, Nat.le_of_ble_eq_true rfl⟩ dX5_expect_9 1 rfl rfl [1, 0] [] rfl rfl rfl rfl (by decide) rfl (Nat.le_of_ble_eq_true rfl) ?_
    intro v6 w7 h8
    obtain ⟨_, _, _, v_12, rfl, rfl, ⟨rfl, rfl, rfl, hf14⟩⟩ := h8
    show X 0 0 [(rd, .inr (4, [.ref rta, .int (nI n), .int (nI (p_nx tp n (p_nx tp n a))), .int (p_tk tp n (p_nx tp n a)), .int (nI (p_pl tp n (p_nx tp n a))), .int v_12, .int (-1), .ref rlw])), (rta, .inl (cI, 160, .inl tp))] [(0, .ref rd), (1, .int w)] 12 []
    refine x_goto C dX5_expect_12 (tgt := 19) rfl ?_
    refine E dX5_expect_19 ?_
    exact Or.inl ⟨v_12, rfl, rfl, ⟨hE.2, hf14⟩⟩
  ·
    obtain ⟨rfl, rfl, hf15⟩ := h3
    show X 0 0 [(rta, .inl (cI, 160, .inl tp)), (rd, .inr (4, [.ref rta, .int (nI n), .int (nI (p_nx tp n a)), .int (p_tk tp n a), .int (nI (p_pl tp n a)), .int v, .int (-1), .ref rlw]))] [(0, .ref rd), (1, .int w)] 5 [.int 0]
    have hE := hf15
    refine x_if_eq C dX5_expect_5 (tgt := 15) rfl (fun _ => ?_) (fun q9 => by first | exact absurd q9 (by decide) | exact absurd (by decide) q9)
    refine x_aload_n C dX5_expect_15 0 rfl ?_
    refine x_callV C (As := []) (st := []) (wc := [(rd, .inr (4, [.ref rta, .int (nI n), .int (nI (p_nx tp n a)), .int (p_tk tp n a), .int (nI (p_pl tp n a)), .int v, .int (-1), .ref rlw]))]) (wr := [(rta, .inl (cI, 160, .inl tp))]) (c_X5_faultHere l dG cI cM cW cS rd rta rlw n tp (nI (p_nx tp n a)) (p_tk tp n a) (nI (p_pl tp n a)) v ) rZ0_ok (fun _ _ _ _ => trivial) kV_X5_51 ⟨rfl, hy_X5_faultHere⟩ ⟨Nat.le_of_ble_eq_true rfl, Nat.le_of_ble_eq_true rfl⟩ ⟨Nat.le_of_ble_eq_true rfl, Nat.le_of_ble_eq_true rfl⟩ dX5_expect_16 1 rfl rfl [1] [0] rfl rfl rfl rfl (by decide) rfl (Nat.le_of_ble_eq_true rfl) ?_
    intro v16 w17 h18
    obtain ⟨rfl, rfl, hf19⟩ := h18
    show X 0 0 [(rta, .inl (cI, 160, .inl tp)), (rd, .inr (4, [.ref rta, .int (nI n), .int (nI (p_nx tp n a)), .int (p_tk tp n a), .int (nI (p_pl tp n a)), .int v, .int (nI (p_pl tp n a)), .ref rlw]))] [(0, .ref rd), (1, .int w)] 19 []
    refine x_sub C [1, 0] (ws' := [(rd, .inr (4, [.ref rta, .int (nI n), .int (nI (p_nx tp n a)), .int (p_tk tp n a), .int (nI (p_pl tp n a)), .int v, .int (nI (p_pl tp n a)), .ref rlw])), (rta, .inl (cI, 160, .inl tp))]) rfl rfl ?_
    refine E dX5_expect_19 ?_
    exact Or.inr (⟨rfl, rfl, fun h9 => hE ⟨rfl, h9⟩⟩)
set_option maxHeartbeats 4000000 in
set_option maxRecDepth 100000 in
theorem c_X5_expect_f (l : Launch) (dG : va_G) (cI cM cW cS : ClassId) (adK adV : Nat → Nat) (fm : Option Nat) (rd rta rlw n : Nat) (tp : Nat → Int32) (rat rtk rpl rva : Int32) (f : Nat) (w : Int32) (hf : f < 1000) : rM l yX5_expect cX5_expect 2 none ({ frames := 1, cells := 0, slots := 0, locals := 21 } : Room) dG (tY cI cM cW cS) (rZs adK adV fm) [.ref rd, .int w] [(rd, .inr (4, [.ref rta, .int (nI n), .int rat, .int rtk, .int rpl, .int rva, .int (nI f), .ref rlw])), (rta, .inl (cI, 160, .inl tp))] (fun ov oz => ov = none ∧ oz = [(rd, .inr (4, [.ref rta, .int (nI n), .int rat, .int rtk, .int rpl, .int rva, .int (nI f), .ref rlw])), (rta, .inl (cI, 160, .inl tp))] ∧ True) := by
  refine rM_ofV false (by intro h; cases h) rfl (Nat.le_of_ble_eq_true rfl) rfl (fun X C E => ?_)
  show X 0 0 [(rd, .inr (4, [.ref rta, .int (nI n), .int rat, .int rtk, .int rpl, .int rva, .int (nI f), .ref rlw])), (rta, .inl (cI, 160, .inl tp))] [(0, .ref rd), (1, .int w)] 0 []
  refine x_aload_n C dX5_expect_0 0 rfl ?_
  refine x_iload_n C dX5_expect_1 1 rfl ?_
  refine x_callV C (As := [.int w]) (st := []) (wc := [(rd, .inr (4, [.ref rta, .int (nI n), .int rat, .int rtk, .int rpl, .int rva, .int (nI f), .ref rlw]))]) (wr := [(rta, .inl (cI, 160, .inl tp))]) (c_X5_has l dG cI cM cW cS rd rta rlw n tp rat rtk rpl rva (nI f) w ) rZ0_ok (fun _ _ _ _ => trivial) kV_X5_47 ⟨rfl, hy_X5_has⟩ ⟨Nat.le_of_ble_eq_true rfl, Nat.le_of_ble_eq_true rfl⟩ ⟨Nat.le_of_ble_eq_true rfl, Nat.le_of_ble_eq_true rfl⟩ dX5_expect_2 0 rfl rfl [0] [1] rfl rfl rfl rfl (by decide) rfl (Nat.le_of_ble_eq_true rfl) ?_
  intro v1 w2 h3
  rcases h3 with h3 | h3
  ·
    obtain ⟨rfl, rfl, hf4⟩ := h3
    show X 0 0 [(rta, .inl (cI, 160, .inl tp)), (rd, .inr (4, [.ref rta, .int (nI n), .int rat, .int rtk, .int rpl, .int rva, .int (nI f), .ref rlw]))] [(0, .ref rd), (1, .int w)] 5 [.int 1]
    exact absurd hf4.1 (nI_nm1 (by omega))
  ·
    obtain ⟨rfl, rfl, hf5⟩ := h3
    show X 0 0 [(rta, .inl (cI, 160, .inl tp)), (rd, .inr (4, [.ref rta, .int (nI n), .int rat, .int rtk, .int rpl, .int rva, .int (nI f), .ref rlw]))] [(0, .ref rd), (1, .int w)] 5 [.int 0]
    refine x_if_eq C dX5_expect_5 (tgt := 15) rfl (fun _ => ?_) (fun q9 => by first | exact absurd q9 (by decide) | exact absurd (by decide) q9)
    refine x_aload_n C dX5_expect_15 0 rfl ?_
    refine x_callV C (As := []) (st := []) (wc := [(rd, .inr (4, [.ref rta, .int (nI n), .int rat, .int rtk, .int rpl, .int rva, .int (nI f), .ref rlw]))]) (wr := [(rta, .inl (cI, 160, .inl tp))]) (c_X5_faultHere_f l dG cI cM cW cS rd rta rlw n tp rat rtk rpl rva f (by first | assumption | omega | decide)) rZ0_ok (fun _ _ _ _ => trivial) kV_X5_51 ⟨rfl, hy_X5_faultHere⟩ ⟨Nat.le_of_ble_eq_true rfl, Nat.le_of_ble_eq_true rfl⟩ ⟨Nat.le_of_ble_eq_true rfl, Nat.le_of_ble_eq_true rfl⟩ dX5_expect_16 1 rfl rfl [1] [0] rfl rfl rfl rfl (by decide) rfl (Nat.le_of_ble_eq_true rfl) ?_
    intro v6 w7 h8
    obtain ⟨rfl, rfl, hf9⟩ := h8
    show X 0 0 [(rta, .inl (cI, 160, .inl tp)), (rd, .inr (4, [.ref rta, .int (nI n), .int rat, .int rtk, .int rpl, .int rva, .int (nI f), .ref rlw]))] [(0, .ref rd), (1, .int w)] 19 []
    refine x_sub C [1, 0] (ws' := [(rd, .inr (4, [.ref rta, .int (nI n), .int rat, .int rtk, .int rpl, .int rva, .int (nI f), .ref rlw])), (rta, .inl (cI, 160, .inl tp))]) rfl rfl ?_
    refine E dX5_expect_19 ?_
    exact ⟨rfl, rfl, by trivial⟩
