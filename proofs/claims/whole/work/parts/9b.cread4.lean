set_option maxHeartbeats 4000000 in
set_option maxRecDepth 100000 in
theorem c_X5_readOne_4 (l : Launch) (dG : va_G) (cI cM cW cS : ClassId) (adK adV : Nat → Nat) (fm : Option Nat) (rd rta rlw n : Nat) (tp : Nat → Int32) (a : Nat) (v : Int32) (lc lsk len9 : Nat) (z : Nat) (cd : Nat → Int32) (ok : Bool) (a9 : Nat) (c : List Int32) (hn : n ≤ 160) (ha : a ≤ n) (hz : z ≤ a) (hv : (p_tk tp n a = 2 ∨ p_tk tp n a = 3 → v = p_vl tp n a)) (hr : p_One tp n 4 a = (ok, a9, c)) : rM l yX5_readOne cX5_readOne 2 none ({ frames := 31, cells := 0, slots := 0, locals := 679 } : Room) dG (tY cI cM cW cS) (rZs adK adV fm) [.ref rd, .int 1] [(rd, .inr (4, [.ref rta, .int (nI n), .int (nI (p_nx tp n a)), .int (p_tk tp n a), .int (nI (p_pl tp n a)), .int v, .int (-1), .ref rlw])), (rta, .inl (cI, 160, .inl tp)), (rlw, .inr (2, [.ref lc, .ref lsk, .ref len9, .int (nI z)])), (lc, .inl (cI, 160, .inl cd))] (fun ov oz => (∃ (a' : Nat) (z' : Nat) (v' : Int32) (cd' : Nat → Int32), ov = none ∧ oz = [(rd, .inr (4, [.ref rta, .int (nI n), .int (nI (p_nx tp n a')), .int (p_tk tp n a'), .int (nI (p_pl tp n a')), .int v', .int (-1), .ref rlw])), (rta, .inl (cI, 160, .inl tp)), (rlw, .inr (2, [.ref lc, .ref lsk, .ref len9, .int (nI z')])), (lc, .inl (cI, 160, .inl cd'))] ∧ a9 = a' ∧ z' = z + c.length ∧ ok = true ∧ (p_tk tp n a' = 2 ∨ p_tk tp n a' = 3 → v' = p_vl tp n a') ∧ (∀ j, cd' j = p_app cd z c j)) ∨ (∃ (rat' : Int32) (rtk' : Int32) (rpl' : Int32) (rva' : Int32) (f' : Nat) (z' : Nat) (cd' : Nat → Int32), ov = none ∧ oz = [(rd, .inr (4, [.ref rta, .int (nI n), .int rat', .int rtk', .int rpl', .int rva', .int (nI f'), .ref rlw])), (rta, .inl (cI, 160, .inl tp)), (rlw, .inr (2, [.ref lc, .ref lsk, .ref len9, .int (nI z')])), (lc, .inl (cI, 160, .inl cd'))] ∧ f' = p_pl tp n a9 ∧ ok = false ∧ z' ≤ 160 ∧ f' ≤ 160)) := by
  refine rM_ofV false (by intro h; cases h) rfl (Nat.le_of_ble_eq_true rfl) rfl (fun X C E => ?_)
  show X 0 0 [(rd, .inr (4, [.ref rta, .int (nI n), .int (nI (p_nx tp n a)), .int (p_tk tp n a), .int (nI (p_pl tp n a)), .int v, .int (-1), .ref rlw])), (rta, .inl (cI, 160, .inl tp)), (rlw, .inr (2, [.ref lc, .ref lsk, .ref len9, .int (nI z)])), (lc, .inl (cI, 160, .inl cd))] [(0, .ref rd), (1, .int 1)] 0 []
  have hpl0 := p_pl_le (tp := tp) ha
  have hpl1 := p_pl_ge (tp := tp) (n := n) (a := a)
  refine x_aload_n C dX5_readOne_0 0 rfl ?_
  refine x_iconst C dX5_readOne_1 (v := 2) rfl ?_
  refine x_callV C (As := [.int 2]) (st := []) (wc := [(rd, .inr (4, [.ref rta, .int (nI n), .int (nI (p_nx tp n a)), .int (p_tk tp n a), .int (nI (p_pl tp n a)), .int v, .int (-1), .ref rlw]))]) (wr := [(rta, .inl (cI, 160, .inl tp)), (rlw, .inr (2, [.ref lc, .ref lsk, .ref len9, .int (nI z)])), (lc, .inl (cI, 160, .inl cd))]) (c_X5_has l dG cI cM cW cS rd rta rlw n tp (nI (p_nx tp n a)) (p_tk tp n a) (nI (p_pl tp n a)) v (-1) 2 ) rZ0_ok (fun _ _ _ _ => trivial) kV_X5_47 ⟨rfl, hy_X5_has⟩ ⟨Nat.le_of_ble_eq_true rfl, Nat.le_of_ble_eq_true rfl⟩ ⟨Nat.le_of_ble_eq_true rfl, Nat.le_of_ble_eq_true rfl⟩ dX5_readOne_2 0 rfl rfl [0] [1, 2, 3] rfl rfl rfl rfl (by decide) rfl (Nat.le_of_ble_eq_true rfl) ?_
  intro v1 w2 h3
  rcases h3 with h3 | h3
  ·
    obtain ⟨rfl, rfl, hf4⟩ := h3
    show X 0 0 [(rta, .inl (cI, 160, .inl tp)), (rlw, .inr (2, [.ref lc, .ref lsk, .ref len9, .int (nI z)])), (lc, .inl (cI, 160, .inl cd)), (rd, .inr (4, [.ref rta, .int (nI n), .int (nI (p_nx tp n a)), .int (p_tk tp n a), .int (nI (p_pl tp n a)), .int v, .int (-1), .ref rlw]))] [(0, .ref rd), (1, .int 1)] 5 [.int 1]
    have ht2 : p_tk tp n a = 2 := hf4.2
    refine x_if_ne C dX5_readOne_5 (tgt := 16) rfl (fun _ => ?_) (fun q9 => by first | exact absurd q9 (by decide) | exact absurd (by decide) q9)
    refine x_aload_n C dX5_readOne_16 0 rfl ?_
    refine x_get C inlX5 rfl 7 (by decide) gw_6_23 dX5_readOne_17 3 rfl rfl ?_
    refine x_aload_n C dX5_readOne_20 0 rfl ?_
    refine x_get C inlX5 rfl 3 (by decide) gw_7_12 dX5_readOne_21 3 rfl rfl ?_
    refine x_iconst C dX5_readOne_24 (v := 2) rfl ?_
    refine x_icmp_ne C dX5_readOne_25 (tgt := 35) rfl (fun c5 => ?_) (fun c5 => ?_)
    ·
      exact absurd ht2 c5
    ·
      refine x_aload_n C dX5_readOne_28 0 rfl ?_
      refine x_get C inlX5 rfl 5 (by decide) gw_7_20 dX5_readOne_29 3 rfl rfl ?_
      refine x_goto C dX5_readOne_32 (tgt := 41) rfl ?_
      refine x_topi C (p_vl tp n a) (hv (Or.inl ht2)) ?_
      have hlt9 := p_tk_lt (show ¬ p_tk tp n a = 0 by rw [ht2]; decide)
      refine x_callV C (As := [.int (p_vl tp n a)]) (st := []) (wc := [(rlw, .inr (2, [.ref lc, .ref lsk, .ref len9, .int (nI z)])), (lc, .inl (cI, 160, .inl cd))]) (wr := [(rta, .inl (cI, 160, .inl tp)), (rd, .inr (4, [.ref rta, .int (nI n), .int (nI (p_nx tp n a)), .int (p_tk tp n a), .int (nI (p_pl tp n a)), .int v, .int (-1), .ref rlw]))]) (c_X3_add l dG cI cM cW cS rlw lc lsk len9 z cd (p_vl tp n a) (by omega)) rZ0_ok (fun _ _ _ _ => trivial) kV_X5_57 ⟨rfl, hy_X3_add⟩ ⟨Nat.le_of_ble_eq_true rfl, Nat.le_of_ble_eq_true rfl⟩ ⟨Nat.le_of_ble_eq_true rfl, Nat.le_of_ble_eq_true rfl⟩ dX5_readOne_41 1 rfl rfl [1, 2] [0, 3] rfl rfl rfl rfl (by decide) rfl (Nat.le_of_ble_eq_true rfl) ?_
      intro v6 w7 h8
      obtain ⟨rfl, rfl, hf9⟩ := h8
      show X 0 0 [(rta, .inl (cI, 160, .inl tp)), (rd, .inr (4, [.ref rta, .int (nI n), .int (nI (p_nx tp n a)), .int (p_tk tp n a), .int (nI (p_pl tp n a)), .int v, .int (-1), .ref rlw])), (rlw, .inr (2, [.ref lc, .ref lsk, .ref len9, .int (nI (z + 1))])), (lc, .inl (cI, 160, .inl (upd cd z (p_vl tp n a))))] [(0, .ref rd), (1, .int 1)] 44 []
      refine x_aload_n C dX5_readOne_44 0 rfl ?_
      have hx10 : p_nx tp n a ≤ n := p_nx_le (by omega)
      have hx10g : a < p_nx tp n a := p_nx_gt2 (by rw [ht2]; decide)
      refine x_callV C (As := []) (st := []) (wc := [(rd, .inr (4, [.ref rta, .int (nI n), .int (nI (p_nx tp n a)), .int (p_tk tp n a), .int (nI (p_pl tp n a)), .int v, .int (-1), .ref rlw])), (rta, .inl (cI, 160, .inl tp))]) (wr := [(rlw, .inr (2, [.ref lc, .ref lsk, .ref len9, .int (nI (z + 1))])), (lc, .inl (cI, 160, .inl (upd cd z (p_vl tp n a))))]) (c_X5_advance l dG cI cM cW cS adK adV fm rd rta rlw n tp (p_nx tp n a) (p_tk tp n a) (nI (p_pl tp n a)) v (-1) (hx10) (by first | assumption | omega | decide)) (rZs_ok adK adV fm) (fun _ _ _ h9 => h9) kV_X5_34 ⟨rfl, hy_X5_advance⟩ ⟨Nat.le_of_ble_eq_true rfl, Nat.le_of_ble_eq_true rfl⟩ ⟨Nat.le_of_ble_eq_true rfl, Nat.le_of_ble_eq_true rfl⟩ dX5_readOne_45 1 rfl rfl [1, 0] [2, 3] rfl rfl rfl rfl (by decide) rfl (Nat.le_of_ble_eq_true rfl) ?_
      intro v11 w12 h13
      obtain ⟨_, _, _, v_17, rfl, rfl, ⟨rfl, rfl, rfl, hf19⟩⟩ := h13
      show X 0 0 [(rlw, .inr (2, [.ref lc, .ref lsk, .ref len9, .int (nI (z + 1))])), (lc, .inl (cI, 160, .inl (upd cd z (p_vl tp n a)))), (rd, .inr (4, [.ref rta, .int (nI n), .int (nI (p_nx tp n (p_nx tp n a))), .int (p_tk tp n (p_nx tp n a)), .int (nI (p_pl tp n (p_nx tp n a))), .int v_17, .int (-1), .ref rlw])), (rta, .inl (cI, 160, .inl tp))] [(0, .ref rd), (1, .int 1)] 48 []
      refine x_goto C dX5_readOne_48 (tgt := 124) rfl ?_
      refine x_sub C [2, 3, 0, 1] (ws' := [(rd, .inr (4, [.ref rta, .int (nI n), .int (nI (p_nx tp n (p_nx tp n a))), .int (p_tk tp n (p_nx tp n a)), .int (nI (p_pl tp n (p_nx tp n a))), .int v_17, .int (-1), .ref rlw])), (rta, .inl (cI, 160, .inl tp)), (rlw, .inr (2, [.ref lc, .ref lsk, .ref len9, .int (nI (z + 1))])), (lc, .inl (cI, 160, .inl (upd cd z (p_vl tp n a))))]) rfl rfl ?_
      refine E dX5_readOne_124 ?_
      exact Or.inl ⟨(p_nx tp n a), (z + 1), v_17, (upd cd z (p_vl tp n a)), rfl, rfl, ⟨(p_inj ((p_One_2 (d := 4) ht2).symm.trans hr)).2.1, p_len (p_inj ((p_One_2 (d := 4) ht2).symm.trans hr)).2.2 (by first | rfl | assumption | (simp only [List.length_append, List.length_singleton]; omega)), (p_inj ((p_One_2 (d := 4) ht2).symm.trans hr)).1, hf19, fun j => by rw [(p_inj ((p_One_2 (d := 4) ht2).symm.trans hr)).2.2]; exact p_app_1 j⟩⟩
  ·
    obtain ⟨rfl, rfl, hf20⟩ := h3
    show X 0 0 [(rta, .inl (cI, 160, .inl tp)), (rlw, .inr (2, [.ref lc, .ref lsk, .ref len9, .int (nI z)])), (lc, .inl (cI, 160, .inl cd)), (rd, .inr (4, [.ref rta, .int (nI n), .int (nI (p_nx tp n a)), .int (p_tk tp n a), .int (nI (p_pl tp n a)), .int v, .int (-1), .ref rlw]))] [(0, .ref rd), (1, .int 1)] 5 [.int 0]
    have ht2 : ¬ p_tk tp n a = 2 := fun e => hf20 ⟨rfl, e⟩
    refine x_if_ne C dX5_readOne_5 (tgt := 16) rfl (fun q9 => absurd q9 (by decide)) (fun _ => ?_)
    refine x_aload_n C dX5_readOne_8 0 rfl ?_
    refine x_iconst C dX5_readOne_9 (v := 3) rfl ?_
    refine x_callV C (As := [.int 3]) (st := []) (wc := [(rd, .inr (4, [.ref rta, .int (nI n), .int (nI (p_nx tp n a)), .int (p_tk tp n a), .int (nI (p_pl tp n a)), .int v, .int (-1), .ref rlw]))]) (wr := [(rta, .inl (cI, 160, .inl tp)), (rlw, .inr (2, [.ref lc, .ref lsk, .ref len9, .int (nI z)])), (lc, .inl (cI, 160, .inl cd))]) (c_X5_has l dG cI cM cW cS rd rta rlw n tp (nI (p_nx tp n a)) (p_tk tp n a) (nI (p_pl tp n a)) v (-1) 3 ) rZ0_ok (fun _ _ _ _ => trivial) kV_X5_47 ⟨rfl, hy_X5_has⟩ ⟨Nat.le_of_ble_eq_true rfl, Nat.le_of_ble_eq_true rfl⟩ ⟨Nat.le_of_ble_eq_true rfl, Nat.le_of_ble_eq_true rfl⟩ dX5_readOne_10 3 rfl rfl [3] [0, 1, 2] rfl rfl rfl rfl (by decide) rfl (Nat.le_of_ble_eq_true rfl) ?_
    intro v21 w22 h23
    rcases h23 with h23 | h23
    ·
      obtain ⟨rfl, rfl, hf24⟩ := h23
      show X 0 0 [(rta, .inl (cI, 160, .inl tp)), (rlw, .inr (2, [.ref lc, .ref lsk, .ref len9, .int (nI z)])), (lc, .inl (cI, 160, .inl cd)), (rd, .inr (4, [.ref rta, .int (nI n), .int (nI (p_nx tp n a)), .int (p_tk tp n a), .int (nI (p_pl tp n a)), .int v, .int (-1), .ref rlw]))] [(0, .ref rd), (1, .int 1)] 13 [.int 1]
      have ht3 : p_tk tp n a = 3 := hf24.2
      refine x_if_eq C dX5_readOne_13 (tgt := 51) rfl (fun q9 => absurd q9 (by decide)) (fun _ => ?_)
      refine x_aload_n C dX5_readOne_16 0 rfl ?_
      refine x_get C inlX5 rfl 7 (by decide) gw_6_23 dX5_readOne_17 3 rfl rfl ?_
      refine x_aload_n C dX5_readOne_20 0 rfl ?_
      refine x_get C inlX5 rfl 3 (by decide) gw_7_12 dX5_readOne_21 3 rfl rfl ?_
      refine x_iconst C dX5_readOne_24 (v := 2) rfl ?_
      refine x_icmp_ne C dX5_readOne_25 (tgt := 35) rfl (fun c25 => ?_) (fun c25 => ?_)
      ·
        refine x_iconst C dX5_readOne_35 (v := (-1)) rfl ?_
        refine x_aload_n C dX5_readOne_36 0 rfl ?_
        refine x_get C inlX5 rfl 5 (by decide) gw_7_20 dX5_readOne_37 3 rfl rfl ?_
        refine x_isub C dX5_readOne_40 ?_
        refine x_topi C (-1 - p_vl tp n a) (by rw [hv (Or.inr ht3)]) ?_
        have hlt9 := p_tk_lt (show ¬ p_tk tp n a = 0 by rw [ht3]; decide)
        refine x_callV C (As := [.int (-1 - p_vl tp n a)]) (st := []) (wc := [(rlw, .inr (2, [.ref lc, .ref lsk, .ref len9, .int (nI z)])), (lc, .inl (cI, 160, .inl cd))]) (wr := [(rta, .inl (cI, 160, .inl tp)), (rd, .inr (4, [.ref rta, .int (nI n), .int (nI (p_nx tp n a)), .int (p_tk tp n a), .int (nI (p_pl tp n a)), .int v, .int (-1), .ref rlw]))]) (c_X3_add l dG cI cM cW cS rlw lc lsk len9 z cd (-1 - p_vl tp n a) (by omega)) rZ0_ok (fun _ _ _ _ => trivial) kV_X5_57 ⟨rfl, hy_X3_add⟩ ⟨Nat.le_of_ble_eq_true rfl, Nat.le_of_ble_eq_true rfl⟩ ⟨Nat.le_of_ble_eq_true rfl, Nat.le_of_ble_eq_true rfl⟩ dX5_readOne_41 1 rfl rfl [1, 2] [0, 3] rfl rfl rfl rfl (by decide) rfl (Nat.le_of_ble_eq_true rfl) ?_
        intro v26 w27 h28
        obtain ⟨rfl, rfl, hf29⟩ := h28
        show X 0 0 [(rta, .inl (cI, 160, .inl tp)), (rd, .inr (4, [.ref rta, .int (nI n), .int (nI (p_nx tp n a)), .int (p_tk tp n a), .int (nI (p_pl tp n a)), .int v, .int (-1), .ref rlw])), (rlw, .inr (2, [.ref lc, .ref lsk, .ref len9, .int (nI (z + 1))])), (lc, .inl (cI, 160, .inl (upd cd z (-1 - p_vl tp n a))))] [(0, .ref rd), (1, .int 1)] 44 []
        refine x_aload_n C dX5_readOne_44 0 rfl ?_
        have hx30 : p_nx tp n a ≤ n := p_nx_le (by omega)
        have hx30g : a < p_nx tp n a := p_nx_gt2 (by rw [ht3]; decide)
        refine x_callV C (As := []) (st := []) (wc := [(rd, .inr (4, [.ref rta, .int (nI n), .int (nI (p_nx tp n a)), .int (p_tk tp n a), .int (nI (p_pl tp n a)), .int v, .int (-1), .ref rlw])), (rta, .inl (cI, 160, .inl tp))]) (wr := [(rlw, .inr (2, [.ref lc, .ref lsk, .ref len9, .int (nI (z + 1))])), (lc, .inl (cI, 160, .inl (upd cd z (-1 - p_vl tp n a))))]) (c_X5_advance l dG cI cM cW cS adK adV fm rd rta rlw n tp (p_nx tp n a) (p_tk tp n a) (nI (p_pl tp n a)) v (-1) (hx30) (by first | assumption | omega | decide)) (rZs_ok adK adV fm) (fun _ _ _ h9 => h9) kV_X5_34 ⟨rfl, hy_X5_advance⟩ ⟨Nat.le_of_ble_eq_true rfl, Nat.le_of_ble_eq_true rfl⟩ ⟨Nat.le_of_ble_eq_true rfl, Nat.le_of_ble_eq_true rfl⟩ dX5_readOne_45 1 rfl rfl [1, 0] [2, 3] rfl rfl rfl rfl (by decide) rfl (Nat.le_of_ble_eq_true rfl) ?_
        intro v31 w32 h33
        obtain ⟨_, _, _, v_37, rfl, rfl, ⟨rfl, rfl, rfl, hf39⟩⟩ := h33
        show X 0 0 [(rlw, .inr (2, [.ref lc, .ref lsk, .ref len9, .int (nI (z + 1))])), (lc, .inl (cI, 160, .inl (upd cd z (-1 - p_vl tp n a)))), (rd, .inr (4, [.ref rta, .int (nI n), .int (nI (p_nx tp n (p_nx tp n a))), .int (p_tk tp n (p_nx tp n a)), .int (nI (p_pl tp n (p_nx tp n a))), .int v_37, .int (-1), .ref rlw])), (rta, .inl (cI, 160, .inl tp))] [(0, .ref rd), (1, .int 1)] 48 []
        refine x_goto C dX5_readOne_48 (tgt := 124) rfl ?_
        refine x_sub C [2, 3, 0, 1] (ws' := [(rd, .inr (4, [.ref rta, .int (nI n), .int (nI (p_nx tp n (p_nx tp n a))), .int (p_tk tp n (p_nx tp n a)), .int (nI (p_pl tp n (p_nx tp n a))), .int v_37, .int (-1), .ref rlw])), (rta, .inl (cI, 160, .inl tp)), (rlw, .inr (2, [.ref lc, .ref lsk, .ref len9, .int (nI (z + 1))])), (lc, .inl (cI, 160, .inl (upd cd z (-1 - p_vl tp n a))))]) rfl rfl ?_
        refine E dX5_readOne_124 ?_
        exact Or.inl ⟨(p_nx tp n a), (z + 1), v_37, (upd cd z (-1 - p_vl tp n a)), rfl, rfl, ⟨(p_inj ((p_One_3 (d := 4) ht3).symm.trans hr)).2.1, p_len (p_inj ((p_One_3 (d := 4) ht3).symm.trans hr)).2.2 (by first | rfl | assumption | (simp only [List.length_append, List.length_singleton]; omega)), (p_inj ((p_One_3 (d := 4) ht3).symm.trans hr)).1, hf39, fun j => by rw [(p_inj ((p_One_3 (d := 4) ht3).symm.trans hr)).2.2]; exact p_app_1 j⟩⟩
      ·
        exact absurd (c25.symm.trans ht3) (by decide)
    ·
      obtain ⟨rfl, rfl, hf40⟩ := h23
      show X 0 0 [(rta, .inl (cI, 160, .inl tp)), (rlw, .inr (2, [.ref lc, .ref lsk, .ref len9, .int (nI z)])), (lc, .inl (cI, 160, .inl cd)), (rd, .inr (4, [.ref rta, .int (nI n), .int (nI (p_nx tp n a)), .int (p_tk tp n a), .int (nI (p_pl tp n a)), .int v, .int (-1), .ref rlw]))] [(0, .ref rd), (1, .int 1)] 13 [.int 0]
      have ht3 : ¬ p_tk tp n a = 3 := fun e => hf40 ⟨rfl, e⟩
      refine x_if_eq C dX5_readOne_13 (tgt := 51) rfl (fun _ => ?_) (fun q9 => by first | exact absurd q9 (by decide) | exact absurd (by decide) q9)
      refine x_aload_n C dX5_readOne_51 0 rfl ?_
      refine x_bipush C dX5_readOne_52 (v := 45) rfl ?_
      refine x_callV C (As := [.int 45]) (st := []) (wc := [(rd, .inr (4, [.ref rta, .int (nI n), .int (nI (p_nx tp n a)), .int (p_tk tp n a), .int (nI (p_pl tp n a)), .int v, .int (-1), .ref rlw]))]) (wr := [(rta, .inl (cI, 160, .inl tp)), (rlw, .inr (2, [.ref lc, .ref lsk, .ref len9, .int (nI z)])), (lc, .inl (cI, 160, .inl cd))]) (c_X5_has l dG cI cM cW cS rd rta rlw n tp (nI (p_nx tp n a)) (p_tk tp n a) (nI (p_pl tp n a)) v (-1) 45 ) rZ0_ok (fun _ _ _ _ => trivial) kV_X5_47 ⟨rfl, hy_X5_has⟩ ⟨Nat.le_of_ble_eq_true rfl, Nat.le_of_ble_eq_true rfl⟩ ⟨Nat.le_of_ble_eq_true rfl, Nat.le_of_ble_eq_true rfl⟩ dX5_readOne_54 3 rfl rfl [3] [0, 1, 2] rfl rfl rfl rfl (by decide) rfl (Nat.le_of_ble_eq_true rfl) ?_
      intro v41 w42 h43
      rcases h43 with h43 | h43
      ·
        obtain ⟨rfl, rfl, hf44⟩ := h43
        show X 0 0 [(rta, .inl (cI, 160, .inl tp)), (rlw, .inr (2, [.ref lc, .ref lsk, .ref len9, .int (nI z)])), (lc, .inl (cI, 160, .inl cd)), (rd, .inr (4, [.ref rta, .int (nI n), .int (nI (p_nx tp n a)), .int (p_tk tp n a), .int (nI (p_pl tp n a)), .int v, .int (-1), .ref rlw]))] [(0, .ref rd), (1, .int 1)] 57 [.int 1]
        have ht45 : p_tk tp n a = 45 := hf44.2
        refine x_if_eq C dX5_readOne_57 (tgt := 87) rfl (fun q9 => absurd q9 (by decide)) (fun _ => ?_)
        refine x_aload_n C dX5_readOne_60 0 rfl ?_
        refine x_iload_n C dX5_readOne_61 1 rfl ?_
        have hx45 : p_nx tp n a ≤ n := p_nx_le (by omega)
        have hx45g : a < p_nx tp n a := p_nx_gt2 (by rw [ht45]; decide)
        refine x_callV C (As := [.int 1]) (st := []) (wc := [(rd, .inr (4, [.ref rta, .int (nI n), .int (nI (p_nx tp n a)), .int (p_tk tp n a), .int (nI (p_pl tp n a)), .int v, .int (-1), .ref rlw])), (rta, .inl (cI, 160, .inl tp))]) (wr := [(rlw, .inr (2, [.ref lc, .ref lsk, .ref len9, .int (nI z)])), (lc, .inl (cI, 160, .inl cd))]) (c_X5_goesDeeper_1 l dG cI cM cW cS adK adV fm rd rta rlw n tp a v (by first | assumption | omega | decide) (by first | assumption | omega | decide)) (rZs_ok adK adV fm) (fun _ _ _ h9 => h9) kV_X5_63 ⟨rfl, hy_X5_goesDeeper⟩ ⟨Nat.le_of_ble_eq_true rfl, Nat.le_of_ble_eq_true rfl⟩ ⟨Nat.le_of_ble_eq_true rfl, Nat.le_of_ble_eq_true rfl⟩ dX5_readOne_62 3 rfl rfl [3, 0] [1, 2] rfl rfl rfl rfl (by decide) rfl (Nat.le_of_ble_eq_true rfl) ?_
        intro v46 w47 h48
        obtain ⟨v_49, rfl, rfl, hf50⟩ := h48
        show X 0 0 [(rlw, .inr (2, [.ref lc, .ref lsk, .ref len9, .int (nI z)])), (lc, .inl (cI, 160, .inl cd)), (rd, .inr (4, [.ref rta, .int (nI n), .int (nI (p_nx tp n (p_nx tp n a))), .int (p_tk tp n (p_nx tp n a)), .int (nI (p_pl tp n (p_nx tp n a))), .int v_49, .int (-1), .ref rlw])), (rta, .inl (cI, 160, .inl tp))] [(0, .ref rd), (1, .int 1)] 65 [.int 1]
        refine x_if_eq C dX5_readOne_65 (tgt := 124) rfl (fun q9 => absurd q9 (by decide)) (fun _ => ?_)
        refine x_aload_n C dX5_readOne_68 0 rfl ?_
        refine x_iload_n C dX5_readOne_69 1 rfl ?_
        refine x_iconst C dX5_readOne_70 (v := 1) rfl ?_
        refine x_iadd C dX5_readOne_71 ?_
        refine x_topi C 2 (by decide) ?_
        obtain ⟨⟨ok51, aa51, cc51⟩, hr51⟩ : ∃ r, p_One tp n 3 (p_nx tp n a) = r := ⟨_, rfl⟩
        obtain ⟨ga51, gb51, gc51⟩ := p_One_good 3 _ _ _ _ (show p_nx tp n a ≤ n by omega) hr51
        refine x_callV C (As := [.int 2]) (st := []) (wc := [(rd, .inr (4, [.ref rta, .int (nI n), .int (nI (p_nx tp n (p_nx tp n a))), .int (p_tk tp n (p_nx tp n a)), .int (nI (p_pl tp n (p_nx tp n a))), .int v_49, .int (-1), .ref rlw])), (rta, .inl (cI, 160, .inl tp)), (rlw, .inr (2, [.ref lc, .ref lsk, .ref len9, .int (nI z)])), (lc, .inl (cI, 160, .inl cd))]) (wr := []) (c_X5_readOne_3 l dG cI cM cW cS adK adV fm rd rta rlw n tp (p_nx tp n a) v_49 lc lsk len9 z cd ok51 aa51 cc51 (by first | assumption | omega | decide) (by first | assumption | omega | decide) (by first | assumption | omega | decide) (hf50) (hr51)) (rZs_ok adK adV fm) (fun _ _ _ h9 => h9) kV_X5_75 ⟨rfl, hy_X5_readOne⟩ ⟨Nat.le_of_ble_eq_true rfl, Nat.le_of_ble_eq_true rfl⟩ ⟨Nat.le_of_ble_eq_true rfl, Nat.le_of_ble_eq_true rfl⟩ dX5_readOne_72 2 rfl rfl [2, 3, 0, 1] [] rfl rfl rfl rfl (by decide) rfl (Nat.le_of_ble_eq_true rfl) ?_
        intro v52 w53 h54
        rcases h54 with h54 | h54
        ·
          obtain ⟨_, _, v_57, cd_58, rfl, rfl, ⟨rfl, rfl, hf60, hf61, hf62⟩⟩ := h54
          show X 0 0 [(rd, .inr (4, [.ref rta, .int (nI n), .int (nI (p_nx tp n aa51)), .int (p_tk tp n aa51), .int (nI (p_pl tp n aa51)), .int v_57, .int (-1), .ref rlw])), (rta, .inl (cI, 160, .inl tp)), (rlw, .inr (2, [.ref lc, .ref lsk, .ref len9, .int (nI (z + cc51.length))])), (lc, .inl (cI, 160, .inl cd_58))] [(0, .ref rd), (1, .int 1)] 75 []
          subst hf60
          obtain ⟨gt51, gl51, gd51⟩ := gc51 rfl
          refine x_aload_n C dX5_readOne_75 0 rfl ?_
          refine x_get C inlX5 rfl 7 (by decide) gw_6_23 dX5_readOne_76 0 rfl rfl ?_
          refine x_bipush C dX5_readOne_79 (v := (-7)) rfl ?_
          refine x_callV C (As := [.int (-7)]) (st := []) (wc := [(rlw, .inr (2, [.ref lc, .ref lsk, .ref len9, .int (nI (z + cc51.length))])), (lc, .inl (cI, 160, .inl cd_58))]) (wr := [(rd, .inr (4, [.ref rta, .int (nI n), .int (nI (p_nx tp n aa51)), .int (p_tk tp n aa51), .int (nI (p_pl tp n aa51)), .int v_57, .int (-1), .ref rlw])), (rta, .inl (cI, 160, .inl tp))]) (c_X3_add l dG cI cM cW cS rlw lc lsk len9 (z + cc51.length) cd_58 (-7) (by omega)) rZ0_ok (fun _ _ _ _ => trivial) kV_X5_57 ⟨rfl, hy_X3_add⟩ ⟨Nat.le_of_ble_eq_true rfl, Nat.le_of_ble_eq_true rfl⟩ ⟨Nat.le_of_ble_eq_true rfl, Nat.le_of_ble_eq_true rfl⟩ dX5_readOne_81 2 rfl rfl [2, 3] [0, 1] rfl rfl rfl rfl (by decide) rfl (Nat.le_of_ble_eq_true rfl) ?_
          intro v63 w64 h65
          obtain ⟨rfl, rfl, hf66⟩ := h65
          show X 0 0 [(rd, .inr (4, [.ref rta, .int (nI n), .int (nI (p_nx tp n aa51)), .int (p_tk tp n aa51), .int (nI (p_pl tp n aa51)), .int v_57, .int (-1), .ref rlw])), (rta, .inl (cI, 160, .inl tp)), (rlw, .inr (2, [.ref lc, .ref lsk, .ref len9, .int (nI ((z + cc51.length) + 1))])), (lc, .inl (cI, 160, .inl (upd cd_58 (z + cc51.length) (-7))))] [(0, .ref rd), (1, .int 1)] 84 []
          refine x_goto C dX5_readOne_84 (tgt := 124) rfl ?_
          refine E dX5_readOne_124 ?_
          exact Or.inl ⟨aa51, ((z + cc51.length) + 1), v_57, (upd cd_58 (z + cc51.length) (-7)), rfl, rfl, ⟨(p_inj ((p_One_m (d := 3) ht45 hr51).symm.trans hr)).2.1, p_len (p_inj ((p_One_m (d := 3) ht45 hr51).symm.trans hr)).2.2 (by first | rfl | assumption | (simp only [List.length_append, List.length_singleton]; omega)), (p_inj ((p_One_m (d := 3) ht45 hr51).symm.trans hr)).1, hf61, fun j => by rw [(p_inj ((p_One_m (d := 3) ht45 hr51).symm.trans hr)).2.2]; exact (p_app_s hf62 rfl) j⟩⟩
        ·
          obtain ⟨rat_67, rtk_68, rpl_69, rva_70, _, z_72, cd_73, rfl, rfl, ⟨rfl, hf75, hf76, hf77⟩⟩ := h54
          show X 0 0 [(rd, .inr (4, [.ref rta, .int (nI n), .int rat_67, .int rtk_68, .int rpl_69, .int rva_70, .int (nI (p_pl tp n aa51)), .ref rlw])), (rta, .inl (cI, 160, .inl tp)), (rlw, .inr (2, [.ref lc, .ref lsk, .ref len9, .int (nI z_72)])), (lc, .inl (cI, 160, .inl cd_73))] [(0, .ref rd), (1, .int 1)] 75 []
          subst hf75
          refine x_aload_n C dX5_readOne_75 0 rfl ?_
          refine x_get C inlX5 rfl 7 (by decide) gw_6_23 dX5_readOne_76 0 rfl rfl ?_
          refine x_bipush C dX5_readOne_79 (v := (-7)) rfl ?_
          refine x_callV C (As := [.int (-7)]) (st := []) (wc := [(rlw, .inr (2, [.ref lc, .ref lsk, .ref len9, .int (nI z_72)])), (lc, .inl (cI, 160, .inl cd_73))]) (wr := [(rd, .inr (4, [.ref rta, .int (nI n), .int rat_67, .int rtk_68, .int rpl_69, .int rva_70, .int (nI (p_pl tp n aa51)), .ref rlw])), (rta, .inl (cI, 160, .inl tp))]) (c_X3_add_f l dG cI cM cW cS rlw lc lsk len9 z_72 cd_73 (-7) (hf76)) rZ0_ok (fun _ _ _ _ => trivial) kV_X5_57 ⟨rfl, hy_X3_add⟩ ⟨Nat.le_of_ble_eq_true rfl, Nat.le_of_ble_eq_true rfl⟩ ⟨Nat.le_of_ble_eq_true rfl, Nat.le_of_ble_eq_true rfl⟩ dX5_readOne_81 2 rfl rfl [2, 3] [0, 1] rfl rfl rfl rfl (by decide) rfl (Nat.le_of_ble_eq_true rfl) ?_
          intro v78 w79 h80
          obtain ⟨z_81, cd_82, rfl, rfl, hf83⟩ := h80
          show X 0 0 [(rd, .inr (4, [.ref rta, .int (nI n), .int rat_67, .int rtk_68, .int rpl_69, .int rva_70, .int (nI (p_pl tp n aa51)), .ref rlw])), (rta, .inl (cI, 160, .inl tp)), (rlw, .inr (2, [.ref lc, .ref lsk, .ref len9, .int (nI z_81)])), (lc, .inl (cI, 160, .inl cd_82))] [(0, .ref rd), (1, .int 1)] 84 []
          refine x_goto C dX5_readOne_84 (tgt := 124) rfl ?_
          refine E dX5_readOne_124 ?_
          exact Or.inr (⟨rat_67, rtk_68, rpl_69, rva_70, (p_pl tp n aa51), z_81, cd_82, rfl, rfl, ⟨by rw [(p_inj ((p_One_m (d := 3) ht45 hr51).symm.trans hr)).2.1], (p_inj ((p_One_m (d := 3) ht45 hr51).symm.trans hr)).1, hf83, hf77⟩⟩)
      ·
        obtain ⟨rfl, rfl, hf84⟩ := h43
        show X 0 0 [(rta, .inl (cI, 160, .inl tp)), (rlw, .inr (2, [.ref lc, .ref lsk, .ref len9, .int (nI z)])), (lc, .inl (cI, 160, .inl cd)), (rd, .inr (4, [.ref rta, .int (nI n), .int (nI (p_nx tp n a)), .int (p_tk tp n a), .int (nI (p_pl tp n a)), .int v, .int (-1), .ref rlw]))] [(0, .ref rd), (1, .int 1)] 57 [.int 0]
        have ht45 : ¬ p_tk tp n a = 45 := fun e => hf84 ⟨rfl, e⟩
        refine x_if_eq C dX5_readOne_57 (tgt := 87) rfl (fun _ => ?_) (fun q9 => by first | exact absurd q9 (by decide) | exact absurd (by decide) q9)
        refine x_aload_n C dX5_readOne_87 0 rfl ?_
        refine x_bipush C dX5_readOne_88 (v := 40) rfl ?_
        refine x_callV C (As := [.int 40]) (st := []) (wc := [(rd, .inr (4, [.ref rta, .int (nI n), .int (nI (p_nx tp n a)), .int (p_tk tp n a), .int (nI (p_pl tp n a)), .int v, .int (-1), .ref rlw]))]) (wr := [(rta, .inl (cI, 160, .inl tp)), (rlw, .inr (2, [.ref lc, .ref lsk, .ref len9, .int (nI z)])), (lc, .inl (cI, 160, .inl cd))]) (c_X5_has l dG cI cM cW cS rd rta rlw n tp (nI (p_nx tp n a)) (p_tk tp n a) (nI (p_pl tp n a)) v (-1) 40 ) rZ0_ok (fun _ _ _ _ => trivial) kV_X5_47 ⟨rfl, hy_X5_has⟩ ⟨Nat.le_of_ble_eq_true rfl, Nat.le_of_ble_eq_true rfl⟩ ⟨Nat.le_of_ble_eq_true rfl, Nat.le_of_ble_eq_true rfl⟩ dX5_readOne_90 3 rfl rfl [3] [0, 1, 2] rfl rfl rfl rfl (by decide) rfl (Nat.le_of_ble_eq_true rfl) ?_
        intro v85 w86 h87
        rcases h87 with h87 | h87
        ·
          obtain ⟨rfl, rfl, hf88⟩ := h87
          show X 0 0 [(rta, .inl (cI, 160, .inl tp)), (rlw, .inr (2, [.ref lc, .ref lsk, .ref len9, .int (nI z)])), (lc, .inl (cI, 160, .inl cd)), (rd, .inr (4, [.ref rta, .int (nI n), .int (nI (p_nx tp n a)), .int (p_tk tp n a), .int (nI (p_pl tp n a)), .int v, .int (-1), .ref rlw]))] [(0, .ref rd), (1, .int 1)] 93 [.int 1]
          have ht40 : p_tk tp n a = 40 := hf88.2
          refine x_if_eq C dX5_readOne_93 (tgt := 120) rfl (fun q9 => absurd q9 (by decide)) (fun _ => ?_)
          refine x_aload_n C dX5_readOne_96 0 rfl ?_
          refine x_iload_n C dX5_readOne_97 1 rfl ?_
          have hx89 : p_nx tp n a ≤ n := p_nx_le (by omega)
          have hx89g : a < p_nx tp n a := p_nx_gt2 (by rw [ht40]; decide)
          refine x_callV C (As := [.int 1]) (st := []) (wc := [(rd, .inr (4, [.ref rta, .int (nI n), .int (nI (p_nx tp n a)), .int (p_tk tp n a), .int (nI (p_pl tp n a)), .int v, .int (-1), .ref rlw])), (rta, .inl (cI, 160, .inl tp))]) (wr := [(rlw, .inr (2, [.ref lc, .ref lsk, .ref len9, .int (nI z)])), (lc, .inl (cI, 160, .inl cd))]) (c_X5_goesDeeper_1 l dG cI cM cW cS adK adV fm rd rta rlw n tp a v (by first | assumption | omega | decide) (by first | assumption | omega | decide)) (rZs_ok adK adV fm) (fun _ _ _ h9 => h9) kV_X5_63 ⟨rfl, hy_X5_goesDeeper⟩ ⟨Nat.le_of_ble_eq_true rfl, Nat.le_of_ble_eq_true rfl⟩ ⟨Nat.le_of_ble_eq_true rfl, Nat.le_of_ble_eq_true rfl⟩ dX5_readOne_98 3 rfl rfl [3, 0] [1, 2] rfl rfl rfl rfl (by decide) rfl (Nat.le_of_ble_eq_true rfl) ?_
          intro v90 w91 h92
          obtain ⟨v_93, rfl, rfl, hf94⟩ := h92
          show X 0 0 [(rlw, .inr (2, [.ref lc, .ref lsk, .ref len9, .int (nI z)])), (lc, .inl (cI, 160, .inl cd)), (rd, .inr (4, [.ref rta, .int (nI n), .int (nI (p_nx tp n (p_nx tp n a))), .int (p_tk tp n (p_nx tp n a)), .int (nI (p_pl tp n (p_nx tp n a))), .int v_93, .int (-1), .ref rlw])), (rta, .inl (cI, 160, .inl tp))] [(0, .ref rd), (1, .int 1)] 101 [.int 1]
          refine x_if_eq C dX5_readOne_101 (tgt := 124) rfl (fun q9 => absurd q9 (by decide)) (fun _ => ?_)
          refine x_aload_n C dX5_readOne_104 0 rfl ?_
          refine x_iload_n C dX5_readOne_105 1 rfl ?_
          refine x_iconst C dX5_readOne_106 (v := 1) rfl ?_
          refine x_iadd C dX5_readOne_107 ?_
          refine x_topi C 2 (by decide) ?_
          obtain ⟨⟨ok95, aa95, cc95⟩, hr95⟩ : ∃ r, p_Or tp n 3 (p_nx tp n a) = r := ⟨_, rfl⟩
          obtain ⟨ga95, gb95, gc95⟩ := p_Or_good 3 _ _ _ _ (show p_nx tp n a ≤ n by omega) hr95
          refine x_callV C (As := [.int 2]) (st := []) (wc := [(rd, .inr (4, [.ref rta, .int (nI n), .int (nI (p_nx tp n (p_nx tp n a))), .int (p_tk tp n (p_nx tp n a)), .int (nI (p_pl tp n (p_nx tp n a))), .int v_93, .int (-1), .ref rlw])), (rta, .inl (cI, 160, .inl tp)), (rlw, .inr (2, [.ref lc, .ref lsk, .ref len9, .int (nI z)])), (lc, .inl (cI, 160, .inl cd))]) (wr := []) (c_X5_readOr_3 l dG cI cM cW cS adK adV fm rd rta rlw n tp (p_nx tp n a) v_93 lc lsk len9 z cd ok95 aa95 cc95 (by first | assumption | omega | decide) (by first | assumption | omega | decide) (by first | assumption | omega | decide) (hf94) (hr95)) (rZs_ok adK adV fm) (fun _ _ _ h9 => h9) kV_X5_41 ⟨rfl, hy_X5_readOr⟩ ⟨Nat.le_of_ble_eq_true rfl, Nat.le_of_ble_eq_true rfl⟩ ⟨Nat.le_of_ble_eq_true rfl, Nat.le_of_ble_eq_true rfl⟩ dX5_readOne_108 2 rfl rfl [2, 3, 0, 1] [] rfl rfl rfl rfl (by decide) rfl (Nat.le_of_ble_eq_true rfl) ?_
          intro v96 w97 h98
          rcases h98 with h98 | h98
          ·
            obtain ⟨_, _, v_101, cd_102, rfl, rfl, ⟨rfl, rfl, hf104, hf105, hf106⟩⟩ := h98
            show X 0 0 [(rd, .inr (4, [.ref rta, .int (nI n), .int (nI (p_nx tp n aa95)), .int (p_tk tp n aa95), .int (nI (p_pl tp n aa95)), .int v_101, .int (-1), .ref rlw])), (rta, .inl (cI, 160, .inl tp)), (rlw, .inr (2, [.ref lc, .ref lsk, .ref len9, .int (nI (z + cc95.length))])), (lc, .inl (cI, 160, .inl cd_102))] [(0, .ref rd), (1, .int 1)] 111 []
            subst hf104
            obtain ⟨gt95, gl95, gd95⟩ := gc95 rfl
            refine x_aload_n C dX5_readOne_111 0 rfl ?_
            refine x_bipush C dX5_readOne_112 (v := 41) rfl ?_
            refine x_callV C (As := [.int 41]) (st := []) (wc := [(rd, .inr (4, [.ref rta, .int (nI n), .int (nI (p_nx tp n aa95)), .int (p_tk tp n aa95), .int (nI (p_pl tp n aa95)), .int v_101, .int (-1), .ref rlw])), (rta, .inl (cI, 160, .inl tp))]) (wr := [(rlw, .inr (2, [.ref lc, .ref lsk, .ref len9, .int (nI (z + cc95.length))])), (lc, .inl (cI, 160, .inl cd_102))]) (c_X5_expect l dG cI cM cW cS adK adV fm rd rta rlw n tp aa95 v_101 41 (by first | assumption | omega | decide) (by first | assumption | omega | decide)) (rZs_ok adK adV fm) (fun _ _ _ h9 => h9) kV_X5_37 ⟨rfl, hy_X5_expect⟩ ⟨Nat.le_of_ble_eq_true rfl, Nat.le_of_ble_eq_true rfl⟩ ⟨Nat.le_of_ble_eq_true rfl, Nat.le_of_ble_eq_true rfl⟩ dX5_readOne_114 0 rfl rfl [0, 1] [2, 3] rfl rfl rfl rfl (by decide) rfl (Nat.le_of_ble_eq_true rfl) ?_
            intro v107 w108 h109
            rcases h109 with h109 | h109
            ·
              obtain ⟨v_110, rfl, rfl, hf111⟩ := h109
              show X 0 0 [(rlw, .inr (2, [.ref lc, .ref lsk, .ref len9, .int (nI (z + cc95.length))])), (lc, .inl (cI, 160, .inl cd_102)), (rd, .inr (4, [.ref rta, .int (nI n), .int (nI (p_nx tp n (p_nx tp n aa95))), .int (p_tk tp n (p_nx tp n aa95)), .int (nI (p_pl tp n (p_nx tp n aa95))), .int v_110, .int (-1), .ref rlw])), (rta, .inl (cI, 160, .inl tp))] [(0, .ref rd), (1, .int 1)] 117 []
              have h41 := hf111.1
              have hv112 := hf111.2
              refine x_goto C dX5_readOne_117 (tgt := 124) rfl ?_
              refine x_sub C [2, 3, 0, 1] (ws' := [(rd, .inr (4, [.ref rta, .int (nI n), .int (nI (p_nx tp n (p_nx tp n aa95))), .int (p_tk tp n (p_nx tp n aa95)), .int (nI (p_pl tp n (p_nx tp n aa95))), .int v_110, .int (-1), .ref rlw])), (rta, .inl (cI, 160, .inl tp)), (rlw, .inr (2, [.ref lc, .ref lsk, .ref len9, .int (nI (z + cc95.length))])), (lc, .inl (cI, 160, .inl cd_102))]) rfl rfl ?_
              refine E dX5_readOne_124 ?_
              exact Or.inl ⟨(p_nx tp n aa95), (z + cc95.length), v_110, cd_102, rfl, rfl, ⟨(p_inj ((p_One_pt (d := 3) ht40 hr95 h41).symm.trans hr)).2.1, p_len (p_inj ((p_One_pt (d := 3) ht40 hr95 h41).symm.trans hr)).2.2 (by first | rfl | assumption | (simp only [List.length_append, List.length_singleton]; omega)), (p_inj ((p_One_pt (d := 3) ht40 hr95 h41).symm.trans hr)).1, hv112, fun j => by rw [(p_inj ((p_One_pt (d := 3) ht40 hr95 h41).symm.trans hr)).2.2]; exact hf106 j⟩⟩
            ·
              obtain ⟨rfl, rfl, hf113⟩ := h109
              show X 0 0 [(rlw, .inr (2, [.ref lc, .ref lsk, .ref len9, .int (nI (z + cc95.length))])), (lc, .inl (cI, 160, .inl cd_102)), (rd, .inr (4, [.ref rta, .int (nI n), .int (nI (p_nx tp n aa95)), .int (p_tk tp n aa95), .int (nI (p_pl tp n aa95)), .int v_101, .int (nI (p_pl tp n aa95)), .ref rlw])), (rta, .inl (cI, 160, .inl tp))] [(0, .ref rd), (1, .int 1)] 117 []
              have h41 := hf113
              have hfb9 : p_pl tp n aa95 ≤ 160 := Nat.le_trans (p_pl_le gb95) hn
              refine x_goto C dX5_readOne_117 (tgt := 124) rfl ?_
              refine x_sub C [2, 3, 0, 1] (ws' := [(rd, .inr (4, [.ref rta, .int (nI n), .int (nI (p_nx tp n aa95)), .int (p_tk tp n aa95), .int (nI (p_pl tp n aa95)), .int v_101, .int (nI (p_pl tp n aa95)), .ref rlw])), (rta, .inl (cI, 160, .inl tp)), (rlw, .inr (2, [.ref lc, .ref lsk, .ref len9, .int (nI (z + cc95.length))])), (lc, .inl (cI, 160, .inl cd_102))]) rfl rfl ?_
              refine E dX5_readOne_124 ?_
              exact Or.inr (⟨(nI (p_nx tp n aa95)), (p_tk tp n aa95), (nI (p_pl tp n aa95)), v_101, (p_pl tp n aa95), (z + cc95.length), cd_102, rfl, rfl, ⟨by rw [(p_inj ((p_One_pf (d := 3) ht40 hr95 h41).symm.trans hr)).2.1], (p_inj ((p_One_pf (d := 3) ht40 hr95 h41).symm.trans hr)).1, (by omega), hfb9⟩⟩)
          ·
            obtain ⟨rat_114, rtk_115, rpl_116, rva_117, _, z_119, cd_120, rfl, rfl, ⟨rfl, hf122, hf123, hf124⟩⟩ := h98
            show X 0 0 [(rd, .inr (4, [.ref rta, .int (nI n), .int rat_114, .int rtk_115, .int rpl_116, .int rva_117, .int (nI (p_pl tp n aa95)), .ref rlw])), (rta, .inl (cI, 160, .inl tp)), (rlw, .inr (2, [.ref lc, .ref lsk, .ref len9, .int (nI z_119)])), (lc, .inl (cI, 160, .inl cd_120))] [(0, .ref rd), (1, .int 1)] 111 []
            subst hf122
            refine x_aload_n C dX5_readOne_111 0 rfl ?_
            refine x_bipush C dX5_readOne_112 (v := 41) rfl ?_
            refine x_callV C (As := [.int 41]) (st := []) (wc := [(rd, .inr (4, [.ref rta, .int (nI n), .int rat_114, .int rtk_115, .int rpl_116, .int rva_117, .int (nI (p_pl tp n aa95)), .ref rlw])), (rta, .inl (cI, 160, .inl tp))]) (wr := [(rlw, .inr (2, [.ref lc, .ref lsk, .ref len9, .int (nI z_119)])), (lc, .inl (cI, 160, .inl cd_120))]) (c_X5_expect_f l dG cI cM cW cS adK adV fm rd rta rlw n tp rat_114 rtk_115 rpl_116 rva_117 (p_pl tp n aa95) 41 (by omega)) (rZs_ok adK adV fm) (fun _ _ _ h9 => h9) kV_X5_37 ⟨rfl, hy_X5_expect⟩ ⟨Nat.le_of_ble_eq_true rfl, Nat.le_of_ble_eq_true rfl⟩ ⟨Nat.le_of_ble_eq_true rfl, Nat.le_of_ble_eq_true rfl⟩ dX5_readOne_114 0 rfl rfl [0, 1] [2, 3] rfl rfl rfl rfl (by decide) rfl (Nat.le_of_ble_eq_true rfl) ?_
            intro v125 w126 h127
            obtain ⟨rfl, rfl, hf128⟩ := h127
            show X 0 0 [(rlw, .inr (2, [.ref lc, .ref lsk, .ref len9, .int (nI z_119)])), (lc, .inl (cI, 160, .inl cd_120)), (rd, .inr (4, [.ref rta, .int (nI n), .int rat_114, .int rtk_115, .int rpl_116, .int rva_117, .int (nI (p_pl tp n aa95)), .ref rlw])), (rta, .inl (cI, 160, .inl tp))] [(0, .ref rd), (1, .int 1)] 117 []
            refine x_goto C dX5_readOne_117 (tgt := 124) rfl ?_
            refine x_sub C [2, 3, 0, 1] (ws' := [(rd, .inr (4, [.ref rta, .int (nI n), .int rat_114, .int rtk_115, .int rpl_116, .int rva_117, .int (nI (p_pl tp n aa95)), .ref rlw])), (rta, .inl (cI, 160, .inl tp)), (rlw, .inr (2, [.ref lc, .ref lsk, .ref len9, .int (nI z_119)])), (lc, .inl (cI, 160, .inl cd_120))]) rfl rfl ?_
            refine E dX5_readOne_124 ?_
            exact Or.inr (⟨rat_114, rtk_115, rpl_116, rva_117, (p_pl tp n aa95), z_119, cd_120, rfl, rfl, ⟨by rw [(p_inj ((p_One_pg (d := 3) ht40 hr95).symm.trans hr)).2.1], (p_inj ((p_One_pg (d := 3) ht40 hr95).symm.trans hr)).1, hf123, hf124⟩⟩)
        ·
          obtain ⟨rfl, rfl, hf129⟩ := h87
          show X 0 0 [(rta, .inl (cI, 160, .inl tp)), (rlw, .inr (2, [.ref lc, .ref lsk, .ref len9, .int (nI z)])), (lc, .inl (cI, 160, .inl cd)), (rd, .inr (4, [.ref rta, .int (nI n), .int (nI (p_nx tp n a)), .int (p_tk tp n a), .int (nI (p_pl tp n a)), .int v, .int (-1), .ref rlw]))] [(0, .ref rd), (1, .int 1)] 93 [.int 0]
          have ht40 : ¬ p_tk tp n a = 40 := fun e => hf129 ⟨rfl, e⟩
          refine x_if_eq C dX5_readOne_93 (tgt := 120) rfl (fun _ => ?_) (fun q9 => by first | exact absurd q9 (by decide) | exact absurd (by decide) q9)
          refine x_aload_n C dX5_readOne_120 0 rfl ?_
          have hfb9 : p_pl tp n a ≤ 160 := Nat.le_trans (p_pl_le ha) hn
          refine x_callV C (As := []) (st := []) (wc := [(rd, .inr (4, [.ref rta, .int (nI n), .int (nI (p_nx tp n a)), .int (p_tk tp n a), .int (nI (p_pl tp n a)), .int v, .int (-1), .ref rlw]))]) (wr := [(rta, .inl (cI, 160, .inl tp)), (rlw, .inr (2, [.ref lc, .ref lsk, .ref len9, .int (nI z)])), (lc, .inl (cI, 160, .inl cd))]) (c_X5_faultHere l dG cI cM cW cS rd rta rlw n tp (nI (p_nx tp n a)) (p_tk tp n a) (nI (p_pl tp n a)) v ) rZ0_ok (fun _ _ _ _ => trivial) kV_X5_51 ⟨rfl, hy_X5_faultHere⟩ ⟨Nat.le_of_ble_eq_true rfl, Nat.le_of_ble_eq_true rfl⟩ ⟨Nat.le_of_ble_eq_true rfl, Nat.le_of_ble_eq_true rfl⟩ dX5_readOne_121 3 rfl rfl [3] [0, 1, 2] rfl rfl rfl rfl (by decide) rfl (Nat.le_of_ble_eq_true rfl) ?_
          intro v130 w131 h132
          obtain ⟨rfl, rfl, hf133⟩ := h132
          show X 0 0 [(rta, .inl (cI, 160, .inl tp)), (rlw, .inr (2, [.ref lc, .ref lsk, .ref len9, .int (nI z)])), (lc, .inl (cI, 160, .inl cd)), (rd, .inr (4, [.ref rta, .int (nI n), .int (nI (p_nx tp n a)), .int (p_tk tp n a), .int (nI (p_pl tp n a)), .int v, .int (nI (p_pl tp n a)), .ref rlw]))] [(0, .ref rd), (1, .int 1)] 124 []
          refine x_sub C [3, 0, 1, 2] (ws' := [(rd, .inr (4, [.ref rta, .int (nI n), .int (nI (p_nx tp n a)), .int (p_tk tp n a), .int (nI (p_pl tp n a)), .int v, .int (nI (p_pl tp n a)), .ref rlw])), (rta, .inl (cI, 160, .inl tp)), (rlw, .inr (2, [.ref lc, .ref lsk, .ref len9, .int (nI z)])), (lc, .inl (cI, 160, .inl cd))]) rfl rfl ?_
          refine E dX5_readOne_124 ?_
          exact Or.inr (⟨(nI (p_nx tp n a)), (p_tk tp n a), (nI (p_pl tp n a)), v, (p_pl tp n a), z, cd, rfl, rfl, ⟨by rw [(p_inj ((p_One_x ht2 ht3 ht45 ht40).symm.trans hr)).2.1], (p_inj ((p_One_x ht2 ht3 ht45 ht40).symm.trans hr)).1, (show z ≤ 160 by omega), hfb9⟩⟩)
set_option maxHeartbeats 4000000 in
set_option maxRecDepth 100000 in
theorem c_X5_readTerm_4 (l : Launch) (dG : va_G) (cI cM cW cS : ClassId) (adK adV : Nat → Nat) (fm : Option Nat) (rd rta rlw n : Nat) (tp : Nat → Int32) (a : Nat) (v : Int32) (lc lsk len9 : Nat) (z : Nat) (cd : Nat → Int32) (ok : Bool) (a9 : Nat) (c : List Int32) (hn : n ≤ 160) (ha : a ≤ n) (hz : z ≤ a) (hv : (p_tk tp n a = 2 ∨ p_tk tp n a = 3 → v = p_vl tp n a)) (hr : p_Term tp n 4 a = (ok, a9, c)) : rM l yX5_readTerm cX5_readTerm 3 none ({ frames := 32, cells := 0, slots := 0, locals := 700 } : Room) dG (tY cI cM cW cS) (rZs adK adV fm) [.ref rd, .int 1] [(rd, .inr (4, [.ref rta, .int (nI n), .int (nI (p_nx tp n a)), .int (p_tk tp n a), .int (nI (p_pl tp n a)), .int v, .int (-1), .ref rlw])), (rta, .inl (cI, 160, .inl tp)), (rlw, .inr (2, [.ref lc, .ref lsk, .ref len9, .int (nI z)])), (lc, .inl (cI, 160, .inl cd))] (fun ov oz => (∃ (a' : Nat) (z' : Nat) (v' : Int32) (cd' : Nat → Int32), ov = none ∧ oz = [(rd, .inr (4, [.ref rta, .int (nI n), .int (nI (p_nx tp n a')), .int (p_tk tp n a'), .int (nI (p_pl tp n a')), .int v', .int (-1), .ref rlw])), (rta, .inl (cI, 160, .inl tp)), (rlw, .inr (2, [.ref lc, .ref lsk, .ref len9, .int (nI z')])), (lc, .inl (cI, 160, .inl cd'))] ∧ a9 = a' ∧ z' = z + c.length ∧ ok = true ∧ (p_tk tp n a' = 2 ∨ p_tk tp n a' = 3 → v' = p_vl tp n a') ∧ (∀ j, cd' j = p_app cd z c j)) ∨ (∃ (rat' : Int32) (rtk' : Int32) (rpl' : Int32) (rva' : Int32) (f' : Nat) (z' : Nat) (cd' : Nat → Int32), ov = none ∧ oz = [(rd, .inr (4, [.ref rta, .int (nI n), .int rat', .int rtk', .int rpl', .int rva', .int (nI f'), .ref rlw])), (rta, .inl (cI, 160, .inl tp)), (rlw, .inr (2, [.ref lc, .ref lsk, .ref len9, .int (nI z')])), (lc, .inl (cI, 160, .inl cd'))] ∧ f' = p_pl tp n a9 ∧ ok = false ∧ z' ≤ 160 ∧ f' ≤ 160)) := by
  refine rM_ofV false (by intro h; cases h) rfl (Nat.le_of_ble_eq_true rfl) rfl (fun X C E => ?_)
  show X 0 0 [(rd, .inr (4, [.ref rta, .int (nI n), .int (nI (p_nx tp n a)), .int (p_tk tp n a), .int (nI (p_pl tp n a)), .int v, .int (-1), .ref rlw])), (rta, .inl (cI, 160, .inl tp)), (rlw, .inr (2, [.ref lc, .ref lsk, .ref len9, .int (nI z)])), (lc, .inl (cI, 160, .inl cd))] [(0, .ref rd), (1, .int 1)] 0 []
  have hpl0 := p_pl_le (tp := tp) ha
  have hpl1 := p_pl_ge (tp := tp) (n := n) (a := a)
  refine x_aload_n C dX5_readTerm_0 0 rfl ?_
  refine x_iload_n C dX5_readTerm_1 1 rfl ?_
  obtain ⟨⟨ok1, aa1, cc1⟩, hr1⟩ : ∃ r, p_One tp n 4 a = r := ⟨_, rfl⟩
  obtain ⟨ga1, gb1, gc1⟩ := p_One_good 4 _ _ _ _ (show a ≤ n by omega) hr1
  refine x_callV C (As := [.int 1]) (st := []) (wc := [(rd, .inr (4, [.ref rta, .int (nI n), .int (nI (p_nx tp n a)), .int (p_tk tp n a), .int (nI (p_pl tp n a)), .int v, .int (-1), .ref rlw])), (rta, .inl (cI, 160, .inl tp)), (rlw, .inr (2, [.ref lc, .ref lsk, .ref len9, .int (nI z)])), (lc, .inl (cI, 160, .inl cd))]) (wr := []) (c_X5_readOne_4 l dG cI cM cW cS adK adV fm rd rta rlw n tp a v lc lsk len9 z cd ok1 aa1 cc1 (by first | assumption | omega | decide) (by first | assumption | omega | decide) (by first | assumption | omega | decide) (hv) (hr1)) (rZs_ok adK adV fm) (fun _ _ _ h9 => h9) kV_X5_75 ⟨rfl, hy_X5_readOne⟩ ⟨Nat.le_of_ble_eq_true rfl, Nat.le_of_ble_eq_true rfl⟩ ⟨Nat.le_of_ble_eq_true rfl, Nat.le_of_ble_eq_true rfl⟩ dX5_readTerm_2 0 rfl rfl [0, 1, 2, 3] [] rfl rfl rfl rfl (by decide) rfl (Nat.le_of_ble_eq_true rfl) ?_
  intro v2 w3 h4
  rcases h4 with h4 | h4
  ·
    obtain ⟨_, _, v_7, cd_8, rfl, rfl, ⟨rfl, rfl, hf10, hf11, hf12⟩⟩ := h4
    show X 0 0 [(rd, .inr (4, [.ref rta, .int (nI n), .int (nI (p_nx tp n aa1)), .int (p_tk tp n aa1), .int (nI (p_pl tp n aa1)), .int v_7, .int (-1), .ref rlw])), (rta, .inl (cI, 160, .inl tp)), (rlw, .inr (2, [.ref lc, .ref lsk, .ref len9, .int (nI (z + cc1.length))])), (lc, .inl (cI, 160, .inl cd_8))] [(0, .ref rd), (1, .int 1)] 5 []
    subst hf10
    obtain ⟨gt1, gl1, gd1⟩ := gc1 rfl
    have hl0 : p_loop tp n (p_One tp n 4) p_fT 160 (true, aa1, cc1) = (ok, a9, c) := (p_rep_1 hr1).symm.trans hr
    refine x_iconst C dX5_readTerm_5 (v := 0) rfl ?_
    refine x_istore_n C dX5_readTerm_6 (by decide) (lv' := [(2, .int 0), (0, .ref rd), (1, .int 1)]) rfl ?_
    have L7_12 : ∀ (fuel : Nat) (k a1 z1 : Nat) (v1 : Int32) (c1 : List Int32) (cd1 : Nat → Int32), (hk : k ≤ 160) → (ha1 : a1 ≤ n) → (hz1 : z1 = z + c1.length) → (hza : z1 ≤ a1) → (hv1 : (p_tk tp n a1 = 2 ∨ p_tk tp n a1 = 3 → v1 = p_vl tp n a1)) → (hcd1 : ∀ j, cd1 j = p_app cd z c1 j) → (hl : p_loop tp n (p_One tp n 4) p_fT (160 - k) (true, a1, c1) = (ok, a9, c)) → 160 - k < fuel → X 0 0 [(rd, .inr (4, [.ref rta, .int (nI n), .int (nI (p_nx tp n a1)), .int (p_tk tp n a1), .int (nI (p_pl tp n a1)), .int v1, .int (-1), .ref rlw])), (rta, .inl (cI, 160, .inl tp)), (rlw, .inr (2, [.ref lc, .ref lsk, .ref len9, .int (nI z1)])), (lc, .inl (cI, 160, .inl cd1))] [(2, .int (nI k)), (1, .int 1), (0, .ref rd)] 7 [] := by
      intro fuel
      induction fuel with
      | zero => intros; omega
      | succ fuel ihL7_12 =>
        intro k a1 z1 v1 c1 cd1 hk ha1 hz1 hza hv1 hcd1 hl hfu
        refine x_iload_n C dX5_readTerm_7 0 rfl ?_
        refine x_sipush C dX5_readTerm_8 (v := 160) rfl ?_
        refine x_icmp_ge C dX5_readTerm_11 (tgt := 47) rfl (fun c14 => ?_) (fun c14 => ?_)
        ·
          have c14 := q_ge_t (a := k) (b := 160) rfl rfl (by omega) (by omega) c14
          have hlz : (true, a1, c1) = (ok, a9, c) := by have h9 := hl; rw [show 160 - k = 0 by omega] at h9; exact h9
          refine E dX5_readTerm_47 ?_
          exact Or.inl ⟨a1, z1, v1, cd1, rfl, rfl, ⟨(p_inj hlz).2.1, p_len (p_inj hlz).2.2 (by first | rfl | assumption | (simp only [List.length_append, List.length_singleton]; omega)), (p_inj hlz).1, hv1, fun j => by rw [(p_inj hlz).2.2]; exact hcd1 j⟩⟩
        ·
          have c14 := q_ge_f (a := k) (b := 160) rfl rfl (by omega) (by omega) c14
          refine x_aload_n C dX5_readTerm_14 2 rfl ?_
          refine x_bipush C dX5_readTerm_15 (v := 42) rfl ?_
          refine x_callV C (As := [.int 42]) (st := []) (wc := [(rd, .inr (4, [.ref rta, .int (nI n), .int (nI (p_nx tp n a1)), .int (p_tk tp n a1), .int (nI (p_pl tp n a1)), .int v1, .int (-1), .ref rlw]))]) (wr := [(rta, .inl (cI, 160, .inl tp)), (rlw, .inr (2, [.ref lc, .ref lsk, .ref len9, .int (nI z1)])), (lc, .inl (cI, 160, .inl cd1))]) (c_X5_has l dG cI cM cW cS rd rta rlw n tp (nI (p_nx tp n a1)) (p_tk tp n a1) (nI (p_pl tp n a1)) v1 (-1) 42 ) rZ0_ok (fun _ _ _ _ => trivial) kV_X5_47 ⟨rfl, hy_X5_has⟩ ⟨Nat.le_of_ble_eq_true rfl, Nat.le_of_ble_eq_true rfl⟩ ⟨Nat.le_of_ble_eq_true rfl, Nat.le_of_ble_eq_true rfl⟩ dX5_readTerm_17 0 rfl rfl [0] [1, 2, 3] rfl rfl rfl rfl (by decide) rfl (Nat.le_of_ble_eq_true rfl) ?_
          intro v15 w16 h17
          rcases h17 with h17 | h17
          ·
            obtain ⟨rfl, rfl, hf18⟩ := h17
            show X 0 0 [(rta, .inl (cI, 160, .inl tp)), (rlw, .inr (2, [.ref lc, .ref lsk, .ref len9, .int (nI z1)])), (lc, .inl (cI, 160, .inl cd1)), (rd, .inr (4, [.ref rta, .int (nI n), .int (nI (p_nx tp n a1)), .int (p_tk tp n a1), .int (nI (p_pl tp n a1)), .int v1, .int (-1), .ref rlw]))] [(2, .int (nI k)), (1, .int 1), (0, .ref rd)] 20 [.int 1]
            have ht42 : p_tk tp n a1 = 42 := hf18.2
            have hfop : p_fT (p_tk tp n a1) = -11 := by rw [ht42]; decide
            refine x_if_eq C dX5_readTerm_20 (tgt := 47) rfl (fun q9 => absurd q9 (by decide)) (fun _ => ?_)
            refine x_aload_n C dX5_readTerm_23 2 rfl ?_
            have hx19 : p_nx tp n a1 ≤ n := p_nx_le (by omega)
            have hx19g : a1 < p_nx tp n a1 := p_nx_gt2 (by rw [ht42]; decide)
            refine x_callV C (As := []) (st := []) (wc := [(rd, .inr (4, [.ref rta, .int (nI n), .int (nI (p_nx tp n a1)), .int (p_tk tp n a1), .int (nI (p_pl tp n a1)), .int v1, .int (-1), .ref rlw])), (rta, .inl (cI, 160, .inl tp))]) (wr := [(rlw, .inr (2, [.ref lc, .ref lsk, .ref len9, .int (nI z1)])), (lc, .inl (cI, 160, .inl cd1))]) (c_X5_advance l dG cI cM cW cS adK adV fm rd rta rlw n tp (p_nx tp n a1) (p_tk tp n a1) (nI (p_pl tp n a1)) v1 (-1) (hx19) (by first | assumption | omega | decide)) (rZs_ok adK adV fm) (fun _ _ _ h9 => h9) kV_X5_34 ⟨rfl, hy_X5_advance⟩ ⟨Nat.le_of_ble_eq_true rfl, Nat.le_of_ble_eq_true rfl⟩ ⟨Nat.le_of_ble_eq_true rfl, Nat.le_of_ble_eq_true rfl⟩ dX5_readTerm_24 3 rfl rfl [3, 0] [1, 2] rfl rfl rfl rfl (by decide) rfl (Nat.le_of_ble_eq_true rfl) ?_
            intro v20 w21 h22
            obtain ⟨_, _, _, v_26, rfl, rfl, ⟨rfl, rfl, rfl, hf28⟩⟩ := h22
            show X 0 0 [(rlw, .inr (2, [.ref lc, .ref lsk, .ref len9, .int (nI z1)])), (lc, .inl (cI, 160, .inl cd1)), (rd, .inr (4, [.ref rta, .int (nI n), .int (nI (p_nx tp n (p_nx tp n a1))), .int (p_tk tp n (p_nx tp n a1)), .int (nI (p_pl tp n (p_nx tp n a1))), .int v_26, .int (-1), .ref rlw])), (rta, .inl (cI, 160, .inl tp))] [(2, .int (nI k)), (1, .int 1), (0, .ref rd)] 27 []
            refine x_aload_n C dX5_readTerm_27 2 rfl ?_
            refine x_iload_n C dX5_readTerm_28 1 rfl ?_
            obtain ⟨⟨ok29, aa29, cc29⟩, hr29⟩ : ∃ r, p_One tp n 4 (p_nx tp n a1) = r := ⟨_, rfl⟩
            obtain ⟨ga29, gb29, gc29⟩ := p_One_good 4 _ _ _ _ (show p_nx tp n a1 ≤ n by omega) hr29
            refine x_callV C (As := [.int 1]) (st := []) (wc := [(rd, .inr (4, [.ref rta, .int (nI n), .int (nI (p_nx tp n (p_nx tp n a1))), .int (p_tk tp n (p_nx tp n a1)), .int (nI (p_pl tp n (p_nx tp n a1))), .int v_26, .int (-1), .ref rlw])), (rta, .inl (cI, 160, .inl tp)), (rlw, .inr (2, [.ref lc, .ref lsk, .ref len9, .int (nI z1)])), (lc, .inl (cI, 160, .inl cd1))]) (wr := []) (c_X5_readOne_4 l dG cI cM cW cS adK adV fm rd rta rlw n tp (p_nx tp n a1) v_26 lc lsk len9 z1 cd1 ok29 aa29 cc29 (by first | assumption | omega | decide) (by first | assumption | omega | decide) (by first | assumption | omega | decide) (hf28) (hr29)) (rZs_ok adK adV fm) (fun _ _ _ h9 => h9) kV_X5_75 ⟨rfl, hy_X5_readOne⟩ ⟨Nat.le_of_ble_eq_true rfl, Nat.le_of_ble_eq_true rfl⟩ ⟨Nat.le_of_ble_eq_true rfl, Nat.le_of_ble_eq_true rfl⟩ dX5_readTerm_29 2 rfl rfl [2, 3, 0, 1] [] rfl rfl rfl rfl (by decide) rfl (Nat.le_of_ble_eq_true rfl) ?_
            intro v30 w31 h32
            rcases h32 with h32 | h32
            ·
              obtain ⟨_, _, v_35, cd_36, rfl, rfl, ⟨rfl, rfl, hf38, hf39, hf40⟩⟩ := h32
              show X 0 0 [(rd, .inr (4, [.ref rta, .int (nI n), .int (nI (p_nx tp n aa29)), .int (p_tk tp n aa29), .int (nI (p_pl tp n aa29)), .int v_35, .int (-1), .ref rlw])), (rta, .inl (cI, 160, .inl tp)), (rlw, .inr (2, [.ref lc, .ref lsk, .ref len9, .int (nI (z1 + cc29.length))])), (lc, .inl (cI, 160, .inl cd_36))] [(2, .int (nI k)), (1, .int 1), (0, .ref rd)] 32 []
              subst hf38
              obtain ⟨gt29, gl29, gd29⟩ := gc29 rfl
              have hl2 := hl
              rw [show 160 - k = 160 - (k + 1) + 1 by omega, p_loop_s (f := p_fT) (by rw [hfop]; decide) hr29, hfop] at hl2
              refine x_aload_n C dX5_readTerm_32 2 rfl ?_
              refine x_get C inlX5 rfl 7 (by decide) gw_6_23 dX5_readTerm_33 0 rfl rfl ?_
              refine x_bipush C dX5_readTerm_36 (v := (-11)) rfl ?_
              refine x_callV C (As := [.int (-11)]) (st := []) (wc := [(rlw, .inr (2, [.ref lc, .ref lsk, .ref len9, .int (nI (z1 + cc29.length))])), (lc, .inl (cI, 160, .inl cd_36))]) (wr := [(rd, .inr (4, [.ref rta, .int (nI n), .int (nI (p_nx tp n aa29)), .int (p_tk tp n aa29), .int (nI (p_pl tp n aa29)), .int v_35, .int (-1), .ref rlw])), (rta, .inl (cI, 160, .inl tp))]) (c_X3_add l dG cI cM cW cS rlw lc lsk len9 (z1 + cc29.length) cd_36 (-11) (by omega)) rZ0_ok (fun _ _ _ _ => trivial) kV_X5_57 ⟨rfl, hy_X3_add⟩ ⟨Nat.le_of_ble_eq_true rfl, Nat.le_of_ble_eq_true rfl⟩ ⟨Nat.le_of_ble_eq_true rfl, Nat.le_of_ble_eq_true rfl⟩ dX5_readTerm_38 2 rfl rfl [2, 3] [0, 1] rfl rfl rfl rfl (by decide) rfl (Nat.le_of_ble_eq_true rfl) ?_
              intro v41 w42 h43
              obtain ⟨rfl, rfl, hf44⟩ := h43
              show X 0 0 [(rd, .inr (4, [.ref rta, .int (nI n), .int (nI (p_nx tp n aa29)), .int (p_tk tp n aa29), .int (nI (p_pl tp n aa29)), .int v_35, .int (-1), .ref rlw])), (rta, .inl (cI, 160, .inl tp)), (rlw, .inr (2, [.ref lc, .ref lsk, .ref len9, .int (nI ((z1 + cc29.length) + 1))])), (lc, .inl (cI, 160, .inl (upd cd_36 (z1 + cc29.length) (-11))))] [(2, .int (nI k)), (1, .int 1), (0, .ref rd)] 41 []
              refine x_iinc C dX5_readTerm_41 0 rfl (v := nI (k + 1)) (nI_1 _) (by decide) (lv' := [(2, .int (nI (k + 1))), (1, .int 1), (0, .ref rd)]) rfl ?_
              refine x_goto C dX5_readTerm_44 (tgt := 7) rfl ?_
              exact ihL7_12 (k + 1) aa29 ((z1 + cc29.length) + 1) v_35 (c1 ++ cc29 ++ [-11]) (upd cd_36 (z1 + cc29.length) (-11)) (by omega) (by omega) (by simp only [List.length_append, List.length_singleton]; omega) (by omega) (hf39) (p_app_s (p_app_2 hcd1 hf40 hz1) (by simp only [List.length_append]; omega)) (hl2) (by omega)
            ·
              obtain ⟨rat_45, rtk_46, rpl_47, rva_48, _, z_50, cd_51, rfl, rfl, ⟨rfl, hf53, hf54, hf55⟩⟩ := h32
              show X 0 0 [(rd, .inr (4, [.ref rta, .int (nI n), .int rat_45, .int rtk_46, .int rpl_47, .int rva_48, .int (nI (p_pl tp n aa29)), .ref rlw])), (rta, .inl (cI, 160, .inl tp)), (rlw, .inr (2, [.ref lc, .ref lsk, .ref len9, .int (nI z_50)])), (lc, .inl (cI, 160, .inl cd_51))] [(2, .int (nI k)), (1, .int 1), (0, .ref rd)] 32 []
              subst hf53
              have hl2 := hl
              rw [show 160 - k = 160 - (k + 1) + 1 by omega, p_loop_s (f := p_fT) (by rw [hfop]; decide) hr29, hfop] at hl2
              refine x_aload_n C dX5_readTerm_32 2 rfl ?_
              refine x_get C inlX5 rfl 7 (by decide) gw_6_23 dX5_readTerm_33 0 rfl rfl ?_
              refine x_bipush C dX5_readTerm_36 (v := (-11)) rfl ?_
              refine x_callV C (As := [.int (-11)]) (st := []) (wc := [(rlw, .inr (2, [.ref lc, .ref lsk, .ref len9, .int (nI z_50)])), (lc, .inl (cI, 160, .inl cd_51))]) (wr := [(rd, .inr (4, [.ref rta, .int (nI n), .int rat_45, .int rtk_46, .int rpl_47, .int rva_48, .int (nI (p_pl tp n aa29)), .ref rlw])), (rta, .inl (cI, 160, .inl tp))]) (c_X3_add_f l dG cI cM cW cS rlw lc lsk len9 z_50 cd_51 (-11) (hf54)) rZ0_ok (fun _ _ _ _ => trivial) kV_X5_57 ⟨rfl, hy_X3_add⟩ ⟨Nat.le_of_ble_eq_true rfl, Nat.le_of_ble_eq_true rfl⟩ ⟨Nat.le_of_ble_eq_true rfl, Nat.le_of_ble_eq_true rfl⟩ dX5_readTerm_38 2 rfl rfl [2, 3] [0, 1] rfl rfl rfl rfl (by decide) rfl (Nat.le_of_ble_eq_true rfl) ?_
              intro v56 w57 h58
              obtain ⟨z_59, cd_60, rfl, rfl, hf61⟩ := h58
              show X 0 0 [(rd, .inr (4, [.ref rta, .int (nI n), .int rat_45, .int rtk_46, .int rpl_47, .int rva_48, .int (nI (p_pl tp n aa29)), .ref rlw])), (rta, .inl (cI, 160, .inl tp)), (rlw, .inr (2, [.ref lc, .ref lsk, .ref len9, .int (nI z_59)])), (lc, .inl (cI, 160, .inl cd_60))] [(2, .int (nI k)), (1, .int 1), (0, .ref rd)] 41 []
              refine x_iinc C dX5_readTerm_41 0 rfl (v := nI (k + 1)) (nI_1 _) (by decide) (lv' := [(2, .int (nI (k + 1))), (1, .int 1), (0, .ref rd)]) rfl ?_
              refine x_goto C dX5_readTerm_44 (tgt := 7) rfl ?_
              refine x_iload_n C dX5_readTerm_7 0 rfl ?_
              refine x_sipush C dX5_readTerm_8 (v := 160) rfl ?_
              refine x_icmp_ge C dX5_readTerm_11 (tgt := 47) rfl (fun c62 => ?_) (fun c62 => ?_)
              ·
                have c62 := q_ge_t (a := k + 1) (b := 160) rfl rfl (by omega) (by omega) c62
                refine E dX5_readTerm_47 ?_
                exact Or.inr (⟨rat_45, rtk_46, rpl_47, rva_48, (p_pl tp n aa29), z_59, cd_60, rfl, rfl, ⟨by rw [(p_inj (p_loop_f.symm.trans hl2)).2.1], (p_inj (p_loop_f.symm.trans hl2)).1, hf61, hf55⟩⟩)
              ·
                have c62 := q_ge_f (a := k + 1) (b := 160) rfl rfl (by omega) (by omega) c62
                refine x_aload_n C dX5_readTerm_14 2 rfl ?_
                refine x_bipush C dX5_readTerm_15 (v := 42) rfl ?_
                refine x_callV C (As := [.int 42]) (st := []) (wc := [(rd, .inr (4, [.ref rta, .int (nI n), .int rat_45, .int rtk_46, .int rpl_47, .int rva_48, .int (nI (p_pl tp n aa29)), .ref rlw]))]) (wr := [(rta, .inl (cI, 160, .inl tp)), (rlw, .inr (2, [.ref lc, .ref lsk, .ref len9, .int (nI z_59)])), (lc, .inl (cI, 160, .inl cd_60))]) (c_X5_has l dG cI cM cW cS rd rta rlw n tp rat_45 rtk_46 rpl_47 rva_48 (nI (p_pl tp n aa29)) 42 ) rZ0_ok (fun _ _ _ _ => trivial) kV_X5_47 ⟨rfl, hy_X5_has⟩ ⟨Nat.le_of_ble_eq_true rfl, Nat.le_of_ble_eq_true rfl⟩ ⟨Nat.le_of_ble_eq_true rfl, Nat.le_of_ble_eq_true rfl⟩ dX5_readTerm_17 0 rfl rfl [0] [1, 2, 3] rfl rfl rfl rfl (by decide) rfl (Nat.le_of_ble_eq_true rfl) ?_
                intro v63 w64 h65
                rcases h65 with h65 | h65
                ·
                  obtain ⟨rfl, rfl, hf66⟩ := h65
                  show X 0 0 [(rta, .inl (cI, 160, .inl tp)), (rlw, .inr (2, [.ref lc, .ref lsk, .ref len9, .int (nI z_59)])), (lc, .inl (cI, 160, .inl cd_60)), (rd, .inr (4, [.ref rta, .int (nI n), .int rat_45, .int rtk_46, .int rpl_47, .int rva_48, .int (nI (p_pl tp n aa29)), .ref rlw]))] [(2, .int (nI (k + 1))), (1, .int 1), (0, .ref rd)] 20 [.int 1]
                  exact absurd hf66.1 (nI_nm1 (by omega))
                ·
                  obtain ⟨rfl, rfl, hf67⟩ := h65
                  show X 0 0 [(rta, .inl (cI, 160, .inl tp)), (rlw, .inr (2, [.ref lc, .ref lsk, .ref len9, .int (nI z_59)])), (lc, .inl (cI, 160, .inl cd_60)), (rd, .inr (4, [.ref rta, .int (nI n), .int rat_45, .int rtk_46, .int rpl_47, .int rva_48, .int (nI (p_pl tp n aa29)), .ref rlw]))] [(2, .int (nI (k + 1))), (1, .int 1), (0, .ref rd)] 20 [.int 0]
                  refine x_if_eq C dX5_readTerm_20 (tgt := 47) rfl (fun _ => ?_) (fun q9 => by first | exact absurd q9 (by decide) | exact absurd (by decide) q9)
                  refine x_sub C [3, 0, 1, 2] (ws' := [(rd, .inr (4, [.ref rta, .int (nI n), .int rat_45, .int rtk_46, .int rpl_47, .int rva_48, .int (nI (p_pl tp n aa29)), .ref rlw])), (rta, .inl (cI, 160, .inl tp)), (rlw, .inr (2, [.ref lc, .ref lsk, .ref len9, .int (nI z_59)])), (lc, .inl (cI, 160, .inl cd_60))]) rfl rfl ?_
                  refine E dX5_readTerm_47 ?_
                  exact Or.inr (⟨rat_45, rtk_46, rpl_47, rva_48, (p_pl tp n aa29), z_59, cd_60, rfl, rfl, ⟨by rw [(p_inj (p_loop_f.symm.trans hl2)).2.1], (p_inj (p_loop_f.symm.trans hl2)).1, hf61, hf55⟩⟩)
          ·
            obtain ⟨rfl, rfl, hf68⟩ := h17
            show X 0 0 [(rta, .inl (cI, 160, .inl tp)), (rlw, .inr (2, [.ref lc, .ref lsk, .ref len9, .int (nI z1)])), (lc, .inl (cI, 160, .inl cd1)), (rd, .inr (4, [.ref rta, .int (nI n), .int (nI (p_nx tp n a1)), .int (p_tk tp n a1), .int (nI (p_pl tp n a1)), .int v1, .int (-1), .ref rlw]))] [(2, .int (nI k)), (1, .int 1), (0, .ref rd)] 20 [.int 0]
            have ht42 : ¬ p_tk tp n a1 = 42 := fun e => hf68 ⟨rfl, e⟩
            have hf0 : p_fT (p_tk tp n a1) = 0 := if_neg ht42
            refine x_if_eq C dX5_readTerm_20 (tgt := 47) rfl (fun _ => ?_) (fun q9 => by first | exact absurd q9 (by decide) | exact absurd (by decide) q9)
            refine x_sub C [3, 0, 1, 2] (ws' := [(rd, .inr (4, [.ref rta, .int (nI n), .int (nI (p_nx tp n a1)), .int (p_tk tp n a1), .int (nI (p_pl tp n a1)), .int v1, .int (-1), .ref rlw])), (rta, .inl (cI, 160, .inl tp)), (rlw, .inr (2, [.ref lc, .ref lsk, .ref len9, .int (nI z1)])), (lc, .inl (cI, 160, .inl cd1))]) rfl rfl ?_
            refine E dX5_readTerm_47 ?_
            exact Or.inl ⟨a1, z1, v1, cd1, rfl, rfl, ⟨(p_inj ((p_loop_x hf0).symm.trans hl)).2.1, p_len (p_inj ((p_loop_x hf0).symm.trans hl)).2.2 (by first | rfl | assumption | (simp only [List.length_append, List.length_singleton]; omega)), (p_inj ((p_loop_x hf0).symm.trans hl)).1, hv1, fun j => by rw [(p_inj ((p_loop_x hf0).symm.trans hl)).2.2]; exact hcd1 j⟩⟩
    refine x_lv C [0, 2, 1] (lv' := [(2, .int 0), (1, .int 1), (0, .ref rd)]) rfl ?_
    show X 0 0 [(rd, .inr (4, [.ref rta, .int (nI n), .int (nI (p_nx tp n aa1)), .int (p_tk tp n aa1), .int (nI (p_pl tp n aa1)), .int v_7, .int (-1), .ref rlw])), (rta, .inl (cI, 160, .inl tp)), (rlw, .inr (2, [.ref lc, .ref lsk, .ref len9, .int (nI (z + cc1.length))])), (lc, .inl (cI, 160, .inl cd_8))] [(2, .int (nI 0)), (1, .int 1), (0, .ref rd)] 7 []
    exact L7_12 ((160 - 0) + 1) 0 aa1 (z + cc1.length) v_7 cc1 cd_8 (by decide) (by omega) (rfl) (by omega) (hf11) (hf12) (hl0) (Nat.lt_succ_self _)
  ·
    obtain ⟨rat_69, rtk_70, rpl_71, rva_72, _, z_74, cd_75, rfl, rfl, ⟨rfl, hf77, hf78, hf79⟩⟩ := h4
    show X 0 0 [(rd, .inr (4, [.ref rta, .int (nI n), .int rat_69, .int rtk_70, .int rpl_71, .int rva_72, .int (nI (p_pl tp n aa1)), .ref rlw])), (rta, .inl (cI, 160, .inl tp)), (rlw, .inr (2, [.ref lc, .ref lsk, .ref len9, .int (nI z_74)])), (lc, .inl (cI, 160, .inl cd_75))] [(0, .ref rd), (1, .int 1)] 5 []
    subst hf77
    have hl0 : p_loop tp n (p_One tp n 4) p_fT 160 (false, aa1, cc1) = (ok, a9, c) := (p_rep_1 hr1).symm.trans hr
    refine x_iconst C dX5_readTerm_5 (v := 0) rfl ?_
    refine x_istore_n C dX5_readTerm_6 (by decide) (lv' := [(2, .int 0), (0, .ref rd), (1, .int 1)]) rfl ?_
    refine x_iload_n C dX5_readTerm_7 0 rfl ?_
    refine x_sipush C dX5_readTerm_8 (v := 160) rfl ?_
    refine x_icmp_ge C dX5_readTerm_11 (tgt := 47) rfl (fun q9 => absurd q9 (by decide)) (fun _ => ?_)
    refine x_aload_n C dX5_readTerm_14 1 rfl ?_
    refine x_bipush C dX5_readTerm_15 (v := 42) rfl ?_
    refine x_callV C (As := [.int 42]) (st := []) (wc := [(rd, .inr (4, [.ref rta, .int (nI n), .int rat_69, .int rtk_70, .int rpl_71, .int rva_72, .int (nI (p_pl tp n aa1)), .ref rlw]))]) (wr := [(rta, .inl (cI, 160, .inl tp)), (rlw, .inr (2, [.ref lc, .ref lsk, .ref len9, .int (nI z_74)])), (lc, .inl (cI, 160, .inl cd_75))]) (c_X5_has l dG cI cM cW cS rd rta rlw n tp rat_69 rtk_70 rpl_71 rva_72 (nI (p_pl tp n aa1)) 42 ) rZ0_ok (fun _ _ _ _ => trivial) kV_X5_47 ⟨rfl, hy_X5_has⟩ ⟨Nat.le_of_ble_eq_true rfl, Nat.le_of_ble_eq_true rfl⟩ ⟨Nat.le_of_ble_eq_true rfl, Nat.le_of_ble_eq_true rfl⟩ dX5_readTerm_17 0 rfl rfl [0] [1, 2, 3] rfl rfl rfl rfl (by decide) rfl (Nat.le_of_ble_eq_true rfl) ?_
    intro v80 w81 h82
    rcases h82 with h82 | h82
    ·
      obtain ⟨rfl, rfl, hf83⟩ := h82
      show X 0 0 [(rta, .inl (cI, 160, .inl tp)), (rlw, .inr (2, [.ref lc, .ref lsk, .ref len9, .int (nI z_74)])), (lc, .inl (cI, 160, .inl cd_75)), (rd, .inr (4, [.ref rta, .int (nI n), .int rat_69, .int rtk_70, .int rpl_71, .int rva_72, .int (nI (p_pl tp n aa1)), .ref rlw]))] [(2, .int 0), (0, .ref rd), (1, .int 1)] 20 [.int 1]
      exact absurd hf83.1 (nI_nm1 (by omega))
    ·
      obtain ⟨rfl, rfl, hf84⟩ := h82
      show X 0 0 [(rta, .inl (cI, 160, .inl tp)), (rlw, .inr (2, [.ref lc, .ref lsk, .ref len9, .int (nI z_74)])), (lc, .inl (cI, 160, .inl cd_75)), (rd, .inr (4, [.ref rta, .int (nI n), .int rat_69, .int rtk_70, .int rpl_71, .int rva_72, .int (nI (p_pl tp n aa1)), .ref rlw]))] [(2, .int 0), (0, .ref rd), (1, .int 1)] 20 [.int 0]
      refine x_if_eq C dX5_readTerm_20 (tgt := 47) rfl (fun _ => ?_) (fun q9 => by first | exact absurd q9 (by decide) | exact absurd (by decide) q9)
      refine x_sub C [3, 0, 1, 2] (ws' := [(rd, .inr (4, [.ref rta, .int (nI n), .int rat_69, .int rtk_70, .int rpl_71, .int rva_72, .int (nI (p_pl tp n aa1)), .ref rlw])), (rta, .inl (cI, 160, .inl tp)), (rlw, .inr (2, [.ref lc, .ref lsk, .ref len9, .int (nI z_74)])), (lc, .inl (cI, 160, .inl cd_75))]) rfl rfl ?_
      refine E dX5_readTerm_47 ?_
      exact Or.inr (⟨rat_69, rtk_70, rpl_71, rva_72, (p_pl tp n aa1), z_74, cd_75, rfl, rfl, ⟨by rw [(p_inj (p_loop_f.symm.trans hl0)).2.1], (p_inj (p_loop_f.symm.trans hl0)).1, hf78, hf79⟩⟩)
set_option maxHeartbeats 4000000 in
set_option maxRecDepth 100000 in
theorem c_X5_readSum_4 (l : Launch) (dG : va_G) (cI cM cW cS : ClassId) (adK adV : Nat → Nat) (fm : Option Nat) (rd rta rlw n : Nat) (tp : Nat → Int32) (a : Nat) (v : Int32) (lc lsk len9 : Nat) (z : Nat) (cd : Nat → Int32) (ok : Bool) (a9 : Nat) (c : List Int32) (hn : n ≤ 160) (ha : a ≤ n) (hz : z ≤ a) (hv : (p_tk tp n a = 2 ∨ p_tk tp n a = 3 → v = p_vl tp n a)) (hr : p_Sum tp n 4 a = (ok, a9, c)) : rM l yX5_readSum cX5_readSum 4 none ({ frames := 33, cells := 0, slots := 0, locals := 722 } : Room) dG (tY cI cM cW cS) (rZs adK adV fm) [.ref rd, .int 1] [(rd, .inr (4, [.ref rta, .int (nI n), .int (nI (p_nx tp n a)), .int (p_tk tp n a), .int (nI (p_pl tp n a)), .int v, .int (-1), .ref rlw])), (rta, .inl (cI, 160, .inl tp)), (rlw, .inr (2, [.ref lc, .ref lsk, .ref len9, .int (nI z)])), (lc, .inl (cI, 160, .inl cd))] (fun ov oz => (∃ (a' : Nat) (z' : Nat) (v' : Int32) (cd' : Nat → Int32), ov = none ∧ oz = [(rd, .inr (4, [.ref rta, .int (nI n), .int (nI (p_nx tp n a')), .int (p_tk tp n a'), .int (nI (p_pl tp n a')), .int v', .int (-1), .ref rlw])), (rta, .inl (cI, 160, .inl tp)), (rlw, .inr (2, [.ref lc, .ref lsk, .ref len9, .int (nI z')])), (lc, .inl (cI, 160, .inl cd'))] ∧ a9 = a' ∧ z' = z + c.length ∧ ok = true ∧ (p_tk tp n a' = 2 ∨ p_tk tp n a' = 3 → v' = p_vl tp n a') ∧ (∀ j, cd' j = p_app cd z c j)) ∨ (∃ (rat' : Int32) (rtk' : Int32) (rpl' : Int32) (rva' : Int32) (f' : Nat) (z' : Nat) (cd' : Nat → Int32), ov = none ∧ oz = [(rd, .inr (4, [.ref rta, .int (nI n), .int rat', .int rtk', .int rpl', .int rva', .int (nI f'), .ref rlw])), (rta, .inl (cI, 160, .inl tp)), (rlw, .inr (2, [.ref lc, .ref lsk, .ref len9, .int (nI z')])), (lc, .inl (cI, 160, .inl cd'))] ∧ f' = p_pl tp n a9 ∧ ok = false ∧ z' ≤ 160 ∧ f' ≤ 160)) := by
  refine rM_ofV false (by intro h; cases h) rfl (Nat.le_of_ble_eq_true rfl) rfl (fun X C E => ?_)
  show X 0 0 [(rd, .inr (4, [.ref rta, .int (nI n), .int (nI (p_nx tp n a)), .int (p_tk tp n a), .int (nI (p_pl tp n a)), .int v, .int (-1), .ref rlw])), (rta, .inl (cI, 160, .inl tp)), (rlw, .inr (2, [.ref lc, .ref lsk, .ref len9, .int (nI z)])), (lc, .inl (cI, 160, .inl cd))] [(0, .ref rd), (1, .int 1)] 0 []
  have hpl0 := p_pl_le (tp := tp) ha
  have hpl1 := p_pl_ge (tp := tp) (n := n) (a := a)
  refine x_aload_n C dX5_readSum_0 0 rfl ?_
  refine x_iload_n C dX5_readSum_1 1 rfl ?_
  obtain ⟨⟨ok1, aa1, cc1⟩, hr1⟩ : ∃ r, p_Term tp n 4 a = r := ⟨_, rfl⟩
  obtain ⟨ga1, gb1, gc1⟩ := p_Term_good 4 _ _ _ _ (show a ≤ n by omega) hr1
  refine x_callV C (As := [.int 1]) (st := []) (wc := [(rd, .inr (4, [.ref rta, .int (nI n), .int (nI (p_nx tp n a)), .int (p_tk tp n a), .int (nI (p_pl tp n a)), .int v, .int (-1), .ref rlw])), (rta, .inl (cI, 160, .inl tp)), (rlw, .inr (2, [.ref lc, .ref lsk, .ref len9, .int (nI z)])), (lc, .inl (cI, 160, .inl cd))]) (wr := []) (c_X5_readTerm_4 l dG cI cM cW cS adK adV fm rd rta rlw n tp a v lc lsk len9 z cd ok1 aa1 cc1 (by first | assumption | omega | decide) (by first | assumption | omega | decide) (by first | assumption | omega | decide) (hv) (hr1)) (rZs_ok adK adV fm) (fun _ _ _ h9 => h9) kV_X5_72 ⟨rfl, hy_X5_readTerm⟩ ⟨Nat.le_of_ble_eq_true rfl, Nat.le_of_ble_eq_true rfl⟩ ⟨Nat.le_of_ble_eq_true rfl, Nat.le_of_ble_eq_true rfl⟩ dX5_readSum_2 0 rfl rfl [0, 1, 2, 3] [] rfl rfl rfl rfl (by decide) rfl (Nat.le_of_ble_eq_true rfl) ?_
  intro v2 w3 h4
  rcases h4 with h4 | h4
  ·
    obtain ⟨_, _, v_7, cd_8, rfl, rfl, ⟨rfl, rfl, hf10, hf11, hf12⟩⟩ := h4
    show X 0 0 [(rd, .inr (4, [.ref rta, .int (nI n), .int (nI (p_nx tp n aa1)), .int (p_tk tp n aa1), .int (nI (p_pl tp n aa1)), .int v_7, .int (-1), .ref rlw])), (rta, .inl (cI, 160, .inl tp)), (rlw, .inr (2, [.ref lc, .ref lsk, .ref len9, .int (nI (z + cc1.length))])), (lc, .inl (cI, 160, .inl cd_8))] [(0, .ref rd), (1, .int 1)] 5 []
    subst hf10
    obtain ⟨gt1, gl1, gd1⟩ := gc1 rfl
    have hl0 : p_loop tp n (p_Term tp n 4) p_fS 160 (true, aa1, cc1) = (ok, a9, c) := (p_rep_1 hr1).symm.trans hr
    refine x_iconst C dX5_readSum_5 (v := 0) rfl ?_
    refine x_istore_n C dX5_readSum_6 (by decide) (lv' := [(2, .int 0), (0, .ref rd), (1, .int 1)]) rfl ?_
    have L7_12 : ∀ (fuel : Nat) (k a1 z1 : Nat) (v1 : Int32) (c1 : List Int32) (cd1 : Nat → Int32), (hk : k ≤ 160) → (ha1 : a1 ≤ n) → (hz1 : z1 = z + c1.length) → (hza : z1 ≤ a1) → (hv1 : (p_tk tp n a1 = 2 ∨ p_tk tp n a1 = 3 → v1 = p_vl tp n a1)) → (hcd1 : ∀ j, cd1 j = p_app cd z c1 j) → (hl : p_loop tp n (p_Term tp n 4) p_fS (160 - k) (true, a1, c1) = (ok, a9, c)) → 160 - k < fuel → X 0 0 [(rd, .inr (4, [.ref rta, .int (nI n), .int (nI (p_nx tp n a1)), .int (p_tk tp n a1), .int (nI (p_pl tp n a1)), .int v1, .int (-1), .ref rlw])), (rta, .inl (cI, 160, .inl tp)), (rlw, .inr (2, [.ref lc, .ref lsk, .ref len9, .int (nI z1)])), (lc, .inl (cI, 160, .inl cd1))] [(2, .int (nI k)), (1, .int 1), (0, .ref rd)] 7 [] := by
      intro fuel
      induction fuel with
      | zero => intros; omega
      | succ fuel ihL7_12 =>
        intro k a1 z1 v1 c1 cd1 hk ha1 hz1 hza hv1 hcd1 hl hfu
        refine x_iload_n C dX5_readSum_7 0 rfl ?_
        refine x_sipush C dX5_readSum_8 (v := 160) rfl ?_
        refine x_icmp_ge C dX5_readSum_11 (tgt := 72) rfl (fun c14 => ?_) (fun c14 => ?_)
        ·
          have c14 := q_ge_t (a := k) (b := 160) rfl rfl (by omega) (by omega) c14
          have hlz : (true, a1, c1) = (ok, a9, c) := by have h9 := hl; rw [show 160 - k = 0 by omega] at h9; exact h9
          refine E dX5_readSum_72 ?_
          exact Or.inl ⟨a1, z1, v1, cd1, rfl, rfl, ⟨(p_inj hlz).2.1, p_len (p_inj hlz).2.2 (by first | rfl | assumption | (simp only [List.length_append, List.length_singleton]; omega)), (p_inj hlz).1, hv1, fun j => by rw [(p_inj hlz).2.2]; exact hcd1 j⟩⟩
        ·
          have c14 := q_ge_f (a := k) (b := 160) rfl rfl (by omega) (by omega) c14
          refine x_aload_n C dX5_readSum_14 2 rfl ?_
          refine x_bipush C dX5_readSum_15 (v := 43) rfl ?_
          refine x_callV C (As := [.int 43]) (st := []) (wc := [(rd, .inr (4, [.ref rta, .int (nI n), .int (nI (p_nx tp n a1)), .int (p_tk tp n a1), .int (nI (p_pl tp n a1)), .int v1, .int (-1), .ref rlw]))]) (wr := [(rta, .inl (cI, 160, .inl tp)), (rlw, .inr (2, [.ref lc, .ref lsk, .ref len9, .int (nI z1)])), (lc, .inl (cI, 160, .inl cd1))]) (c_X5_has l dG cI cM cW cS rd rta rlw n tp (nI (p_nx tp n a1)) (p_tk tp n a1) (nI (p_pl tp n a1)) v1 (-1) 43 ) rZ0_ok (fun _ _ _ _ => trivial) kV_X5_47 ⟨rfl, hy_X5_has⟩ ⟨Nat.le_of_ble_eq_true rfl, Nat.le_of_ble_eq_true rfl⟩ ⟨Nat.le_of_ble_eq_true rfl, Nat.le_of_ble_eq_true rfl⟩ dX5_readSum_17 0 rfl rfl [0] [1, 2, 3] rfl rfl rfl rfl (by decide) rfl (Nat.le_of_ble_eq_true rfl) ?_
          intro v15 w16 h17
          rcases h17 with h17 | h17
          ·
            obtain ⟨rfl, rfl, hf18⟩ := h17
            show X 0 0 [(rta, .inl (cI, 160, .inl tp)), (rlw, .inr (2, [.ref lc, .ref lsk, .ref len9, .int (nI z1)])), (lc, .inl (cI, 160, .inl cd1)), (rd, .inr (4, [.ref rta, .int (nI n), .int (nI (p_nx tp n a1)), .int (p_tk tp n a1), .int (nI (p_pl tp n a1)), .int v1, .int (-1), .ref rlw]))] [(2, .int (nI k)), (1, .int 1), (0, .ref rd)] 20 [.int 1]
            have ht43 : p_tk tp n a1 = 43 := hf18.2
            have hfop : p_fS (p_tk tp n a1) = -9 := by rw [ht43]; decide
            refine x_if_ne C dX5_readSum_20 (tgt := 32) rfl (fun _ => ?_) (fun q9 => by first | exact absurd q9 (by decide) | exact absurd (by decide) q9)
            refine x_aload_n C dX5_readSum_32 2 rfl ?_
            refine x_get C inlX5 rfl 3 (by decide) gw_7_12 dX5_readSum_33 3 rfl rfl ?_
            refine x_bipush C dX5_readSum_36 (v := 43) rfl ?_
            refine x_icmp_ne C dX5_readSum_38 (tgt := 46) rfl (fun c19 => ?_) (fun c19 => ?_)
            ·
              exact absurd ht43 c19
            ·
              refine x_bipush C dX5_readSum_41 (v := (-9)) rfl ?_
              refine x_goto C dX5_readSum_43 (tgt := 48) rfl ?_
              refine x_istore_n C dX5_readSum_48 (by decide) (lv' := [(3, .int (-9)), (2, .int (nI k)), (1, .int 1), (0, .ref rd)]) rfl ?_
              refine x_aload_n C dX5_readSum_49 3 rfl ?_
              have hx20 : p_nx tp n a1 ≤ n := p_nx_le (by omega)
              have hx20g : a1 < p_nx tp n a1 := p_nx_gt2 (by rw [ht43]; decide)
              refine x_callV C (As := []) (st := []) (wc := [(rd, .inr (4, [.ref rta, .int (nI n), .int (nI (p_nx tp n a1)), .int (p_tk tp n a1), .int (nI (p_pl tp n a1)), .int v1, .int (-1), .ref rlw])), (rta, .inl (cI, 160, .inl tp))]) (wr := [(rlw, .inr (2, [.ref lc, .ref lsk, .ref len9, .int (nI z1)])), (lc, .inl (cI, 160, .inl cd1))]) (c_X5_advance l dG cI cM cW cS adK adV fm rd rta rlw n tp (p_nx tp n a1) (p_tk tp n a1) (nI (p_pl tp n a1)) v1 (-1) (hx20) (by first | assumption | omega | decide)) (rZs_ok adK adV fm) (fun _ _ _ h9 => h9) kV_X5_34 ⟨rfl, hy_X5_advance⟩ ⟨Nat.le_of_ble_eq_true rfl, Nat.le_of_ble_eq_true rfl⟩ ⟨Nat.le_of_ble_eq_true rfl, Nat.le_of_ble_eq_true rfl⟩ dX5_readSum_50 3 rfl rfl [3, 0] [1, 2] rfl rfl rfl rfl (by decide) rfl (Nat.le_of_ble_eq_true rfl) ?_
              intro v21 w22 h23
              obtain ⟨_, _, _, v_27, rfl, rfl, ⟨rfl, rfl, rfl, hf29⟩⟩ := h23
              show X 0 0 [(rlw, .inr (2, [.ref lc, .ref lsk, .ref len9, .int (nI z1)])), (lc, .inl (cI, 160, .inl cd1)), (rd, .inr (4, [.ref rta, .int (nI n), .int (nI (p_nx tp n (p_nx tp n a1))), .int (p_tk tp n (p_nx tp n a1)), .int (nI (p_pl tp n (p_nx tp n a1))), .int v_27, .int (-1), .ref rlw])), (rta, .inl (cI, 160, .inl tp))] [(3, .int (-9)), (2, .int (nI k)), (1, .int 1), (0, .ref rd)] 53 []
              refine x_aload_n C dX5_readSum_53 3 rfl ?_
              refine x_iload_n C dX5_readSum_54 2 rfl ?_
              obtain ⟨⟨ok30, aa30, cc30⟩, hr30⟩ : ∃ r, p_Term tp n 4 (p_nx tp n a1) = r := ⟨_, rfl⟩
              obtain ⟨ga30, gb30, gc30⟩ := p_Term_good 4 _ _ _ _ (show p_nx tp n a1 ≤ n by omega) hr30
              refine x_callV C (As := [.int 1]) (st := []) (wc := [(rd, .inr (4, [.ref rta, .int (nI n), .int (nI (p_nx tp n (p_nx tp n a1))), .int (p_tk tp n (p_nx tp n a1)), .int (nI (p_pl tp n (p_nx tp n a1))), .int v_27, .int (-1), .ref rlw])), (rta, .inl (cI, 160, .inl tp)), (rlw, .inr (2, [.ref lc, .ref lsk, .ref len9, .int (nI z1)])), (lc, .inl (cI, 160, .inl cd1))]) (wr := []) (c_X5_readTerm_4 l dG cI cM cW cS adK adV fm rd rta rlw n tp (p_nx tp n a1) v_27 lc lsk len9 z1 cd1 ok30 aa30 cc30 (by first | assumption | omega | decide) (by first | assumption | omega | decide) (by first | assumption | omega | decide) (hf29) (hr30)) (rZs_ok adK adV fm) (fun _ _ _ h9 => h9) kV_X5_72 ⟨rfl, hy_X5_readTerm⟩ ⟨Nat.le_of_ble_eq_true rfl, Nat.le_of_ble_eq_true rfl⟩ ⟨Nat.le_of_ble_eq_true rfl, Nat.le_of_ble_eq_true rfl⟩ dX5_readSum_55 2 rfl rfl [2, 3, 0, 1] [] rfl rfl rfl rfl (by decide) rfl (Nat.le_of_ble_eq_true rfl) ?_
              intro v31 w32 h33
              rcases h33 with h33 | h33
              ·
                obtain ⟨_, _, v_36, cd_37, rfl, rfl, ⟨rfl, rfl, hf39, hf40, hf41⟩⟩ := h33
                show X 0 0 [(rd, .inr (4, [.ref rta, .int (nI n), .int (nI (p_nx tp n aa30)), .int (p_tk tp n aa30), .int (nI (p_pl tp n aa30)), .int v_36, .int (-1), .ref rlw])), (rta, .inl (cI, 160, .inl tp)), (rlw, .inr (2, [.ref lc, .ref lsk, .ref len9, .int (nI (z1 + cc30.length))])), (lc, .inl (cI, 160, .inl cd_37))] [(3, .int (-9)), (2, .int (nI k)), (1, .int 1), (0, .ref rd)] 58 []
                subst hf39
                obtain ⟨gt30, gl30, gd30⟩ := gc30 rfl
                have hl2 := hl
                rw [show 160 - k = 160 - (k + 1) + 1 by omega, p_loop_s (f := p_fS) (by rw [hfop]; decide) hr30, hfop] at hl2
                refine x_aload_n C dX5_readSum_58 3 rfl ?_
                refine x_get C inlX5 rfl 7 (by decide) gw_6_23 dX5_readSum_59 0 rfl rfl ?_
                refine x_iload_n C dX5_readSum_62 0 rfl ?_
                refine x_callV C (As := [.int (-9)]) (st := []) (wc := [(rlw, .inr (2, [.ref lc, .ref lsk, .ref len9, .int (nI (z1 + cc30.length))])), (lc, .inl (cI, 160, .inl cd_37))]) (wr := [(rd, .inr (4, [.ref rta, .int (nI n), .int (nI (p_nx tp n aa30)), .int (p_tk tp n aa30), .int (nI (p_pl tp n aa30)), .int v_36, .int (-1), .ref rlw])), (rta, .inl (cI, 160, .inl tp))]) (c_X3_add l dG cI cM cW cS rlw lc lsk len9 (z1 + cc30.length) cd_37 (-9) (by omega)) rZ0_ok (fun _ _ _ _ => trivial) kV_X5_57 ⟨rfl, hy_X3_add⟩ ⟨Nat.le_of_ble_eq_true rfl, Nat.le_of_ble_eq_true rfl⟩ ⟨Nat.le_of_ble_eq_true rfl, Nat.le_of_ble_eq_true rfl⟩ dX5_readSum_63 2 rfl rfl [2, 3] [0, 1] rfl rfl rfl rfl (by decide) rfl (Nat.le_of_ble_eq_true rfl) ?_
                intro v42 w43 h44
                obtain ⟨rfl, rfl, hf45⟩ := h44
                show X 0 0 [(rd, .inr (4, [.ref rta, .int (nI n), .int (nI (p_nx tp n aa30)), .int (p_tk tp n aa30), .int (nI (p_pl tp n aa30)), .int v_36, .int (-1), .ref rlw])), (rta, .inl (cI, 160, .inl tp)), (rlw, .inr (2, [.ref lc, .ref lsk, .ref len9, .int (nI ((z1 + cc30.length) + 1))])), (lc, .inl (cI, 160, .inl (upd cd_37 (z1 + cc30.length) (-9))))] [(3, .int (-9)), (2, .int (nI k)), (1, .int 1), (0, .ref rd)] 66 []
                refine x_iinc C dX5_readSum_66 1 rfl (v := nI (k + 1)) (nI_1 _) (by decide) (lv' := [(2, .int (nI (k + 1))), (3, .int (-9)), (1, .int 1), (0, .ref rd)]) rfl ?_
                refine x_goto C dX5_readSum_69 (tgt := 7) rfl ?_
                refine x_lv C [0, 2, 3] (lv' := [(2, .int (nI (k + 1))), (1, .int 1), (0, .ref rd)]) rfl ?_
                exact ihL7_12 (k + 1) aa30 ((z1 + cc30.length) + 1) v_36 (c1 ++ cc30 ++ [-9]) (upd cd_37 (z1 + cc30.length) (-9)) (by omega) (by omega) (by simp only [List.length_append, List.length_singleton]; omega) (by omega) (hf40) (p_app_s (p_app_2 hcd1 hf41 hz1) (by simp only [List.length_append]; omega)) (hl2) (by omega)
              ·
                obtain ⟨rat_46, rtk_47, rpl_48, rva_49, _, z_51, cd_52, rfl, rfl, ⟨rfl, hf54, hf55, hf56⟩⟩ := h33
                show X 0 0 [(rd, .inr (4, [.ref rta, .int (nI n), .int rat_46, .int rtk_47, .int rpl_48, .int rva_49, .int (nI (p_pl tp n aa30)), .ref rlw])), (rta, .inl (cI, 160, .inl tp)), (rlw, .inr (2, [.ref lc, .ref lsk, .ref len9, .int (nI z_51)])), (lc, .inl (cI, 160, .inl cd_52))] [(3, .int (-9)), (2, .int (nI k)), (1, .int 1), (0, .ref rd)] 58 []
                subst hf54
                have hl2 := hl
                rw [show 160 - k = 160 - (k + 1) + 1 by omega, p_loop_s (f := p_fS) (by rw [hfop]; decide) hr30, hfop] at hl2
                refine x_aload_n C dX5_readSum_58 3 rfl ?_
                refine x_get C inlX5 rfl 7 (by decide) gw_6_23 dX5_readSum_59 0 rfl rfl ?_
                refine x_iload_n C dX5_readSum_62 0 rfl ?_
                refine x_callV C (As := [.int (-9)]) (st := []) (wc := [(rlw, .inr (2, [.ref lc, .ref lsk, .ref len9, .int (nI z_51)])), (lc, .inl (cI, 160, .inl cd_52))]) (wr := [(rd, .inr (4, [.ref rta, .int (nI n), .int rat_46, .int rtk_47, .int rpl_48, .int rva_49, .int (nI (p_pl tp n aa30)), .ref rlw])), (rta, .inl (cI, 160, .inl tp))]) (c_X3_add_f l dG cI cM cW cS rlw lc lsk len9 z_51 cd_52 (-9) (hf55)) rZ0_ok (fun _ _ _ _ => trivial) kV_X5_57 ⟨rfl, hy_X3_add⟩ ⟨Nat.le_of_ble_eq_true rfl, Nat.le_of_ble_eq_true rfl⟩ ⟨Nat.le_of_ble_eq_true rfl, Nat.le_of_ble_eq_true rfl⟩ dX5_readSum_63 2 rfl rfl [2, 3] [0, 1] rfl rfl rfl rfl (by decide) rfl (Nat.le_of_ble_eq_true rfl) ?_
                intro v57 w58 h59
                obtain ⟨z_60, cd_61, rfl, rfl, hf62⟩ := h59
                show X 0 0 [(rd, .inr (4, [.ref rta, .int (nI n), .int rat_46, .int rtk_47, .int rpl_48, .int rva_49, .int (nI (p_pl tp n aa30)), .ref rlw])), (rta, .inl (cI, 160, .inl tp)), (rlw, .inr (2, [.ref lc, .ref lsk, .ref len9, .int (nI z_60)])), (lc, .inl (cI, 160, .inl cd_61))] [(3, .int (-9)), (2, .int (nI k)), (1, .int 1), (0, .ref rd)] 66 []
                refine x_iinc C dX5_readSum_66 1 rfl (v := nI (k + 1)) (nI_1 _) (by decide) (lv' := [(2, .int (nI (k + 1))), (3, .int (-9)), (1, .int 1), (0, .ref rd)]) rfl ?_
                refine x_goto C dX5_readSum_69 (tgt := 7) rfl ?_
                refine x_iload_n C dX5_readSum_7 0 rfl ?_
                refine x_sipush C dX5_readSum_8 (v := 160) rfl ?_
                refine x_icmp_ge C dX5_readSum_11 (tgt := 72) rfl (fun c63 => ?_) (fun c63 => ?_)
                ·
                  have c63 := q_ge_t (a := k + 1) (b := 160) rfl rfl (by omega) (by omega) c63
                  refine E dX5_readSum_72 ?_
                  exact Or.inr (⟨rat_46, rtk_47, rpl_48, rva_49, (p_pl tp n aa30), z_60, cd_61, rfl, rfl, ⟨by rw [(p_inj (p_loop_f.symm.trans hl2)).2.1], (p_inj (p_loop_f.symm.trans hl2)).1, hf62, hf56⟩⟩)
                ·
                  have c63 := q_ge_f (a := k + 1) (b := 160) rfl rfl (by omega) (by omega) c63
                  refine x_aload_n C dX5_readSum_14 3 rfl ?_
                  refine x_bipush C dX5_readSum_15 (v := 43) rfl ?_
                  refine x_callV C (As := [.int 43]) (st := []) (wc := [(rd, .inr (4, [.ref rta, .int (nI n), .int rat_46, .int rtk_47, .int rpl_48, .int rva_49, .int (nI (p_pl tp n aa30)), .ref rlw]))]) (wr := [(rta, .inl (cI, 160, .inl tp)), (rlw, .inr (2, [.ref lc, .ref lsk, .ref len9, .int (nI z_60)])), (lc, .inl (cI, 160, .inl cd_61))]) (c_X5_has l dG cI cM cW cS rd rta rlw n tp rat_46 rtk_47 rpl_48 rva_49 (nI (p_pl tp n aa30)) 43 ) rZ0_ok (fun _ _ _ _ => trivial) kV_X5_47 ⟨rfl, hy_X5_has⟩ ⟨Nat.le_of_ble_eq_true rfl, Nat.le_of_ble_eq_true rfl⟩ ⟨Nat.le_of_ble_eq_true rfl, Nat.le_of_ble_eq_true rfl⟩ dX5_readSum_17 0 rfl rfl [0] [1, 2, 3] rfl rfl rfl rfl (by decide) rfl (Nat.le_of_ble_eq_true rfl) ?_
                  intro v64 w65 h66
                  rcases h66 with h66 | h66
                  ·
                    obtain ⟨rfl, rfl, hf67⟩ := h66
                    show X 0 0 [(rta, .inl (cI, 160, .inl tp)), (rlw, .inr (2, [.ref lc, .ref lsk, .ref len9, .int (nI z_60)])), (lc, .inl (cI, 160, .inl cd_61)), (rd, .inr (4, [.ref rta, .int (nI n), .int rat_46, .int rtk_47, .int rpl_48, .int rva_49, .int (nI (p_pl tp n aa30)), .ref rlw]))] [(2, .int (nI (k + 1))), (3, .int (-9)), (1, .int 1), (0, .ref rd)] 20 [.int 1]
                    exact absurd hf67.1 (nI_nm1 (by omega))
                  ·
                    obtain ⟨rfl, rfl, hf68⟩ := h66
                    show X 0 0 [(rta, .inl (cI, 160, .inl tp)), (rlw, .inr (2, [.ref lc, .ref lsk, .ref len9, .int (nI z_60)])), (lc, .inl (cI, 160, .inl cd_61)), (rd, .inr (4, [.ref rta, .int (nI n), .int rat_46, .int rtk_47, .int rpl_48, .int rva_49, .int (nI (p_pl tp n aa30)), .ref rlw]))] [(2, .int (nI (k + 1))), (3, .int (-9)), (1, .int 1), (0, .ref rd)] 20 [.int 0]
                    refine x_if_ne C dX5_readSum_20 (tgt := 32) rfl (fun q9 => absurd q9 (by decide)) (fun _ => ?_)
                    refine x_aload_n C dX5_readSum_23 3 rfl ?_
                    refine x_bipush C dX5_readSum_24 (v := 45) rfl ?_
                    refine x_callV C (As := [.int 45]) (st := []) (wc := [(rd, .inr (4, [.ref rta, .int (nI n), .int rat_46, .int rtk_47, .int rpl_48, .int rva_49, .int (nI (p_pl tp n aa30)), .ref rlw]))]) (wr := [(rta, .inl (cI, 160, .inl tp)), (rlw, .inr (2, [.ref lc, .ref lsk, .ref len9, .int (nI z_60)])), (lc, .inl (cI, 160, .inl cd_61))]) (c_X5_has l dG cI cM cW cS rd rta rlw n tp rat_46 rtk_47 rpl_48 rva_49 (nI (p_pl tp n aa30)) 45 ) rZ0_ok (fun _ _ _ _ => trivial) kV_X5_47 ⟨rfl, hy_X5_has⟩ ⟨Nat.le_of_ble_eq_true rfl, Nat.le_of_ble_eq_true rfl⟩ ⟨Nat.le_of_ble_eq_true rfl, Nat.le_of_ble_eq_true rfl⟩ dX5_readSum_26 3 rfl rfl [3] [0, 1, 2] rfl rfl rfl rfl (by decide) rfl (Nat.le_of_ble_eq_true rfl) ?_
                    intro v69 w70 h71
                    rcases h71 with h71 | h71
                    ·
                      obtain ⟨rfl, rfl, hf72⟩ := h71
                      show X 0 0 [(rta, .inl (cI, 160, .inl tp)), (rlw, .inr (2, [.ref lc, .ref lsk, .ref len9, .int (nI z_60)])), (lc, .inl (cI, 160, .inl cd_61)), (rd, .inr (4, [.ref rta, .int (nI n), .int rat_46, .int rtk_47, .int rpl_48, .int rva_49, .int (nI (p_pl tp n aa30)), .ref rlw]))] [(2, .int (nI (k + 1))), (3, .int (-9)), (1, .int 1), (0, .ref rd)] 29 [.int 1]
                      exact absurd hf72.1 (nI_nm1 (by omega))
                    ·
                      obtain ⟨rfl, rfl, hf73⟩ := h71
                      show X 0 0 [(rta, .inl (cI, 160, .inl tp)), (rlw, .inr (2, [.ref lc, .ref lsk, .ref len9, .int (nI z_60)])), (lc, .inl (cI, 160, .inl cd_61)), (rd, .inr (4, [.ref rta, .int (nI n), .int rat_46, .int rtk_47, .int rpl_48, .int rva_49, .int (nI (p_pl tp n aa30)), .ref rlw]))] [(2, .int (nI (k + 1))), (3, .int (-9)), (1, .int 1), (0, .ref rd)] 29 [.int 0]
                      refine x_if_eq C dX5_readSum_29 (tgt := 72) rfl (fun _ => ?_) (fun q9 => by first | exact absurd q9 (by decide) | exact absurd (by decide) q9)
                      refine x_sub C [3, 0, 1, 2] (ws' := [(rd, .inr (4, [.ref rta, .int (nI n), .int rat_46, .int rtk_47, .int rpl_48, .int rva_49, .int (nI (p_pl tp n aa30)), .ref rlw])), (rta, .inl (cI, 160, .inl tp)), (rlw, .inr (2, [.ref lc, .ref lsk, .ref len9, .int (nI z_60)])), (lc, .inl (cI, 160, .inl cd_61))]) rfl rfl ?_
                      refine E dX5_readSum_72 ?_
                      exact Or.inr (⟨rat_46, rtk_47, rpl_48, rva_49, (p_pl tp n aa30), z_60, cd_61, rfl, rfl, ⟨by rw [(p_inj (p_loop_f.symm.trans hl2)).2.1], (p_inj (p_loop_f.symm.trans hl2)).1, hf62, hf56⟩⟩)
          ·
            obtain ⟨rfl, rfl, hf74⟩ := h17
            show X 0 0 [(rta, .inl (cI, 160, .inl tp)), (rlw, .inr (2, [.ref lc, .ref lsk, .ref len9, .int (nI z1)])), (lc, .inl (cI, 160, .inl cd1)), (rd, .inr (4, [.ref rta, .int (nI n), .int (nI (p_nx tp n a1)), .int (p_tk tp n a1), .int (nI (p_pl tp n a1)), .int v1, .int (-1), .ref rlw]))] [(2, .int (nI k)), (1, .int 1), (0, .ref rd)] 20 [.int 0]
            have ht43 : ¬ p_tk tp n a1 = 43 := fun e => hf74 ⟨rfl, e⟩
            refine x_if_ne C dX5_readSum_20 (tgt := 32) rfl (fun q9 => absurd q9 (by decide)) (fun _ => ?_)
            refine x_aload_n C dX5_readSum_23 2 rfl ?_
            refine x_bipush C dX5_readSum_24 (v := 45) rfl ?_
            refine x_callV C (As := [.int 45]) (st := []) (wc := [(rd, .inr (4, [.ref rta, .int (nI n), .int (nI (p_nx tp n a1)), .int (p_tk tp n a1), .int (nI (p_pl tp n a1)), .int v1, .int (-1), .ref rlw]))]) (wr := [(rta, .inl (cI, 160, .inl tp)), (rlw, .inr (2, [.ref lc, .ref lsk, .ref len9, .int (nI z1)])), (lc, .inl (cI, 160, .inl cd1))]) (c_X5_has l dG cI cM cW cS rd rta rlw n tp (nI (p_nx tp n a1)) (p_tk tp n a1) (nI (p_pl tp n a1)) v1 (-1) 45 ) rZ0_ok (fun _ _ _ _ => trivial) kV_X5_47 ⟨rfl, hy_X5_has⟩ ⟨Nat.le_of_ble_eq_true rfl, Nat.le_of_ble_eq_true rfl⟩ ⟨Nat.le_of_ble_eq_true rfl, Nat.le_of_ble_eq_true rfl⟩ dX5_readSum_26 3 rfl rfl [3] [0, 1, 2] rfl rfl rfl rfl (by decide) rfl (Nat.le_of_ble_eq_true rfl) ?_
            intro v75 w76 h77
            rcases h77 with h77 | h77
            ·
              obtain ⟨rfl, rfl, hf78⟩ := h77
              show X 0 0 [(rta, .inl (cI, 160, .inl tp)), (rlw, .inr (2, [.ref lc, .ref lsk, .ref len9, .int (nI z1)])), (lc, .inl (cI, 160, .inl cd1)), (rd, .inr (4, [.ref rta, .int (nI n), .int (nI (p_nx tp n a1)), .int (p_tk tp n a1), .int (nI (p_pl tp n a1)), .int v1, .int (-1), .ref rlw]))] [(2, .int (nI k)), (1, .int 1), (0, .ref rd)] 29 [.int 1]
              have ht45 : p_tk tp n a1 = 45 := hf78.2
              have hfop : p_fS (p_tk tp n a1) = -10 := by rw [ht45]; decide
              refine x_if_eq C dX5_readSum_29 (tgt := 72) rfl (fun q9 => absurd q9 (by decide)) (fun _ => ?_)
              refine x_aload_n C dX5_readSum_32 2 rfl ?_
              refine x_get C inlX5 rfl 3 (by decide) gw_7_12 dX5_readSum_33 3 rfl rfl ?_
              refine x_bipush C dX5_readSum_36 (v := 43) rfl ?_
              refine x_icmp_ne C dX5_readSum_38 (tgt := 46) rfl (fun c79 => ?_) (fun c79 => ?_)
              ·
                refine x_bipush C dX5_readSum_46 (v := (-10)) rfl ?_
                refine x_istore_n C dX5_readSum_48 (by decide) (lv' := [(3, .int (-10)), (2, .int (nI k)), (1, .int 1), (0, .ref rd)]) rfl ?_
                refine x_aload_n C dX5_readSum_49 3 rfl ?_
                have hx80 : p_nx tp n a1 ≤ n := p_nx_le (by omega)
                have hx80g : a1 < p_nx tp n a1 := p_nx_gt2 (by rw [ht45]; decide)
                refine x_callV C (As := []) (st := []) (wc := [(rd, .inr (4, [.ref rta, .int (nI n), .int (nI (p_nx tp n a1)), .int (p_tk tp n a1), .int (nI (p_pl tp n a1)), .int v1, .int (-1), .ref rlw])), (rta, .inl (cI, 160, .inl tp))]) (wr := [(rlw, .inr (2, [.ref lc, .ref lsk, .ref len9, .int (nI z1)])), (lc, .inl (cI, 160, .inl cd1))]) (c_X5_advance l dG cI cM cW cS adK adV fm rd rta rlw n tp (p_nx tp n a1) (p_tk tp n a1) (nI (p_pl tp n a1)) v1 (-1) (hx80) (by first | assumption | omega | decide)) (rZs_ok adK adV fm) (fun _ _ _ h9 => h9) kV_X5_34 ⟨rfl, hy_X5_advance⟩ ⟨Nat.le_of_ble_eq_true rfl, Nat.le_of_ble_eq_true rfl⟩ ⟨Nat.le_of_ble_eq_true rfl, Nat.le_of_ble_eq_true rfl⟩ dX5_readSum_50 3 rfl rfl [3, 0] [1, 2] rfl rfl rfl rfl (by decide) rfl (Nat.le_of_ble_eq_true rfl) ?_
                intro v81 w82 h83
                obtain ⟨_, _, _, v_87, rfl, rfl, ⟨rfl, rfl, rfl, hf89⟩⟩ := h83
                show X 0 0 [(rlw, .inr (2, [.ref lc, .ref lsk, .ref len9, .int (nI z1)])), (lc, .inl (cI, 160, .inl cd1)), (rd, .inr (4, [.ref rta, .int (nI n), .int (nI (p_nx tp n (p_nx tp n a1))), .int (p_tk tp n (p_nx tp n a1)), .int (nI (p_pl tp n (p_nx tp n a1))), .int v_87, .int (-1), .ref rlw])), (rta, .inl (cI, 160, .inl tp))] [(3, .int (-10)), (2, .int (nI k)), (1, .int 1), (0, .ref rd)] 53 []
                refine x_aload_n C dX5_readSum_53 3 rfl ?_
                refine x_iload_n C dX5_readSum_54 2 rfl ?_
                obtain ⟨⟨ok90, aa90, cc90⟩, hr90⟩ : ∃ r, p_Term tp n 4 (p_nx tp n a1) = r := ⟨_, rfl⟩
                obtain ⟨ga90, gb90, gc90⟩ := p_Term_good 4 _ _ _ _ (show p_nx tp n a1 ≤ n by omega) hr90
                refine x_callV C (As := [.int 1]) (st := []) (wc := [(rd, .inr (4, [.ref rta, .int (nI n), .int (nI (p_nx tp n (p_nx tp n a1))), .int (p_tk tp n (p_nx tp n a1)), .int (nI (p_pl tp n (p_nx tp n a1))), .int v_87, .int (-1), .ref rlw])), (rta, .inl (cI, 160, .inl tp)), (rlw, .inr (2, [.ref lc, .ref lsk, .ref len9, .int (nI z1)])), (lc, .inl (cI, 160, .inl cd1))]) (wr := []) (c_X5_readTerm_4 l dG cI cM cW cS adK adV fm rd rta rlw n tp (p_nx tp n a1) v_87 lc lsk len9 z1 cd1 ok90 aa90 cc90 (by first | assumption | omega | decide) (by first | assumption | omega | decide) (by first | assumption | omega | decide) (hf89) (hr90)) (rZs_ok adK adV fm) (fun _ _ _ h9 => h9) kV_X5_72 ⟨rfl, hy_X5_readTerm⟩ ⟨Nat.le_of_ble_eq_true rfl, Nat.le_of_ble_eq_true rfl⟩ ⟨Nat.le_of_ble_eq_true rfl, Nat.le_of_ble_eq_true rfl⟩ dX5_readSum_55 2 rfl rfl [2, 3, 0, 1] [] rfl rfl rfl rfl (by decide) rfl (Nat.le_of_ble_eq_true rfl) ?_
                intro v91 w92 h93
                rcases h93 with h93 | h93
                ·
                  obtain ⟨_, _, v_96, cd_97, rfl, rfl, ⟨rfl, rfl, hf99, hf100, hf101⟩⟩ := h93
                  show X 0 0 [(rd, .inr (4, [.ref rta, .int (nI n), .int (nI (p_nx tp n aa90)), .int (p_tk tp n aa90), .int (nI (p_pl tp n aa90)), .int v_96, .int (-1), .ref rlw])), (rta, .inl (cI, 160, .inl tp)), (rlw, .inr (2, [.ref lc, .ref lsk, .ref len9, .int (nI (z1 + cc90.length))])), (lc, .inl (cI, 160, .inl cd_97))] [(3, .int (-10)), (2, .int (nI k)), (1, .int 1), (0, .ref rd)] 58 []
                  subst hf99
                  obtain ⟨gt90, gl90, gd90⟩ := gc90 rfl
                  have hl2 := hl
                  rw [show 160 - k = 160 - (k + 1) + 1 by omega, p_loop_s (f := p_fS) (by rw [hfop]; decide) hr90, hfop] at hl2
                  refine x_aload_n C dX5_readSum_58 3 rfl ?_
                  refine x_get C inlX5 rfl 7 (by decide) gw_6_23 dX5_readSum_59 0 rfl rfl ?_
                  refine x_iload_n C dX5_readSum_62 0 rfl ?_
                  refine x_callV C (As := [.int (-10)]) (st := []) (wc := [(rlw, .inr (2, [.ref lc, .ref lsk, .ref len9, .int (nI (z1 + cc90.length))])), (lc, .inl (cI, 160, .inl cd_97))]) (wr := [(rd, .inr (4, [.ref rta, .int (nI n), .int (nI (p_nx tp n aa90)), .int (p_tk tp n aa90), .int (nI (p_pl tp n aa90)), .int v_96, .int (-1), .ref rlw])), (rta, .inl (cI, 160, .inl tp))]) (c_X3_add l dG cI cM cW cS rlw lc lsk len9 (z1 + cc90.length) cd_97 (-10) (by omega)) rZ0_ok (fun _ _ _ _ => trivial) kV_X5_57 ⟨rfl, hy_X3_add⟩ ⟨Nat.le_of_ble_eq_true rfl, Nat.le_of_ble_eq_true rfl⟩ ⟨Nat.le_of_ble_eq_true rfl, Nat.le_of_ble_eq_true rfl⟩ dX5_readSum_63 2 rfl rfl [2, 3] [0, 1] rfl rfl rfl rfl (by decide) rfl (Nat.le_of_ble_eq_true rfl) ?_
                  intro v102 w103 h104
                  obtain ⟨rfl, rfl, hf105⟩ := h104
                  show X 0 0 [(rd, .inr (4, [.ref rta, .int (nI n), .int (nI (p_nx tp n aa90)), .int (p_tk tp n aa90), .int (nI (p_pl tp n aa90)), .int v_96, .int (-1), .ref rlw])), (rta, .inl (cI, 160, .inl tp)), (rlw, .inr (2, [.ref lc, .ref lsk, .ref len9, .int (nI ((z1 + cc90.length) + 1))])), (lc, .inl (cI, 160, .inl (upd cd_97 (z1 + cc90.length) (-10))))] [(3, .int (-10)), (2, .int (nI k)), (1, .int 1), (0, .ref rd)] 66 []
                  refine x_iinc C dX5_readSum_66 1 rfl (v := nI (k + 1)) (nI_1 _) (by decide) (lv' := [(2, .int (nI (k + 1))), (3, .int (-10)), (1, .int 1), (0, .ref rd)]) rfl ?_
                  refine x_goto C dX5_readSum_69 (tgt := 7) rfl ?_
                  refine x_lv C [0, 2, 3] (lv' := [(2, .int (nI (k + 1))), (1, .int 1), (0, .ref rd)]) rfl ?_
                  exact ihL7_12 (k + 1) aa90 ((z1 + cc90.length) + 1) v_96 (c1 ++ cc90 ++ [-10]) (upd cd_97 (z1 + cc90.length) (-10)) (by omega) (by omega) (by simp only [List.length_append, List.length_singleton]; omega) (by omega) (hf100) (p_app_s (p_app_2 hcd1 hf101 hz1) (by simp only [List.length_append]; omega)) (hl2) (by omega)
                ·
                  obtain ⟨rat_106, rtk_107, rpl_108, rva_109, _, z_111, cd_112, rfl, rfl, ⟨rfl, hf114, hf115, hf116⟩⟩ := h93
                  show X 0 0 [(rd, .inr (4, [.ref rta, .int (nI n), .int rat_106, .int rtk_107, .int rpl_108, .int rva_109, .int (nI (p_pl tp n aa90)), .ref rlw])), (rta, .inl (cI, 160, .inl tp)), (rlw, .inr (2, [.ref lc, .ref lsk, .ref len9, .int (nI z_111)])), (lc, .inl (cI, 160, .inl cd_112))] [(3, .int (-10)), (2, .int (nI k)), (1, .int 1), (0, .ref rd)] 58 []
                  subst hf114
                  have hl2 := hl
                  rw [show 160 - k = 160 - (k + 1) + 1 by omega, p_loop_s (f := p_fS) (by rw [hfop]; decide) hr90, hfop] at hl2
                  refine x_aload_n C dX5_readSum_58 3 rfl ?_
                  refine x_get C inlX5 rfl 7 (by decide) gw_6_23 dX5_readSum_59 0 rfl rfl ?_
                  refine x_iload_n C dX5_readSum_62 0 rfl ?_
                  refine x_callV C (As := [.int (-10)]) (st := []) (wc := [(rlw, .inr (2, [.ref lc, .ref lsk, .ref len9, .int (nI z_111)])), (lc, .inl (cI, 160, .inl cd_112))]) (wr := [(rd, .inr (4, [.ref rta, .int (nI n), .int rat_106, .int rtk_107, .int rpl_108, .int rva_109, .int (nI (p_pl tp n aa90)), .ref rlw])), (rta, .inl (cI, 160, .inl tp))]) (c_X3_add_f l dG cI cM cW cS rlw lc lsk len9 z_111 cd_112 (-10) (hf115)) rZ0_ok (fun _ _ _ _ => trivial) kV_X5_57 ⟨rfl, hy_X3_add⟩ ⟨Nat.le_of_ble_eq_true rfl, Nat.le_of_ble_eq_true rfl⟩ ⟨Nat.le_of_ble_eq_true rfl, Nat.le_of_ble_eq_true rfl⟩ dX5_readSum_63 2 rfl rfl [2, 3] [0, 1] rfl rfl rfl rfl (by decide) rfl (Nat.le_of_ble_eq_true rfl) ?_
                  intro v117 w118 h119
                  obtain ⟨z_120, cd_121, rfl, rfl, hf122⟩ := h119
                  show X 0 0 [(rd, .inr (4, [.ref rta, .int (nI n), .int rat_106, .int rtk_107, .int rpl_108, .int rva_109, .int (nI (p_pl tp n aa90)), .ref rlw])), (rta, .inl (cI, 160, .inl tp)), (rlw, .inr (2, [.ref lc, .ref lsk, .ref len9, .int (nI z_120)])), (lc, .inl (cI, 160, .inl cd_121))] [(3, .int (-10)), (2, .int (nI k)), (1, .int 1), (0, .ref rd)] 66 []
                  refine x_iinc C dX5_readSum_66 1 rfl (v := nI (k + 1)) (nI_1 _) (by decide) (lv' := [(2, .int (nI (k + 1))), (3, .int (-10)), (1, .int 1), (0, .ref rd)]) rfl ?_
                  refine x_goto C dX5_readSum_69 (tgt := 7) rfl ?_
                  refine x_iload_n C dX5_readSum_7 0 rfl ?_
                  refine x_sipush C dX5_readSum_8 (v := 160) rfl ?_
                  refine x_icmp_ge C dX5_readSum_11 (tgt := 72) rfl (fun c123 => ?_) (fun c123 => ?_)
                  ·
                    have c123 := q_ge_t (a := k + 1) (b := 160) rfl rfl (by omega) (by omega) c123
                    refine E dX5_readSum_72 ?_
                    exact Or.inr (⟨rat_106, rtk_107, rpl_108, rva_109, (p_pl tp n aa90), z_120, cd_121, rfl, rfl, ⟨by rw [(p_inj (p_loop_f.symm.trans hl2)).2.1], (p_inj (p_loop_f.symm.trans hl2)).1, hf122, hf116⟩⟩)
                  ·
                    have c123 := q_ge_f (a := k + 1) (b := 160) rfl rfl (by omega) (by omega) c123
                    refine x_aload_n C dX5_readSum_14 3 rfl ?_
                    refine x_bipush C dX5_readSum_15 (v := 43) rfl ?_
                    refine x_callV C (As := [.int 43]) (st := []) (wc := [(rd, .inr (4, [.ref rta, .int (nI n), .int rat_106, .int rtk_107, .int rpl_108, .int rva_109, .int (nI (p_pl tp n aa90)), .ref rlw]))]) (wr := [(rta, .inl (cI, 160, .inl tp)), (rlw, .inr (2, [.ref lc, .ref lsk, .ref len9, .int (nI z_120)])), (lc, .inl (cI, 160, .inl cd_121))]) (c_X5_has l dG cI cM cW cS rd rta rlw n tp rat_106 rtk_107 rpl_108 rva_109 (nI (p_pl tp n aa90)) 43 ) rZ0_ok (fun _ _ _ _ => trivial) kV_X5_47 ⟨rfl, hy_X5_has⟩ ⟨Nat.le_of_ble_eq_true rfl, Nat.le_of_ble_eq_true rfl⟩ ⟨Nat.le_of_ble_eq_true rfl, Nat.le_of_ble_eq_true rfl⟩ dX5_readSum_17 0 rfl rfl [0] [1, 2, 3] rfl rfl rfl rfl (by decide) rfl (Nat.le_of_ble_eq_true rfl) ?_
                    intro v124 w125 h126
                    rcases h126 with h126 | h126
                    ·
                      obtain ⟨rfl, rfl, hf127⟩ := h126
                      show X 0 0 [(rta, .inl (cI, 160, .inl tp)), (rlw, .inr (2, [.ref lc, .ref lsk, .ref len9, .int (nI z_120)])), (lc, .inl (cI, 160, .inl cd_121)), (rd, .inr (4, [.ref rta, .int (nI n), .int rat_106, .int rtk_107, .int rpl_108, .int rva_109, .int (nI (p_pl tp n aa90)), .ref rlw]))] [(2, .int (nI (k + 1))), (3, .int (-10)), (1, .int 1), (0, .ref rd)] 20 [.int 1]
                      exact absurd hf127.1 (nI_nm1 (by omega))
                    ·
                      obtain ⟨rfl, rfl, hf128⟩ := h126
                      show X 0 0 [(rta, .inl (cI, 160, .inl tp)), (rlw, .inr (2, [.ref lc, .ref lsk, .ref len9, .int (nI z_120)])), (lc, .inl (cI, 160, .inl cd_121)), (rd, .inr (4, [.ref rta, .int (nI n), .int rat_106, .int rtk_107, .int rpl_108, .int rva_109, .int (nI (p_pl tp n aa90)), .ref rlw]))] [(2, .int (nI (k + 1))), (3, .int (-10)), (1, .int 1), (0, .ref rd)] 20 [.int 0]
                      refine x_if_ne C dX5_readSum_20 (tgt := 32) rfl (fun q9 => absurd q9 (by decide)) (fun _ => ?_)
                      refine x_aload_n C dX5_readSum_23 3 rfl ?_
                      refine x_bipush C dX5_readSum_24 (v := 45) rfl ?_
                      refine x_callV C (As := [.int 45]) (st := []) (wc := [(rd, .inr (4, [.ref rta, .int (nI n), .int rat_106, .int rtk_107, .int rpl_108, .int rva_109, .int (nI (p_pl tp n aa90)), .ref rlw]))]) (wr := [(rta, .inl (cI, 160, .inl tp)), (rlw, .inr (2, [.ref lc, .ref lsk, .ref len9, .int (nI z_120)])), (lc, .inl (cI, 160, .inl cd_121))]) (c_X5_has l dG cI cM cW cS rd rta rlw n tp rat_106 rtk_107 rpl_108 rva_109 (nI (p_pl tp n aa90)) 45 ) rZ0_ok (fun _ _ _ _ => trivial) kV_X5_47 ⟨rfl, hy_X5_has⟩ ⟨Nat.le_of_ble_eq_true rfl, Nat.le_of_ble_eq_true rfl⟩ ⟨Nat.le_of_ble_eq_true rfl, Nat.le_of_ble_eq_true rfl⟩ dX5_readSum_26 3 rfl rfl [3] [0, 1, 2] rfl rfl rfl rfl (by decide) rfl (Nat.le_of_ble_eq_true rfl) ?_
                      intro v129 w130 h131
                      rcases h131 with h131 | h131
                      ·
                        obtain ⟨rfl, rfl, hf132⟩ := h131
                        show X 0 0 [(rta, .inl (cI, 160, .inl tp)), (rlw, .inr (2, [.ref lc, .ref lsk, .ref len9, .int (nI z_120)])), (lc, .inl (cI, 160, .inl cd_121)), (rd, .inr (4, [.ref rta, .int (nI n), .int rat_106, .int rtk_107, .int rpl_108, .int rva_109, .int (nI (p_pl tp n aa90)), .ref rlw]))] [(2, .int (nI (k + 1))), (3, .int (-10)), (1, .int 1), (0, .ref rd)] 29 [.int 1]
                        exact absurd hf132.1 (nI_nm1 (by omega))
                      ·
                        obtain ⟨rfl, rfl, hf133⟩ := h131
                        show X 0 0 [(rta, .inl (cI, 160, .inl tp)), (rlw, .inr (2, [.ref lc, .ref lsk, .ref len9, .int (nI z_120)])), (lc, .inl (cI, 160, .inl cd_121)), (rd, .inr (4, [.ref rta, .int (nI n), .int rat_106, .int rtk_107, .int rpl_108, .int rva_109, .int (nI (p_pl tp n aa90)), .ref rlw]))] [(2, .int (nI (k + 1))), (3, .int (-10)), (1, .int 1), (0, .ref rd)] 29 [.int 0]
                        refine x_if_eq C dX5_readSum_29 (tgt := 72) rfl (fun _ => ?_) (fun q9 => by first | exact absurd q9 (by decide) | exact absurd (by decide) q9)
                        refine x_sub C [3, 0, 1, 2] (ws' := [(rd, .inr (4, [.ref rta, .int (nI n), .int rat_106, .int rtk_107, .int rpl_108, .int rva_109, .int (nI (p_pl tp n aa90)), .ref rlw])), (rta, .inl (cI, 160, .inl tp)), (rlw, .inr (2, [.ref lc, .ref lsk, .ref len9, .int (nI z_120)])), (lc, .inl (cI, 160, .inl cd_121))]) rfl rfl ?_
                        refine E dX5_readSum_72 ?_
                        exact Or.inr (⟨rat_106, rtk_107, rpl_108, rva_109, (p_pl tp n aa90), z_120, cd_121, rfl, rfl, ⟨by rw [(p_inj (p_loop_f.symm.trans hl2)).2.1], (p_inj (p_loop_f.symm.trans hl2)).1, hf122, hf116⟩⟩)
              ·
                exact absurd (c79.symm.trans ht45) (by decide)
            ·
              obtain ⟨rfl, rfl, hf134⟩ := h77
              show X 0 0 [(rta, .inl (cI, 160, .inl tp)), (rlw, .inr (2, [.ref lc, .ref lsk, .ref len9, .int (nI z1)])), (lc, .inl (cI, 160, .inl cd1)), (rd, .inr (4, [.ref rta, .int (nI n), .int (nI (p_nx tp n a1)), .int (p_tk tp n a1), .int (nI (p_pl tp n a1)), .int v1, .int (-1), .ref rlw]))] [(2, .int (nI k)), (1, .int 1), (0, .ref rd)] 29 [.int 0]
              have ht45 : ¬ p_tk tp n a1 = 45 := fun e => hf134 ⟨rfl, e⟩
              have hf0 : p_fS (p_tk tp n a1) = 0 := (if_neg ht43).trans (if_neg ht45)
              refine x_if_eq C dX5_readSum_29 (tgt := 72) rfl (fun _ => ?_) (fun q9 => by first | exact absurd q9 (by decide) | exact absurd (by decide) q9)
              refine x_sub C [3, 0, 1, 2] (ws' := [(rd, .inr (4, [.ref rta, .int (nI n), .int (nI (p_nx tp n a1)), .int (p_tk tp n a1), .int (nI (p_pl tp n a1)), .int v1, .int (-1), .ref rlw])), (rta, .inl (cI, 160, .inl tp)), (rlw, .inr (2, [.ref lc, .ref lsk, .ref len9, .int (nI z1)])), (lc, .inl (cI, 160, .inl cd1))]) rfl rfl ?_
              refine E dX5_readSum_72 ?_
              exact Or.inl ⟨a1, z1, v1, cd1, rfl, rfl, ⟨(p_inj ((p_loop_x hf0).symm.trans hl)).2.1, p_len (p_inj ((p_loop_x hf0).symm.trans hl)).2.2 (by first | rfl | assumption | (simp only [List.length_append, List.length_singleton]; omega)), (p_inj ((p_loop_x hf0).symm.trans hl)).1, hv1, fun j => by rw [(p_inj ((p_loop_x hf0).symm.trans hl)).2.2]; exact hcd1 j⟩⟩
    refine x_lv C [0, 2, 1] (lv' := [(2, .int 0), (1, .int 1), (0, .ref rd)]) rfl ?_
    show X 0 0 [(rd, .inr (4, [.ref rta, .int (nI n), .int (nI (p_nx tp n aa1)), .int (p_tk tp n aa1), .int (nI (p_pl tp n aa1)), .int v_7, .int (-1), .ref rlw])), (rta, .inl (cI, 160, .inl tp)), (rlw, .inr (2, [.ref lc, .ref lsk, .ref len9, .int (nI (z + cc1.length))])), (lc, .inl (cI, 160, .inl cd_8))] [(2, .int (nI 0)), (1, .int 1), (0, .ref rd)] 7 []
    exact L7_12 ((160 - 0) + 1) 0 aa1 (z + cc1.length) v_7 cc1 cd_8 (by decide) (by omega) (rfl) (by omega) (hf11) (hf12) (hl0) (Nat.lt_succ_self _)
  ·
    obtain ⟨rat_135, rtk_136, rpl_137, rva_138, _, z_140, cd_141, rfl, rfl, ⟨rfl, hf143, hf144, hf145⟩⟩ := h4
    show X 0 0 [(rd, .inr (4, [.ref rta, .int (nI n), .int rat_135, .int rtk_136, .int rpl_137, .int rva_138, .int (nI (p_pl tp n aa1)), .ref rlw])), (rta, .inl (cI, 160, .inl tp)), (rlw, .inr (2, [.ref lc, .ref lsk, .ref len9, .int (nI z_140)])), (lc, .inl (cI, 160, .inl cd_141))] [(0, .ref rd), (1, .int 1)] 5 []
    subst hf143
    have hl0 : p_loop tp n (p_Term tp n 4) p_fS 160 (false, aa1, cc1) = (ok, a9, c) := (p_rep_1 hr1).symm.trans hr
    refine x_iconst C dX5_readSum_5 (v := 0) rfl ?_
    refine x_istore_n C dX5_readSum_6 (by decide) (lv' := [(2, .int 0), (0, .ref rd), (1, .int 1)]) rfl ?_
    refine x_iload_n C dX5_readSum_7 0 rfl ?_
    refine x_sipush C dX5_readSum_8 (v := 160) rfl ?_
    refine x_icmp_ge C dX5_readSum_11 (tgt := 72) rfl (fun q9 => absurd q9 (by decide)) (fun _ => ?_)
    refine x_aload_n C dX5_readSum_14 1 rfl ?_
    refine x_bipush C dX5_readSum_15 (v := 43) rfl ?_
    refine x_callV C (As := [.int 43]) (st := []) (wc := [(rd, .inr (4, [.ref rta, .int (nI n), .int rat_135, .int rtk_136, .int rpl_137, .int rva_138, .int (nI (p_pl tp n aa1)), .ref rlw]))]) (wr := [(rta, .inl (cI, 160, .inl tp)), (rlw, .inr (2, [.ref lc, .ref lsk, .ref len9, .int (nI z_140)])), (lc, .inl (cI, 160, .inl cd_141))]) (c_X5_has l dG cI cM cW cS rd rta rlw n tp rat_135 rtk_136 rpl_137 rva_138 (nI (p_pl tp n aa1)) 43 ) rZ0_ok (fun _ _ _ _ => trivial) kV_X5_47 ⟨rfl, hy_X5_has⟩ ⟨Nat.le_of_ble_eq_true rfl, Nat.le_of_ble_eq_true rfl⟩ ⟨Nat.le_of_ble_eq_true rfl, Nat.le_of_ble_eq_true rfl⟩ dX5_readSum_17 0 rfl rfl [0] [1, 2, 3] rfl rfl rfl rfl (by decide) rfl (Nat.le_of_ble_eq_true rfl) ?_
    intro v146 w147 h148
    rcases h148 with h148 | h148
    ·
      obtain ⟨rfl, rfl, hf149⟩ := h148
      show X 0 0 [(rta, .inl (cI, 160, .inl tp)), (rlw, .inr (2, [.ref lc, .ref lsk, .ref len9, .int (nI z_140)])), (lc, .inl (cI, 160, .inl cd_141)), (rd, .inr (4, [.ref rta, .int (nI n), .int rat_135, .int rtk_136, .int rpl_137, .int rva_138, .int (nI (p_pl tp n aa1)), .ref rlw]))] [(2, .int 0), (0, .ref rd), (1, .int 1)] 20 [.int 1]
      exact absurd hf149.1 (nI_nm1 (by omega))
    ·
      obtain ⟨rfl, rfl, hf150⟩ := h148
      show X 0 0 [(rta, .inl (cI, 160, .inl tp)), (rlw, .inr (2, [.ref lc, .ref lsk, .ref len9, .int (nI z_140)])), (lc, .inl (cI, 160, .inl cd_141)), (rd, .inr (4, [.ref rta, .int (nI n), .int rat_135, .int rtk_136, .int rpl_137, .int rva_138, .int (nI (p_pl tp n aa1)), .ref rlw]))] [(2, .int 0), (0, .ref rd), (1, .int 1)] 20 [.int 0]
      refine x_if_ne C dX5_readSum_20 (tgt := 32) rfl (fun q9 => absurd q9 (by decide)) (fun _ => ?_)
      refine x_aload_n C dX5_readSum_23 1 rfl ?_
      refine x_bipush C dX5_readSum_24 (v := 45) rfl ?_
      refine x_callV C (As := [.int 45]) (st := []) (wc := [(rd, .inr (4, [.ref rta, .int (nI n), .int rat_135, .int rtk_136, .int rpl_137, .int rva_138, .int (nI (p_pl tp n aa1)), .ref rlw]))]) (wr := [(rta, .inl (cI, 160, .inl tp)), (rlw, .inr (2, [.ref lc, .ref lsk, .ref len9, .int (nI z_140)])), (lc, .inl (cI, 160, .inl cd_141))]) (c_X5_has l dG cI cM cW cS rd rta rlw n tp rat_135 rtk_136 rpl_137 rva_138 (nI (p_pl tp n aa1)) 45 ) rZ0_ok (fun _ _ _ _ => trivial) kV_X5_47 ⟨rfl, hy_X5_has⟩ ⟨Nat.le_of_ble_eq_true rfl, Nat.le_of_ble_eq_true rfl⟩ ⟨Nat.le_of_ble_eq_true rfl, Nat.le_of_ble_eq_true rfl⟩ dX5_readSum_26 3 rfl rfl [3] [0, 1, 2] rfl rfl rfl rfl (by decide) rfl (Nat.le_of_ble_eq_true rfl) ?_
      intro v151 w152 h153
      rcases h153 with h153 | h153
      ·
        obtain ⟨rfl, rfl, hf154⟩ := h153
        show X 0 0 [(rta, .inl (cI, 160, .inl tp)), (rlw, .inr (2, [.ref lc, .ref lsk, .ref len9, .int (nI z_140)])), (lc, .inl (cI, 160, .inl cd_141)), (rd, .inr (4, [.ref rta, .int (nI n), .int rat_135, .int rtk_136, .int rpl_137, .int rva_138, .int (nI (p_pl tp n aa1)), .ref rlw]))] [(2, .int 0), (0, .ref rd), (1, .int 1)] 29 [.int 1]
        exact absurd hf154.1 (nI_nm1 (by omega))
      ·
        obtain ⟨rfl, rfl, hf155⟩ := h153
        show X 0 0 [(rta, .inl (cI, 160, .inl tp)), (rlw, .inr (2, [.ref lc, .ref lsk, .ref len9, .int (nI z_140)])), (lc, .inl (cI, 160, .inl cd_141)), (rd, .inr (4, [.ref rta, .int (nI n), .int rat_135, .int rtk_136, .int rpl_137, .int rva_138, .int (nI (p_pl tp n aa1)), .ref rlw]))] [(2, .int 0), (0, .ref rd), (1, .int 1)] 29 [.int 0]
        refine x_if_eq C dX5_readSum_29 (tgt := 72) rfl (fun _ => ?_) (fun q9 => by first | exact absurd q9 (by decide) | exact absurd (by decide) q9)
        refine x_sub C [3, 0, 1, 2] (ws' := [(rd, .inr (4, [.ref rta, .int (nI n), .int rat_135, .int rtk_136, .int rpl_137, .int rva_138, .int (nI (p_pl tp n aa1)), .ref rlw])), (rta, .inl (cI, 160, .inl tp)), (rlw, .inr (2, [.ref lc, .ref lsk, .ref len9, .int (nI z_140)])), (lc, .inl (cI, 160, .inl cd_141))]) rfl rfl ?_
        refine E dX5_readSum_72 ?_
        exact Or.inr (⟨rat_135, rtk_136, rpl_137, rva_138, (p_pl tp n aa1), z_140, cd_141, rfl, rfl, ⟨by rw [(p_inj (p_loop_f.symm.trans hl0)).2.1], (p_inj (p_loop_f.symm.trans hl0)).1, hf144, hf145⟩⟩)
set_option maxHeartbeats 4000000 in
set_option maxRecDepth 100000 in
theorem c_X5_readNot_4 (l : Launch) (dG : va_G) (cI cM cW cS : ClassId) (adK adV : Nat → Nat) (fm : Option Nat) (rd rta rlw n : Nat) (tp : Nat → Int32) (a : Nat) (v : Int32) (lc lsk len9 : Nat) (z : Nat) (cd : Nat → Int32) (ok : Bool) (a9 : Nat) (c : List Int32) (hn : n ≤ 160) (ha : a ≤ n) (hz : z ≤ a) (hv : (p_tk tp n a = 2 ∨ p_tk tp n a = 3 → v = p_vl tp n a)) (hr : p_Not tp n 4 a = (ok, a9, c)) : rM l yX5_readNot cX5_readNot 3 none ({ frames := 34, cells := 0, slots := 0, locals := 745 } : Room) dG (tY cI cM cW cS) (rZs adK adV fm) [.ref rd, .int 1] [(rd, .inr (4, [.ref rta, .int (nI n), .int (nI (p_nx tp n a)), .int (p_tk tp n a), .int (nI (p_pl tp n a)), .int v, .int (-1), .ref rlw])), (rta, .inl (cI, 160, .inl tp)), (rlw, .inr (2, [.ref lc, .ref lsk, .ref len9, .int (nI z)])), (lc, .inl (cI, 160, .inl cd))] (fun ov oz => (∃ (a' : Nat) (z' : Nat) (v' : Int32) (cd' : Nat → Int32), ov = none ∧ oz = [(rd, .inr (4, [.ref rta, .int (nI n), .int (nI (p_nx tp n a')), .int (p_tk tp n a'), .int (nI (p_pl tp n a')), .int v', .int (-1), .ref rlw])), (rta, .inl (cI, 160, .inl tp)), (rlw, .inr (2, [.ref lc, .ref lsk, .ref len9, .int (nI z')])), (lc, .inl (cI, 160, .inl cd'))] ∧ a9 = a' ∧ z' = z + c.length ∧ ok = true ∧ (p_tk tp n a' = 2 ∨ p_tk tp n a' = 3 → v' = p_vl tp n a') ∧ (∀ j, cd' j = p_app cd z c j)) ∨ (∃ (rat' : Int32) (rtk' : Int32) (rpl' : Int32) (rva' : Int32) (f' : Nat) (z' : Nat) (cd' : Nat → Int32), ov = none ∧ oz = [(rd, .inr (4, [.ref rta, .int (nI n), .int rat', .int rtk', .int rpl', .int rva', .int (nI f'), .ref rlw])), (rta, .inl (cI, 160, .inl tp)), (rlw, .inr (2, [.ref lc, .ref lsk, .ref len9, .int (nI z')])), (lc, .inl (cI, 160, .inl cd'))] ∧ f' = p_pl tp n a9 ∧ ok = false ∧ z' ≤ 160 ∧ f' ≤ 160)) := by
  refine rM_ofV false (by intro h; cases h) rfl (Nat.le_of_ble_eq_true rfl) rfl (fun X C E => ?_)
  show X 0 0 [(rd, .inr (4, [.ref rta, .int (nI n), .int (nI (p_nx tp n a)), .int (p_tk tp n a), .int (nI (p_pl tp n a)), .int v, .int (-1), .ref rlw])), (rta, .inl (cI, 160, .inl tp)), (rlw, .inr (2, [.ref lc, .ref lsk, .ref len9, .int (nI z)])), (lc, .inl (cI, 160, .inl cd))] [(0, .ref rd), (1, .int 1)] 0 []
  have hpl0 := p_pl_le (tp := tp) ha
  have hpl1 := p_pl_ge (tp := tp) (n := n) (a := a)
  refine x_aload_n C dX5_readNot_0 0 rfl ?_
  refine x_bipush C dX5_readNot_1 (v := 9) rfl ?_
  refine x_callV C (As := [.int 9]) (st := []) (wc := [(rd, .inr (4, [.ref rta, .int (nI n), .int (nI (p_nx tp n a)), .int (p_tk tp n a), .int (nI (p_pl tp n a)), .int v, .int (-1), .ref rlw]))]) (wr := [(rta, .inl (cI, 160, .inl tp)), (rlw, .inr (2, [.ref lc, .ref lsk, .ref len9, .int (nI z)])), (lc, .inl (cI, 160, .inl cd))]) (c_X5_has l dG cI cM cW cS rd rta rlw n tp (nI (p_nx tp n a)) (p_tk tp n a) (nI (p_pl tp n a)) v (-1) 9 ) rZ0_ok (fun _ _ _ _ => trivial) kV_X5_47 ⟨rfl, hy_X5_has⟩ ⟨Nat.le_of_ble_eq_true rfl, Nat.le_of_ble_eq_true rfl⟩ ⟨Nat.le_of_ble_eq_true rfl, Nat.le_of_ble_eq_true rfl⟩ dX5_readNot_3 0 rfl rfl [0] [1, 2, 3] rfl rfl rfl rfl (by decide) rfl (Nat.le_of_ble_eq_true rfl) ?_
  intro v1 w2 h3
  rcases h3 with h3 | h3
  ·
    obtain ⟨rfl, rfl, hf4⟩ := h3
    show X 0 0 [(rta, .inl (cI, 160, .inl tp)), (rlw, .inr (2, [.ref lc, .ref lsk, .ref len9, .int (nI z)])), (lc, .inl (cI, 160, .inl cd)), (rd, .inr (4, [.ref rta, .int (nI n), .int (nI (p_nx tp n a)), .int (p_tk tp n a), .int (nI (p_pl tp n a)), .int v, .int (-1), .ref rlw]))] [(0, .ref rd), (1, .int 1)] 6 [.int 1]
    have ht9 : p_tk tp n a = 9 := hf4.2
    refine x_if_eq C dX5_readNot_6 (tgt := 34) rfl (fun q9 => absurd q9 (by decide)) (fun _ => ?_)
    refine x_aload_n C dX5_readNot_9 0 rfl ?_
    refine x_iload_n C dX5_readNot_10 1 rfl ?_
    have hx5 : p_nx tp n a ≤ n := p_nx_le (by omega)
    have hx5g : a < p_nx tp n a := p_nx_gt2 (by rw [ht9]; decide)
    refine x_callV C (As := [.int 1]) (st := []) (wc := [(rd, .inr (4, [.ref rta, .int (nI n), .int (nI (p_nx tp n a)), .int (p_tk tp n a), .int (nI (p_pl tp n a)), .int v, .int (-1), .ref rlw])), (rta, .inl (cI, 160, .inl tp))]) (wr := [(rlw, .inr (2, [.ref lc, .ref lsk, .ref len9, .int (nI z)])), (lc, .inl (cI, 160, .inl cd))]) (c_X5_goesDeeper_1 l dG cI cM cW cS adK adV fm rd rta rlw n tp a v (by first | assumption | omega | decide) (by first | assumption | omega | decide)) (rZs_ok adK adV fm) (fun _ _ _ h9 => h9) kV_X5_63 ⟨rfl, hy_X5_goesDeeper⟩ ⟨Nat.le_of_ble_eq_true rfl, Nat.le_of_ble_eq_true rfl⟩ ⟨Nat.le_of_ble_eq_true rfl, Nat.le_of_ble_eq_true rfl⟩ dX5_readNot_11 3 rfl rfl [3, 0] [1, 2] rfl rfl rfl rfl (by decide) rfl (Nat.le_of_ble_eq_true rfl) ?_
    intro v6 w7 h8
    obtain ⟨v_9, rfl, rfl, hf10⟩ := h8
    show X 0 0 [(rlw, .inr (2, [.ref lc, .ref lsk, .ref len9, .int (nI z)])), (lc, .inl (cI, 160, .inl cd)), (rd, .inr (4, [.ref rta, .int (nI n), .int (nI (p_nx tp n (p_nx tp n a))), .int (p_tk tp n (p_nx tp n a)), .int (nI (p_pl tp n (p_nx tp n a))), .int v_9, .int (-1), .ref rlw])), (rta, .inl (cI, 160, .inl tp))] [(0, .ref rd), (1, .int 1)] 14 [.int 1]
    refine x_if_eq C dX5_readNot_14 (tgt := 33) rfl (fun q9 => absurd q9 (by decide)) (fun _ => ?_)
    refine x_aload_n C dX5_readNot_17 0 rfl ?_
    refine x_iload_n C dX5_readNot_18 1 rfl ?_
    refine x_iconst C dX5_readNot_19 (v := 1) rfl ?_
    refine x_iadd C dX5_readNot_20 ?_
    refine x_topi C 2 (by decide) ?_
    obtain ⟨⟨ok11, aa11, cc11⟩, hr11⟩ : ∃ r, p_Not tp n 3 (p_nx tp n a) = r := ⟨_, rfl⟩
    obtain ⟨ga11, gb11, gc11⟩ := p_Not_good 3 _ _ _ _ (show p_nx tp n a ≤ n by omega) hr11
    refine x_callV C (As := [.int 2]) (st := []) (wc := [(rd, .inr (4, [.ref rta, .int (nI n), .int (nI (p_nx tp n (p_nx tp n a))), .int (p_tk tp n (p_nx tp n a)), .int (nI (p_pl tp n (p_nx tp n a))), .int v_9, .int (-1), .ref rlw])), (rta, .inl (cI, 160, .inl tp)), (rlw, .inr (2, [.ref lc, .ref lsk, .ref len9, .int (nI z)])), (lc, .inl (cI, 160, .inl cd))]) (wr := []) (c_X5_readNot_3 l dG cI cM cW cS adK adV fm rd rta rlw n tp (p_nx tp n a) v_9 lc lsk len9 z cd ok11 aa11 cc11 (by first | assumption | omega | decide) (by first | assumption | omega | decide) (by first | assumption | omega | decide) (hf10) (hr11)) (rZs_ok adK adV fm) (fun _ _ _ h9 => h9) kV_X5_60 ⟨rfl, hy_X5_readNot⟩ ⟨Nat.le_of_ble_eq_true rfl, Nat.le_of_ble_eq_true rfl⟩ ⟨Nat.le_of_ble_eq_true rfl, Nat.le_of_ble_eq_true rfl⟩ dX5_readNot_21 2 rfl rfl [2, 3, 0, 1] [] rfl rfl rfl rfl (by decide) rfl (Nat.le_of_ble_eq_true rfl) ?_
    intro v12 w13 h14
    rcases h14 with h14 | h14
    ·
      obtain ⟨_, _, v_17, cd_18, rfl, rfl, ⟨rfl, rfl, hf20, hf21, hf22⟩⟩ := h14
      show X 0 0 [(rd, .inr (4, [.ref rta, .int (nI n), .int (nI (p_nx tp n aa11)), .int (p_tk tp n aa11), .int (nI (p_pl tp n aa11)), .int v_17, .int (-1), .ref rlw])), (rta, .inl (cI, 160, .inl tp)), (rlw, .inr (2, [.ref lc, .ref lsk, .ref len9, .int (nI (z + cc11.length))])), (lc, .inl (cI, 160, .inl cd_18))] [(0, .ref rd), (1, .int 1)] 24 []
      subst hf20
      obtain ⟨gt11, gl11, gd11⟩ := gc11 rfl
      refine x_aload_n C dX5_readNot_24 0 rfl ?_
      refine x_get C inlX5 rfl 7 (by decide) gw_6_23 dX5_readNot_25 0 rfl rfl ?_
      refine x_bipush C dX5_readNot_28 (v := (-8)) rfl ?_
      refine x_callV C (As := [.int (-8)]) (st := []) (wc := [(rlw, .inr (2, [.ref lc, .ref lsk, .ref len9, .int (nI (z + cc11.length))])), (lc, .inl (cI, 160, .inl cd_18))]) (wr := [(rd, .inr (4, [.ref rta, .int (nI n), .int (nI (p_nx tp n aa11)), .int (p_tk tp n aa11), .int (nI (p_pl tp n aa11)), .int v_17, .int (-1), .ref rlw])), (rta, .inl (cI, 160, .inl tp))]) (c_X3_add l dG cI cM cW cS rlw lc lsk len9 (z + cc11.length) cd_18 (-8) (by omega)) rZ0_ok (fun _ _ _ _ => trivial) kV_X5_57 ⟨rfl, hy_X3_add⟩ ⟨Nat.le_of_ble_eq_true rfl, Nat.le_of_ble_eq_true rfl⟩ ⟨Nat.le_of_ble_eq_true rfl, Nat.le_of_ble_eq_true rfl⟩ dX5_readNot_30 2 rfl rfl [2, 3] [0, 1] rfl rfl rfl rfl (by decide) rfl (Nat.le_of_ble_eq_true rfl) ?_
      intro v23 w24 h25
      obtain ⟨rfl, rfl, hf26⟩ := h25
      show X 0 0 [(rd, .inr (4, [.ref rta, .int (nI n), .int (nI (p_nx tp n aa11)), .int (p_tk tp n aa11), .int (nI (p_pl tp n aa11)), .int v_17, .int (-1), .ref rlw])), (rta, .inl (cI, 160, .inl tp)), (rlw, .inr (2, [.ref lc, .ref lsk, .ref len9, .int (nI ((z + cc11.length) + 1))])), (lc, .inl (cI, 160, .inl (upd cd_18 (z + cc11.length) (-8))))] [(0, .ref rd), (1, .int 1)] 33 []
      refine E dX5_readNot_33 ?_
      exact Or.inl ⟨aa11, ((z + cc11.length) + 1), v_17, (upd cd_18 (z + cc11.length) (-8)), rfl, rfl, ⟨(p_inj ((p_Not_n (d := 3) ht9 hr11).symm.trans hr)).2.1, p_len (p_inj ((p_Not_n (d := 3) ht9 hr11).symm.trans hr)).2.2 (by first | rfl | assumption | (simp only [List.length_append, List.length_singleton]; omega)), (p_inj ((p_Not_n (d := 3) ht9 hr11).symm.trans hr)).1, hf21, fun j => by rw [(p_inj ((p_Not_n (d := 3) ht9 hr11).symm.trans hr)).2.2]; exact (p_app_s hf22 rfl) j⟩⟩
    ·
      obtain ⟨rat_27, rtk_28, rpl_29, rva_30, _, z_32, cd_33, rfl, rfl, ⟨rfl, hf35, hf36, hf37⟩⟩ := h14
      show X 0 0 [(rd, .inr (4, [.ref rta, .int (nI n), .int rat_27, .int rtk_28, .int rpl_29, .int rva_30, .int (nI (p_pl tp n aa11)), .ref rlw])), (rta, .inl (cI, 160, .inl tp)), (rlw, .inr (2, [.ref lc, .ref lsk, .ref len9, .int (nI z_32)])), (lc, .inl (cI, 160, .inl cd_33))] [(0, .ref rd), (1, .int 1)] 24 []
      subst hf35
      refine x_aload_n C dX5_readNot_24 0 rfl ?_
      refine x_get C inlX5 rfl 7 (by decide) gw_6_23 dX5_readNot_25 0 rfl rfl ?_
      refine x_bipush C dX5_readNot_28 (v := (-8)) rfl ?_
      refine x_callV C (As := [.int (-8)]) (st := []) (wc := [(rlw, .inr (2, [.ref lc, .ref lsk, .ref len9, .int (nI z_32)])), (lc, .inl (cI, 160, .inl cd_33))]) (wr := [(rd, .inr (4, [.ref rta, .int (nI n), .int rat_27, .int rtk_28, .int rpl_29, .int rva_30, .int (nI (p_pl tp n aa11)), .ref rlw])), (rta, .inl (cI, 160, .inl tp))]) (c_X3_add_f l dG cI cM cW cS rlw lc lsk len9 z_32 cd_33 (-8) (hf36)) rZ0_ok (fun _ _ _ _ => trivial) kV_X5_57 ⟨rfl, hy_X3_add⟩ ⟨Nat.le_of_ble_eq_true rfl, Nat.le_of_ble_eq_true rfl⟩ ⟨Nat.le_of_ble_eq_true rfl, Nat.le_of_ble_eq_true rfl⟩ dX5_readNot_30 2 rfl rfl [2, 3] [0, 1] rfl rfl rfl rfl (by decide) rfl (Nat.le_of_ble_eq_true rfl) ?_
      intro v38 w39 h40
      obtain ⟨z_41, cd_42, rfl, rfl, hf43⟩ := h40
      show X 0 0 [(rd, .inr (4, [.ref rta, .int (nI n), .int rat_27, .int rtk_28, .int rpl_29, .int rva_30, .int (nI (p_pl tp n aa11)), .ref rlw])), (rta, .inl (cI, 160, .inl tp)), (rlw, .inr (2, [.ref lc, .ref lsk, .ref len9, .int (nI z_41)])), (lc, .inl (cI, 160, .inl cd_42))] [(0, .ref rd), (1, .int 1)] 33 []
      refine E dX5_readNot_33 ?_
      exact Or.inr (⟨rat_27, rtk_28, rpl_29, rva_30, (p_pl tp n aa11), z_41, cd_42, rfl, rfl, ⟨by rw [(p_inj ((p_Not_n (d := 3) ht9 hr11).symm.trans hr)).2.1], (p_inj ((p_Not_n (d := 3) ht9 hr11).symm.trans hr)).1, hf43, hf37⟩⟩)
  ·
    obtain ⟨rfl, rfl, hf44⟩ := h3
    show X 0 0 [(rta, .inl (cI, 160, .inl tp)), (rlw, .inr (2, [.ref lc, .ref lsk, .ref len9, .int (nI z)])), (lc, .inl (cI, 160, .inl cd)), (rd, .inr (4, [.ref rta, .int (nI n), .int (nI (p_nx tp n a)), .int (p_tk tp n a), .int (nI (p_pl tp n a)), .int v, .int (-1), .ref rlw]))] [(0, .ref rd), (1, .int 1)] 6 [.int 0]
    have ht9 : ¬ p_tk tp n a = 9 := fun e => hf44 ⟨rfl, e⟩
    refine x_if_eq C dX5_readNot_6 (tgt := 34) rfl (fun _ => ?_) (fun q9 => by first | exact absurd q9 (by decide) | exact absurd (by decide) q9)
    refine x_aload_n C dX5_readNot_34 0 rfl ?_
    refine x_iload_n C dX5_readNot_35 1 rfl ?_
    obtain ⟨⟨ok45, aa45, cc45⟩, hr45⟩ : ∃ r, p_Sum tp n 4 a = r := ⟨_, rfl⟩
    obtain ⟨ga45, gb45, gc45⟩ := p_Sum_good 4 _ _ _ _ (show a ≤ n by omega) hr45
    refine x_callV C (As := [.int 1]) (st := []) (wc := [(rd, .inr (4, [.ref rta, .int (nI n), .int (nI (p_nx tp n a)), .int (p_tk tp n a), .int (nI (p_pl tp n a)), .int v, .int (-1), .ref rlw])), (rta, .inl (cI, 160, .inl tp)), (rlw, .inr (2, [.ref lc, .ref lsk, .ref len9, .int (nI z)])), (lc, .inl (cI, 160, .inl cd))]) (wr := []) (c_X5_readSum_4 l dG cI cM cW cS adK adV fm rd rta rlw n tp a v lc lsk len9 z cd ok45 aa45 cc45 (by first | assumption | omega | decide) (by first | assumption | omega | decide) (by first | assumption | omega | decide) (hv) (hr45)) (rZs_ok adK adV fm) (fun _ _ _ h9 => h9) kV_X5_66 ⟨rfl, hy_X5_readSum⟩ ⟨Nat.le_of_ble_eq_true rfl, Nat.le_of_ble_eq_true rfl⟩ ⟨Nat.le_of_ble_eq_true rfl, Nat.le_of_ble_eq_true rfl⟩ dX5_readNot_36 3 rfl rfl [3, 0, 1, 2] [] rfl rfl rfl rfl (by decide) rfl (Nat.le_of_ble_eq_true rfl) ?_
    intro v46 w47 h48
    rcases h48 with h48 | h48
    ·
      obtain ⟨_, _, v_51, cd_52, rfl, rfl, ⟨rfl, rfl, hf54, hf55, hf56⟩⟩ := h48
      show X 0 0 [(rd, .inr (4, [.ref rta, .int (nI n), .int (nI (p_nx tp n aa45)), .int (p_tk tp n aa45), .int (nI (p_pl tp n aa45)), .int v_51, .int (-1), .ref rlw])), (rta, .inl (cI, 160, .inl tp)), (rlw, .inr (2, [.ref lc, .ref lsk, .ref len9, .int (nI (z + cc45.length))])), (lc, .inl (cI, 160, .inl cd_52))] [(0, .ref rd), (1, .int 1)] 39 []
      subst hf54
      obtain ⟨gt45, gl45, gd45⟩ := gc45 rfl
      have hrN : p_cmp tp n (p_Sum tp n 4) a = (ok, a9, c) := (p_Not_c (d := 4) ht9).symm.trans hr
      refine x_aload_n C dX5_readNot_39 0 rfl ?_
      refine x_bipush C dX5_readNot_40 (v := 60) rfl ?_
      refine x_callV C (As := [.int 60]) (st := []) (wc := [(rd, .inr (4, [.ref rta, .int (nI n), .int (nI (p_nx tp n aa45)), .int (p_tk tp n aa45), .int (nI (p_pl tp n aa45)), .int v_51, .int (-1), .ref rlw]))]) (wr := [(rta, .inl (cI, 160, .inl tp)), (rlw, .inr (2, [.ref lc, .ref lsk, .ref len9, .int (nI (z + cc45.length))])), (lc, .inl (cI, 160, .inl cd_52))]) (c_X5_has l dG cI cM cW cS rd rta rlw n tp (nI (p_nx tp n aa45)) (p_tk tp n aa45) (nI (p_pl tp n aa45)) v_51 (-1) 60 ) rZ0_ok (fun _ _ _ _ => trivial) kV_X5_47 ⟨rfl, hy_X5_has⟩ ⟨Nat.le_of_ble_eq_true rfl, Nat.le_of_ble_eq_true rfl⟩ ⟨Nat.le_of_ble_eq_true rfl, Nat.le_of_ble_eq_true rfl⟩ dX5_readNot_42 0 rfl rfl [0] [1, 2, 3] rfl rfl rfl rfl (by decide) rfl (Nat.le_of_ble_eq_true rfl) ?_
      intro v57 w58 h59
      rcases h59 with h59 | h59
      ·
        obtain ⟨rfl, rfl, hf60⟩ := h59
        show X 0 0 [(rta, .inl (cI, 160, .inl tp)), (rlw, .inr (2, [.ref lc, .ref lsk, .ref len9, .int (nI (z + cc45.length))])), (lc, .inl (cI, 160, .inl cd_52)), (rd, .inr (4, [.ref rta, .int (nI n), .int (nI (p_nx tp n aa45)), .int (p_tk tp n aa45), .int (nI (p_pl tp n aa45)), .int v_51, .int (-1), .ref rlw]))] [(0, .ref rd), (1, .int 1)] 45 [.int 1]
        have ht60 : p_tk tp n aa45 = 60 := hf60.2
        refine x_if_ne C dX5_readNot_45 (tgt := 58) rfl (fun _ => ?_) (fun q9 => by first | exact absurd q9 (by decide) | exact absurd (by decide) q9)
        refine x_aload_n C dX5_readNot_58 0 rfl ?_
        refine x_get C inlX5 rfl 3 (by decide) gw_7_12 dX5_readNot_59 3 rfl rfl ?_
        refine x_bipush C dX5_readNot_62 (v := 60) rfl ?_
        refine x_icmp_ne C dX5_readNot_64 (tgt := 72) rfl (fun c61 => ?_) (fun c61 => ?_)
        ·
          exact absurd ht60 c61
        ·
          refine x_bipush C dX5_readNot_67 (v := (-12)) rfl ?_
          refine x_goto C dX5_readNot_69 (tgt := 74) rfl ?_
          refine x_istore_n C dX5_readNot_74 (by decide) (lv' := [(2, .int (-12)), (0, .ref rd), (1, .int 1)]) rfl ?_
          refine x_aload_n C dX5_readNot_75 1 rfl ?_
          have hx62 : p_nx tp n aa45 ≤ n := p_nx_le (by omega)
          have hx62g : aa45 < p_nx tp n aa45 := p_nx_gt2 (by rw [ht60]; decide)
          refine x_callV C (As := []) (st := []) (wc := [(rd, .inr (4, [.ref rta, .int (nI n), .int (nI (p_nx tp n aa45)), .int (p_tk tp n aa45), .int (nI (p_pl tp n aa45)), .int v_51, .int (-1), .ref rlw])), (rta, .inl (cI, 160, .inl tp))]) (wr := [(rlw, .inr (2, [.ref lc, .ref lsk, .ref len9, .int (nI (z + cc45.length))])), (lc, .inl (cI, 160, .inl cd_52))]) (c_X5_advance l dG cI cM cW cS adK adV fm rd rta rlw n tp (p_nx tp n aa45) (p_tk tp n aa45) (nI (p_pl tp n aa45)) v_51 (-1) (hx62) (by first | assumption | omega | decide)) (rZs_ok adK adV fm) (fun _ _ _ h9 => h9) kV_X5_34 ⟨rfl, hy_X5_advance⟩ ⟨Nat.le_of_ble_eq_true rfl, Nat.le_of_ble_eq_true rfl⟩ ⟨Nat.le_of_ble_eq_true rfl, Nat.le_of_ble_eq_true rfl⟩ dX5_readNot_76 3 rfl rfl [3, 0] [1, 2] rfl rfl rfl rfl (by decide) rfl (Nat.le_of_ble_eq_true rfl) ?_
          intro v63 w64 h65
          obtain ⟨_, _, _, v_69, rfl, rfl, ⟨rfl, rfl, rfl, hf71⟩⟩ := h65
          show X 0 0 [(rlw, .inr (2, [.ref lc, .ref lsk, .ref len9, .int (nI (z + cc45.length))])), (lc, .inl (cI, 160, .inl cd_52)), (rd, .inr (4, [.ref rta, .int (nI n), .int (nI (p_nx tp n (p_nx tp n aa45))), .int (p_tk tp n (p_nx tp n aa45)), .int (nI (p_pl tp n (p_nx tp n aa45))), .int v_69, .int (-1), .ref rlw])), (rta, .inl (cI, 160, .inl tp))] [(2, .int (-12)), (0, .ref rd), (1, .int 1)] 79 []
          refine x_aload_n C dX5_readNot_79 1 rfl ?_
          refine x_iload_n C dX5_readNot_80 2 rfl ?_
          obtain ⟨⟨ok72, aa72, cc72⟩, hr72⟩ : ∃ r, p_Sum tp n 4 (p_nx tp n aa45) = r := ⟨_, rfl⟩
          obtain ⟨ga72, gb72, gc72⟩ := p_Sum_good 4 _ _ _ _ (show p_nx tp n aa45 ≤ n by omega) hr72
          refine x_callV C (As := [.int 1]) (st := []) (wc := [(rd, .inr (4, [.ref rta, .int (nI n), .int (nI (p_nx tp n (p_nx tp n aa45))), .int (p_tk tp n (p_nx tp n aa45)), .int (nI (p_pl tp n (p_nx tp n aa45))), .int v_69, .int (-1), .ref rlw])), (rta, .inl (cI, 160, .inl tp)), (rlw, .inr (2, [.ref lc, .ref lsk, .ref len9, .int (nI (z + cc45.length))])), (lc, .inl (cI, 160, .inl cd_52))]) (wr := []) (c_X5_readSum_4 l dG cI cM cW cS adK adV fm rd rta rlw n tp (p_nx tp n aa45) v_69 lc lsk len9 (z + cc45.length) cd_52 ok72 aa72 cc72 (by first | assumption | omega | decide) (by first | assumption | omega | decide) (by first | assumption | omega | decide) (hf71) (hr72)) (rZs_ok adK adV fm) (fun _ _ _ h9 => h9) kV_X5_66 ⟨rfl, hy_X5_readSum⟩ ⟨Nat.le_of_ble_eq_true rfl, Nat.le_of_ble_eq_true rfl⟩ ⟨Nat.le_of_ble_eq_true rfl, Nat.le_of_ble_eq_true rfl⟩ dX5_readNot_81 2 rfl rfl [2, 3, 0, 1] [] rfl rfl rfl rfl (by decide) rfl (Nat.le_of_ble_eq_true rfl) ?_
          intro v73 w74 h75
          rcases h75 with h75 | h75
          ·
            obtain ⟨_, _, v_78, cd_79, rfl, rfl, ⟨rfl, rfl, hf81, hf82, hf83⟩⟩ := h75
            show X 0 0 [(rd, .inr (4, [.ref rta, .int (nI n), .int (nI (p_nx tp n aa72)), .int (p_tk tp n aa72), .int (nI (p_pl tp n aa72)), .int v_78, .int (-1), .ref rlw])), (rta, .inl (cI, 160, .inl tp)), (rlw, .inr (2, [.ref lc, .ref lsk, .ref len9, .int (nI ((z + cc45.length) + cc72.length))])), (lc, .inl (cI, 160, .inl cd_79))] [(2, .int (-12)), (0, .ref rd), (1, .int 1)] 84 []
            subst hf81
            obtain ⟨gt72, gl72, gd72⟩ := gc72 rfl
            refine x_aload_n C dX5_readNot_84 1 rfl ?_
            refine x_get C inlX5 rfl 7 (by decide) gw_6_23 dX5_readNot_85 0 rfl rfl ?_
            refine x_iload_n C dX5_readNot_88 0 rfl ?_
            refine x_callV C (As := [.int (-12)]) (st := []) (wc := [(rlw, .inr (2, [.ref lc, .ref lsk, .ref len9, .int (nI ((z + cc45.length) + cc72.length))])), (lc, .inl (cI, 160, .inl cd_79))]) (wr := [(rd, .inr (4, [.ref rta, .int (nI n), .int (nI (p_nx tp n aa72)), .int (p_tk tp n aa72), .int (nI (p_pl tp n aa72)), .int v_78, .int (-1), .ref rlw])), (rta, .inl (cI, 160, .inl tp))]) (c_X3_add l dG cI cM cW cS rlw lc lsk len9 ((z + cc45.length) + cc72.length) cd_79 (-12) (by omega)) rZ0_ok (fun _ _ _ _ => trivial) kV_X5_57 ⟨rfl, hy_X3_add⟩ ⟨Nat.le_of_ble_eq_true rfl, Nat.le_of_ble_eq_true rfl⟩ ⟨Nat.le_of_ble_eq_true rfl, Nat.le_of_ble_eq_true rfl⟩ dX5_readNot_89 2 rfl rfl [2, 3] [0, 1] rfl rfl rfl rfl (by decide) rfl (Nat.le_of_ble_eq_true rfl) ?_
            intro v84 w85 h86
            obtain ⟨rfl, rfl, hf87⟩ := h86
            show X 0 0 [(rd, .inr (4, [.ref rta, .int (nI n), .int (nI (p_nx tp n aa72)), .int (p_tk tp n aa72), .int (nI (p_pl tp n aa72)), .int v_78, .int (-1), .ref rlw])), (rta, .inl (cI, 160, .inl tp)), (rlw, .inr (2, [.ref lc, .ref lsk, .ref len9, .int (nI (((z + cc45.length) + cc72.length) + 1))])), (lc, .inl (cI, 160, .inl (upd cd_79 ((z + cc45.length) + cc72.length) (-12))))] [(2, .int (-12)), (0, .ref rd), (1, .int 1)] 92 []
            refine E dX5_readNot_92 ?_
            exact Or.inl ⟨aa72, (((z + cc45.length) + cc72.length) + 1), v_78, (upd cd_79 ((z + cc45.length) + cc72.length) (-12)), rfl, rfl, ⟨(p_inj ((p_cmp_1 hr45 ht60 hr72).symm.trans hrN)).2.1, p_len (p_inj ((p_cmp_1 hr45 ht60 hr72).symm.trans hrN)).2.2 (by first | rfl | assumption | (simp only [List.length_append, List.length_singleton]; omega)), (p_inj ((p_cmp_1 hr45 ht60 hr72).symm.trans hrN)).1, hf82, fun j => by rw [(p_inj ((p_cmp_1 hr45 ht60 hr72).symm.trans hrN)).2.2]; exact (p_app_s (p_app_2 hf56 hf83 rfl) (by simp only [List.length_append]; omega)) j⟩⟩
          ·
            obtain ⟨rat_88, rtk_89, rpl_90, rva_91, _, z_93, cd_94, rfl, rfl, ⟨rfl, hf96, hf97, hf98⟩⟩ := h75
            show X 0 0 [(rd, .inr (4, [.ref rta, .int (nI n), .int rat_88, .int rtk_89, .int rpl_90, .int rva_91, .int (nI (p_pl tp n aa72)), .ref rlw])), (rta, .inl (cI, 160, .inl tp)), (rlw, .inr (2, [.ref lc, .ref lsk, .ref len9, .int (nI z_93)])), (lc, .inl (cI, 160, .inl cd_94))] [(2, .int (-12)), (0, .ref rd), (1, .int 1)] 84 []
            subst hf96
            refine x_aload_n C dX5_readNot_84 1 rfl ?_
            refine x_get C inlX5 rfl 7 (by decide) gw_6_23 dX5_readNot_85 0 rfl rfl ?_
            refine x_iload_n C dX5_readNot_88 0 rfl ?_
            refine x_callV C (As := [.int (-12)]) (st := []) (wc := [(rlw, .inr (2, [.ref lc, .ref lsk, .ref len9, .int (nI z_93)])), (lc, .inl (cI, 160, .inl cd_94))]) (wr := [(rd, .inr (4, [.ref rta, .int (nI n), .int rat_88, .int rtk_89, .int rpl_90, .int rva_91, .int (nI (p_pl tp n aa72)), .ref rlw])), (rta, .inl (cI, 160, .inl tp))]) (c_X3_add_f l dG cI cM cW cS rlw lc lsk len9 z_93 cd_94 (-12) (hf97)) rZ0_ok (fun _ _ _ _ => trivial) kV_X5_57 ⟨rfl, hy_X3_add⟩ ⟨Nat.le_of_ble_eq_true rfl, Nat.le_of_ble_eq_true rfl⟩ ⟨Nat.le_of_ble_eq_true rfl, Nat.le_of_ble_eq_true rfl⟩ dX5_readNot_89 2 rfl rfl [2, 3] [0, 1] rfl rfl rfl rfl (by decide) rfl (Nat.le_of_ble_eq_true rfl) ?_
            intro v99 w100 h101
            obtain ⟨z_102, cd_103, rfl, rfl, hf104⟩ := h101
            show X 0 0 [(rd, .inr (4, [.ref rta, .int (nI n), .int rat_88, .int rtk_89, .int rpl_90, .int rva_91, .int (nI (p_pl tp n aa72)), .ref rlw])), (rta, .inl (cI, 160, .inl tp)), (rlw, .inr (2, [.ref lc, .ref lsk, .ref len9, .int (nI z_102)])), (lc, .inl (cI, 160, .inl cd_103))] [(2, .int (-12)), (0, .ref rd), (1, .int 1)] 92 []
            refine E dX5_readNot_92 ?_
            exact Or.inr (⟨rat_88, rtk_89, rpl_90, rva_91, (p_pl tp n aa72), z_102, cd_103, rfl, rfl, ⟨by rw [(p_inj ((p_cmp_1 hr45 ht60 hr72).symm.trans hrN)).2.1], (p_inj ((p_cmp_1 hr45 ht60 hr72).symm.trans hrN)).1, hf104, hf98⟩⟩)
      ·
        obtain ⟨rfl, rfl, hf105⟩ := h59
        show X 0 0 [(rta, .inl (cI, 160, .inl tp)), (rlw, .inr (2, [.ref lc, .ref lsk, .ref len9, .int (nI (z + cc45.length))])), (lc, .inl (cI, 160, .inl cd_52)), (rd, .inr (4, [.ref rta, .int (nI n), .int (nI (p_nx tp n aa45)), .int (p_tk tp n aa45), .int (nI (p_pl tp n aa45)), .int v_51, .int (-1), .ref rlw]))] [(0, .ref rd), (1, .int 1)] 45 [.int 0]
        have ht60 : ¬ p_tk tp n aa45 = 60 := fun e => hf105 ⟨rfl, e⟩
        refine x_if_ne C dX5_readNot_45 (tgt := 58) rfl (fun q9 => absurd q9 (by decide)) (fun _ => ?_)
        refine x_aload_n C dX5_readNot_48 0 rfl ?_
        refine x_bipush C dX5_readNot_49 (v := 61) rfl ?_
        refine x_callV C (As := [.int 61]) (st := []) (wc := [(rd, .inr (4, [.ref rta, .int (nI n), .int (nI (p_nx tp n aa45)), .int (p_tk tp n aa45), .int (nI (p_pl tp n aa45)), .int v_51, .int (-1), .ref rlw]))]) (wr := [(rta, .inl (cI, 160, .inl tp)), (rlw, .inr (2, [.ref lc, .ref lsk, .ref len9, .int (nI (z + cc45.length))])), (lc, .inl (cI, 160, .inl cd_52))]) (c_X5_has l dG cI cM cW cS rd rta rlw n tp (nI (p_nx tp n aa45)) (p_tk tp n aa45) (nI (p_pl tp n aa45)) v_51 (-1) 61 ) rZ0_ok (fun _ _ _ _ => trivial) kV_X5_47 ⟨rfl, hy_X5_has⟩ ⟨Nat.le_of_ble_eq_true rfl, Nat.le_of_ble_eq_true rfl⟩ ⟨Nat.le_of_ble_eq_true rfl, Nat.le_of_ble_eq_true rfl⟩ dX5_readNot_51 3 rfl rfl [3] [0, 1, 2] rfl rfl rfl rfl (by decide) rfl (Nat.le_of_ble_eq_true rfl) ?_
        intro v106 w107 h108
        rcases h108 with h108 | h108
        ·
          obtain ⟨rfl, rfl, hf109⟩ := h108
          show X 0 0 [(rta, .inl (cI, 160, .inl tp)), (rlw, .inr (2, [.ref lc, .ref lsk, .ref len9, .int (nI (z + cc45.length))])), (lc, .inl (cI, 160, .inl cd_52)), (rd, .inr (4, [.ref rta, .int (nI n), .int (nI (p_nx tp n aa45)), .int (p_tk tp n aa45), .int (nI (p_pl tp n aa45)), .int v_51, .int (-1), .ref rlw]))] [(0, .ref rd), (1, .int 1)] 54 [.int 1]
          have ht61 : p_tk tp n aa45 = 61 := hf109.2
          refine x_if_ne C dX5_readNot_54 (tgt := 58) rfl (fun _ => ?_) (fun q9 => by first | exact absurd q9 (by decide) | exact absurd (by decide) q9)
          refine x_aload_n C dX5_readNot_58 0 rfl ?_
          refine x_get C inlX5 rfl 3 (by decide) gw_7_12 dX5_readNot_59 3 rfl rfl ?_
          refine x_bipush C dX5_readNot_62 (v := 60) rfl ?_
          refine x_icmp_ne C dX5_readNot_64 (tgt := 72) rfl (fun c110 => ?_) (fun c110 => ?_)
          ·
            refine x_bipush C dX5_readNot_72 (v := (-13)) rfl ?_
            refine x_istore_n C dX5_readNot_74 (by decide) (lv' := [(2, .int (-13)), (0, .ref rd), (1, .int 1)]) rfl ?_
            refine x_aload_n C dX5_readNot_75 1 rfl ?_
            have hx111 : p_nx tp n aa45 ≤ n := p_nx_le (by omega)
            have hx111g : aa45 < p_nx tp n aa45 := p_nx_gt2 (by rw [ht61]; decide)
            refine x_callV C (As := []) (st := []) (wc := [(rd, .inr (4, [.ref rta, .int (nI n), .int (nI (p_nx tp n aa45)), .int (p_tk tp n aa45), .int (nI (p_pl tp n aa45)), .int v_51, .int (-1), .ref rlw])), (rta, .inl (cI, 160, .inl tp))]) (wr := [(rlw, .inr (2, [.ref lc, .ref lsk, .ref len9, .int (nI (z + cc45.length))])), (lc, .inl (cI, 160, .inl cd_52))]) (c_X5_advance l dG cI cM cW cS adK adV fm rd rta rlw n tp (p_nx tp n aa45) (p_tk tp n aa45) (nI (p_pl tp n aa45)) v_51 (-1) (hx111) (by first | assumption | omega | decide)) (rZs_ok adK adV fm) (fun _ _ _ h9 => h9) kV_X5_34 ⟨rfl, hy_X5_advance⟩ ⟨Nat.le_of_ble_eq_true rfl, Nat.le_of_ble_eq_true rfl⟩ ⟨Nat.le_of_ble_eq_true rfl, Nat.le_of_ble_eq_true rfl⟩ dX5_readNot_76 3 rfl rfl [3, 0] [1, 2] rfl rfl rfl rfl (by decide) rfl (Nat.le_of_ble_eq_true rfl) ?_
            intro v112 w113 h114
            obtain ⟨_, _, _, v_118, rfl, rfl, ⟨rfl, rfl, rfl, hf120⟩⟩ := h114
            show X 0 0 [(rlw, .inr (2, [.ref lc, .ref lsk, .ref len9, .int (nI (z + cc45.length))])), (lc, .inl (cI, 160, .inl cd_52)), (rd, .inr (4, [.ref rta, .int (nI n), .int (nI (p_nx tp n (p_nx tp n aa45))), .int (p_tk tp n (p_nx tp n aa45)), .int (nI (p_pl tp n (p_nx tp n aa45))), .int v_118, .int (-1), .ref rlw])), (rta, .inl (cI, 160, .inl tp))] [(2, .int (-13)), (0, .ref rd), (1, .int 1)] 79 []
            refine x_aload_n C dX5_readNot_79 1 rfl ?_
            refine x_iload_n C dX5_readNot_80 2 rfl ?_
            obtain ⟨⟨ok121, aa121, cc121⟩, hr121⟩ : ∃ r, p_Sum tp n 4 (p_nx tp n aa45) = r := ⟨_, rfl⟩
            obtain ⟨ga121, gb121, gc121⟩ := p_Sum_good 4 _ _ _ _ (show p_nx tp n aa45 ≤ n by omega) hr121
            refine x_callV C (As := [.int 1]) (st := []) (wc := [(rd, .inr (4, [.ref rta, .int (nI n), .int (nI (p_nx tp n (p_nx tp n aa45))), .int (p_tk tp n (p_nx tp n aa45)), .int (nI (p_pl tp n (p_nx tp n aa45))), .int v_118, .int (-1), .ref rlw])), (rta, .inl (cI, 160, .inl tp)), (rlw, .inr (2, [.ref lc, .ref lsk, .ref len9, .int (nI (z + cc45.length))])), (lc, .inl (cI, 160, .inl cd_52))]) (wr := []) (c_X5_readSum_4 l dG cI cM cW cS adK adV fm rd rta rlw n tp (p_nx tp n aa45) v_118 lc lsk len9 (z + cc45.length) cd_52 ok121 aa121 cc121 (by first | assumption | omega | decide) (by first | assumption | omega | decide) (by first | assumption | omega | decide) (hf120) (hr121)) (rZs_ok adK adV fm) (fun _ _ _ h9 => h9) kV_X5_66 ⟨rfl, hy_X5_readSum⟩ ⟨Nat.le_of_ble_eq_true rfl, Nat.le_of_ble_eq_true rfl⟩ ⟨Nat.le_of_ble_eq_true rfl, Nat.le_of_ble_eq_true rfl⟩ dX5_readNot_81 2 rfl rfl [2, 3, 0, 1] [] rfl rfl rfl rfl (by decide) rfl (Nat.le_of_ble_eq_true rfl) ?_
            intro v122 w123 h124
            rcases h124 with h124 | h124
            ·
              obtain ⟨_, _, v_127, cd_128, rfl, rfl, ⟨rfl, rfl, hf130, hf131, hf132⟩⟩ := h124
              show X 0 0 [(rd, .inr (4, [.ref rta, .int (nI n), .int (nI (p_nx tp n aa121)), .int (p_tk tp n aa121), .int (nI (p_pl tp n aa121)), .int v_127, .int (-1), .ref rlw])), (rta, .inl (cI, 160, .inl tp)), (rlw, .inr (2, [.ref lc, .ref lsk, .ref len9, .int (nI ((z + cc45.length) + cc121.length))])), (lc, .inl (cI, 160, .inl cd_128))] [(2, .int (-13)), (0, .ref rd), (1, .int 1)] 84 []
              subst hf130
              obtain ⟨gt121, gl121, gd121⟩ := gc121 rfl
              refine x_aload_n C dX5_readNot_84 1 rfl ?_
              refine x_get C inlX5 rfl 7 (by decide) gw_6_23 dX5_readNot_85 0 rfl rfl ?_
              refine x_iload_n C dX5_readNot_88 0 rfl ?_
              refine x_callV C (As := [.int (-13)]) (st := []) (wc := [(rlw, .inr (2, [.ref lc, .ref lsk, .ref len9, .int (nI ((z + cc45.length) + cc121.length))])), (lc, .inl (cI, 160, .inl cd_128))]) (wr := [(rd, .inr (4, [.ref rta, .int (nI n), .int (nI (p_nx tp n aa121)), .int (p_tk tp n aa121), .int (nI (p_pl tp n aa121)), .int v_127, .int (-1), .ref rlw])), (rta, .inl (cI, 160, .inl tp))]) (c_X3_add l dG cI cM cW cS rlw lc lsk len9 ((z + cc45.length) + cc121.length) cd_128 (-13) (by omega)) rZ0_ok (fun _ _ _ _ => trivial) kV_X5_57 ⟨rfl, hy_X3_add⟩ ⟨Nat.le_of_ble_eq_true rfl, Nat.le_of_ble_eq_true rfl⟩ ⟨Nat.le_of_ble_eq_true rfl, Nat.le_of_ble_eq_true rfl⟩ dX5_readNot_89 2 rfl rfl [2, 3] [0, 1] rfl rfl rfl rfl (by decide) rfl (Nat.le_of_ble_eq_true rfl) ?_
              intro v133 w134 h135
              obtain ⟨rfl, rfl, hf136⟩ := h135
              show X 0 0 [(rd, .inr (4, [.ref rta, .int (nI n), .int (nI (p_nx tp n aa121)), .int (p_tk tp n aa121), .int (nI (p_pl tp n aa121)), .int v_127, .int (-1), .ref rlw])), (rta, .inl (cI, 160, .inl tp)), (rlw, .inr (2, [.ref lc, .ref lsk, .ref len9, .int (nI (((z + cc45.length) + cc121.length) + 1))])), (lc, .inl (cI, 160, .inl (upd cd_128 ((z + cc45.length) + cc121.length) (-13))))] [(2, .int (-13)), (0, .ref rd), (1, .int 1)] 92 []
              refine E dX5_readNot_92 ?_
              exact Or.inl ⟨aa121, (((z + cc45.length) + cc121.length) + 1), v_127, (upd cd_128 ((z + cc45.length) + cc121.length) (-13)), rfl, rfl, ⟨(p_inj ((p_cmp_2 hr45 ht61 hr121).symm.trans hrN)).2.1, p_len (p_inj ((p_cmp_2 hr45 ht61 hr121).symm.trans hrN)).2.2 (by first | rfl | assumption | (simp only [List.length_append, List.length_singleton]; omega)), (p_inj ((p_cmp_2 hr45 ht61 hr121).symm.trans hrN)).1, hf131, fun j => by rw [(p_inj ((p_cmp_2 hr45 ht61 hr121).symm.trans hrN)).2.2]; exact (p_app_s (p_app_2 hf56 hf132 rfl) (by simp only [List.length_append]; omega)) j⟩⟩
            ·
              obtain ⟨rat_137, rtk_138, rpl_139, rva_140, _, z_142, cd_143, rfl, rfl, ⟨rfl, hf145, hf146, hf147⟩⟩ := h124
              show X 0 0 [(rd, .inr (4, [.ref rta, .int (nI n), .int rat_137, .int rtk_138, .int rpl_139, .int rva_140, .int (nI (p_pl tp n aa121)), .ref rlw])), (rta, .inl (cI, 160, .inl tp)), (rlw, .inr (2, [.ref lc, .ref lsk, .ref len9, .int (nI z_142)])), (lc, .inl (cI, 160, .inl cd_143))] [(2, .int (-13)), (0, .ref rd), (1, .int 1)] 84 []
              subst hf145
              refine x_aload_n C dX5_readNot_84 1 rfl ?_
              refine x_get C inlX5 rfl 7 (by decide) gw_6_23 dX5_readNot_85 0 rfl rfl ?_
              refine x_iload_n C dX5_readNot_88 0 rfl ?_
              refine x_callV C (As := [.int (-13)]) (st := []) (wc := [(rlw, .inr (2, [.ref lc, .ref lsk, .ref len9, .int (nI z_142)])), (lc, .inl (cI, 160, .inl cd_143))]) (wr := [(rd, .inr (4, [.ref rta, .int (nI n), .int rat_137, .int rtk_138, .int rpl_139, .int rva_140, .int (nI (p_pl tp n aa121)), .ref rlw])), (rta, .inl (cI, 160, .inl tp))]) (c_X3_add_f l dG cI cM cW cS rlw lc lsk len9 z_142 cd_143 (-13) (hf146)) rZ0_ok (fun _ _ _ _ => trivial) kV_X5_57 ⟨rfl, hy_X3_add⟩ ⟨Nat.le_of_ble_eq_true rfl, Nat.le_of_ble_eq_true rfl⟩ ⟨Nat.le_of_ble_eq_true rfl, Nat.le_of_ble_eq_true rfl⟩ dX5_readNot_89 2 rfl rfl [2, 3] [0, 1] rfl rfl rfl rfl (by decide) rfl (Nat.le_of_ble_eq_true rfl) ?_
              intro v148 w149 h150
              obtain ⟨z_151, cd_152, rfl, rfl, hf153⟩ := h150
              show X 0 0 [(rd, .inr (4, [.ref rta, .int (nI n), .int rat_137, .int rtk_138, .int rpl_139, .int rva_140, .int (nI (p_pl tp n aa121)), .ref rlw])), (rta, .inl (cI, 160, .inl tp)), (rlw, .inr (2, [.ref lc, .ref lsk, .ref len9, .int (nI z_151)])), (lc, .inl (cI, 160, .inl cd_152))] [(2, .int (-13)), (0, .ref rd), (1, .int 1)] 92 []
              refine E dX5_readNot_92 ?_
              exact Or.inr (⟨rat_137, rtk_138, rpl_139, rva_140, (p_pl tp n aa121), z_151, cd_152, rfl, rfl, ⟨by rw [(p_inj ((p_cmp_2 hr45 ht61 hr121).symm.trans hrN)).2.1], (p_inj ((p_cmp_2 hr45 ht61 hr121).symm.trans hrN)).1, hf153, hf147⟩⟩)
          ·
            exact absurd (c110.symm.trans ht61) (by decide)
        ·
          obtain ⟨rfl, rfl, hf154⟩ := h108
          show X 0 0 [(rta, .inl (cI, 160, .inl tp)), (rlw, .inr (2, [.ref lc, .ref lsk, .ref len9, .int (nI (z + cc45.length))])), (lc, .inl (cI, 160, .inl cd_52)), (rd, .inr (4, [.ref rta, .int (nI n), .int (nI (p_nx tp n aa45)), .int (p_tk tp n aa45), .int (nI (p_pl tp n aa45)), .int v_51, .int (-1), .ref rlw]))] [(0, .ref rd), (1, .int 1)] 54 [.int 0]
          have ht61 : ¬ p_tk tp n aa45 = 61 := fun e => hf154 ⟨rfl, e⟩
          refine x_if_ne C dX5_readNot_54 (tgt := 58) rfl (fun q9 => absurd q9 (by decide)) (fun _ => ?_)
          refine x_sub C [3, 0, 1, 2] (ws' := [(rd, .inr (4, [.ref rta, .int (nI n), .int (nI (p_nx tp n aa45)), .int (p_tk tp n aa45), .int (nI (p_pl tp n aa45)), .int v_51, .int (-1), .ref rlw])), (rta, .inl (cI, 160, .inl tp)), (rlw, .inr (2, [.ref lc, .ref lsk, .ref len9, .int (nI (z + cc45.length))])), (lc, .inl (cI, 160, .inl cd_52))]) rfl rfl ?_
          refine E dX5_readNot_57 ?_
          exact Or.inl ⟨aa45, (z + cc45.length), v_51, cd_52, rfl, rfl, ⟨(p_inj ((p_cmp_x hr45 ht60 ht61).symm.trans hrN)).2.1, p_len (p_inj ((p_cmp_x hr45 ht60 ht61).symm.trans hrN)).2.2 (by first | rfl | assumption | (simp only [List.length_append, List.length_singleton]; omega)), (p_inj ((p_cmp_x hr45 ht60 ht61).symm.trans hrN)).1, hf55, fun j => by rw [(p_inj ((p_cmp_x hr45 ht60 ht61).symm.trans hrN)).2.2]; exact hf56 j⟩⟩
    ·
      obtain ⟨rat_155, rtk_156, rpl_157, rva_158, _, z_160, cd_161, rfl, rfl, ⟨rfl, hf163, hf164, hf165⟩⟩ := h48
      show X 0 0 [(rd, .inr (4, [.ref rta, .int (nI n), .int rat_155, .int rtk_156, .int rpl_157, .int rva_158, .int (nI (p_pl tp n aa45)), .ref rlw])), (rta, .inl (cI, 160, .inl tp)), (rlw, .inr (2, [.ref lc, .ref lsk, .ref len9, .int (nI z_160)])), (lc, .inl (cI, 160, .inl cd_161))] [(0, .ref rd), (1, .int 1)] 39 []
      subst hf163
      have hrN : p_cmp tp n (p_Sum tp n 4) a = (ok, a9, c) := (p_Not_c (d := 4) ht9).symm.trans hr
      refine x_aload_n C dX5_readNot_39 0 rfl ?_
      refine x_bipush C dX5_readNot_40 (v := 60) rfl ?_
      refine x_callV C (As := [.int 60]) (st := []) (wc := [(rd, .inr (4, [.ref rta, .int (nI n), .int rat_155, .int rtk_156, .int rpl_157, .int rva_158, .int (nI (p_pl tp n aa45)), .ref rlw]))]) (wr := [(rta, .inl (cI, 160, .inl tp)), (rlw, .inr (2, [.ref lc, .ref lsk, .ref len9, .int (nI z_160)])), (lc, .inl (cI, 160, .inl cd_161))]) (c_X5_has l dG cI cM cW cS rd rta rlw n tp rat_155 rtk_156 rpl_157 rva_158 (nI (p_pl tp n aa45)) 60 ) rZ0_ok (fun _ _ _ _ => trivial) kV_X5_47 ⟨rfl, hy_X5_has⟩ ⟨Nat.le_of_ble_eq_true rfl, Nat.le_of_ble_eq_true rfl⟩ ⟨Nat.le_of_ble_eq_true rfl, Nat.le_of_ble_eq_true rfl⟩ dX5_readNot_42 0 rfl rfl [0] [1, 2, 3] rfl rfl rfl rfl (by decide) rfl (Nat.le_of_ble_eq_true rfl) ?_
      intro v166 w167 h168
      rcases h168 with h168 | h168
      ·
        obtain ⟨rfl, rfl, hf169⟩ := h168
        show X 0 0 [(rta, .inl (cI, 160, .inl tp)), (rlw, .inr (2, [.ref lc, .ref lsk, .ref len9, .int (nI z_160)])), (lc, .inl (cI, 160, .inl cd_161)), (rd, .inr (4, [.ref rta, .int (nI n), .int rat_155, .int rtk_156, .int rpl_157, .int rva_158, .int (nI (p_pl tp n aa45)), .ref rlw]))] [(0, .ref rd), (1, .int 1)] 45 [.int 1]
        exact absurd hf169.1 (nI_nm1 (by omega))
      ·
        obtain ⟨rfl, rfl, hf170⟩ := h168
        show X 0 0 [(rta, .inl (cI, 160, .inl tp)), (rlw, .inr (2, [.ref lc, .ref lsk, .ref len9, .int (nI z_160)])), (lc, .inl (cI, 160, .inl cd_161)), (rd, .inr (4, [.ref rta, .int (nI n), .int rat_155, .int rtk_156, .int rpl_157, .int rva_158, .int (nI (p_pl tp n aa45)), .ref rlw]))] [(0, .ref rd), (1, .int 1)] 45 [.int 0]
        refine x_if_ne C dX5_readNot_45 (tgt := 58) rfl (fun q9 => absurd q9 (by decide)) (fun _ => ?_)
        refine x_aload_n C dX5_readNot_48 0 rfl ?_
        refine x_bipush C dX5_readNot_49 (v := 61) rfl ?_
        refine x_callV C (As := [.int 61]) (st := []) (wc := [(rd, .inr (4, [.ref rta, .int (nI n), .int rat_155, .int rtk_156, .int rpl_157, .int rva_158, .int (nI (p_pl tp n aa45)), .ref rlw]))]) (wr := [(rta, .inl (cI, 160, .inl tp)), (rlw, .inr (2, [.ref lc, .ref lsk, .ref len9, .int (nI z_160)])), (lc, .inl (cI, 160, .inl cd_161))]) (c_X5_has l dG cI cM cW cS rd rta rlw n tp rat_155 rtk_156 rpl_157 rva_158 (nI (p_pl tp n aa45)) 61 ) rZ0_ok (fun _ _ _ _ => trivial) kV_X5_47 ⟨rfl, hy_X5_has⟩ ⟨Nat.le_of_ble_eq_true rfl, Nat.le_of_ble_eq_true rfl⟩ ⟨Nat.le_of_ble_eq_true rfl, Nat.le_of_ble_eq_true rfl⟩ dX5_readNot_51 3 rfl rfl [3] [0, 1, 2] rfl rfl rfl rfl (by decide) rfl (Nat.le_of_ble_eq_true rfl) ?_
        intro v171 w172 h173
        rcases h173 with h173 | h173
        ·
          obtain ⟨rfl, rfl, hf174⟩ := h173
          show X 0 0 [(rta, .inl (cI, 160, .inl tp)), (rlw, .inr (2, [.ref lc, .ref lsk, .ref len9, .int (nI z_160)])), (lc, .inl (cI, 160, .inl cd_161)), (rd, .inr (4, [.ref rta, .int (nI n), .int rat_155, .int rtk_156, .int rpl_157, .int rva_158, .int (nI (p_pl tp n aa45)), .ref rlw]))] [(0, .ref rd), (1, .int 1)] 54 [.int 1]
          exact absurd hf174.1 (nI_nm1 (by omega))
        ·
          obtain ⟨rfl, rfl, hf175⟩ := h173
          show X 0 0 [(rta, .inl (cI, 160, .inl tp)), (rlw, .inr (2, [.ref lc, .ref lsk, .ref len9, .int (nI z_160)])), (lc, .inl (cI, 160, .inl cd_161)), (rd, .inr (4, [.ref rta, .int (nI n), .int rat_155, .int rtk_156, .int rpl_157, .int rva_158, .int (nI (p_pl tp n aa45)), .ref rlw]))] [(0, .ref rd), (1, .int 1)] 54 [.int 0]
          refine x_if_ne C dX5_readNot_54 (tgt := 58) rfl (fun q9 => absurd q9 (by decide)) (fun _ => ?_)
          refine x_sub C [3, 0, 1, 2] (ws' := [(rd, .inr (4, [.ref rta, .int (nI n), .int rat_155, .int rtk_156, .int rpl_157, .int rva_158, .int (nI (p_pl tp n aa45)), .ref rlw])), (rta, .inl (cI, 160, .inl tp)), (rlw, .inr (2, [.ref lc, .ref lsk, .ref len9, .int (nI z_160)])), (lc, .inl (cI, 160, .inl cd_161))]) rfl rfl ?_
          refine E dX5_readNot_57 ?_
          exact Or.inr (⟨rat_155, rtk_156, rpl_157, rva_158, (p_pl tp n aa45), z_160, cd_161, rfl, rfl, ⟨by rw [(p_inj ((p_cmp_f hr45).symm.trans hrN)).2.1], (p_inj ((p_cmp_f hr45).symm.trans hrN)).1, hf164, hf165⟩⟩)
set_option maxHeartbeats 4000000 in
set_option maxRecDepth 100000 in
theorem c_X5_readAnd_4 (l : Launch) (dG : va_G) (cI cM cW cS : ClassId) (adK adV : Nat → Nat) (fm : Option Nat) (rd rta rlw n : Nat) (tp : Nat → Int32) (a : Nat) (v : Int32) (lc lsk len9 : Nat) (z : Nat) (cd : Nat → Int32) (ok : Bool) (a9 : Nat) (c : List Int32) (hn : n ≤ 160) (ha : a ≤ n) (hz : z ≤ a) (hv : (p_tk tp n a = 2 ∨ p_tk tp n a = 3 → v = p_vl tp n a)) (hr : p_And tp n 4 a = (ok, a9, c)) : rM l yX5_readAnd cX5_readAnd 3 none ({ frames := 35, cells := 0, slots := 0, locals := 767 } : Room) dG (tY cI cM cW cS) (rZs adK adV fm) [.ref rd, .int 1] [(rd, .inr (4, [.ref rta, .int (nI n), .int (nI (p_nx tp n a)), .int (p_tk tp n a), .int (nI (p_pl tp n a)), .int v, .int (-1), .ref rlw])), (rta, .inl (cI, 160, .inl tp)), (rlw, .inr (2, [.ref lc, .ref lsk, .ref len9, .int (nI z)])), (lc, .inl (cI, 160, .inl cd))] (fun ov oz => (∃ (a' : Nat) (z' : Nat) (v' : Int32) (cd' : Nat → Int32), ov = none ∧ oz = [(rd, .inr (4, [.ref rta, .int (nI n), .int (nI (p_nx tp n a')), .int (p_tk tp n a'), .int (nI (p_pl tp n a')), .int v', .int (-1), .ref rlw])), (rta, .inl (cI, 160, .inl tp)), (rlw, .inr (2, [.ref lc, .ref lsk, .ref len9, .int (nI z')])), (lc, .inl (cI, 160, .inl cd'))] ∧ a9 = a' ∧ z' = z + c.length ∧ ok = true ∧ (p_tk tp n a' = 2 ∨ p_tk tp n a' = 3 → v' = p_vl tp n a') ∧ (∀ j, cd' j = p_app cd z c j)) ∨ (∃ (rat' : Int32) (rtk' : Int32) (rpl' : Int32) (rva' : Int32) (f' : Nat) (z' : Nat) (cd' : Nat → Int32), ov = none ∧ oz = [(rd, .inr (4, [.ref rta, .int (nI n), .int rat', .int rtk', .int rpl', .int rva', .int (nI f'), .ref rlw])), (rta, .inl (cI, 160, .inl tp)), (rlw, .inr (2, [.ref lc, .ref lsk, .ref len9, .int (nI z')])), (lc, .inl (cI, 160, .inl cd'))] ∧ f' = p_pl tp n a9 ∧ ok = false ∧ z' ≤ 160 ∧ f' ≤ 160)) := by
  refine rM_ofV false (by intro h; cases h) rfl (Nat.le_of_ble_eq_true rfl) rfl (fun X C E => ?_)
  show X 0 0 [(rd, .inr (4, [.ref rta, .int (nI n), .int (nI (p_nx tp n a)), .int (p_tk tp n a), .int (nI (p_pl tp n a)), .int v, .int (-1), .ref rlw])), (rta, .inl (cI, 160, .inl tp)), (rlw, .inr (2, [.ref lc, .ref lsk, .ref len9, .int (nI z)])), (lc, .inl (cI, 160, .inl cd))] [(0, .ref rd), (1, .int 1)] 0 []
  have hpl0 := p_pl_le (tp := tp) ha
  have hpl1 := p_pl_ge (tp := tp) (n := n) (a := a)
  refine x_aload_n C dX5_readAnd_0 0 rfl ?_
  refine x_iload_n C dX5_readAnd_1 1 rfl ?_
  obtain ⟨⟨ok1, aa1, cc1⟩, hr1⟩ : ∃ r, p_Not tp n 4 a = r := ⟨_, rfl⟩
  obtain ⟨ga1, gb1, gc1⟩ := p_Not_good 4 _ _ _ _ (show a ≤ n by omega) hr1
  refine x_callV C (As := [.int 1]) (st := []) (wc := [(rd, .inr (4, [.ref rta, .int (nI n), .int (nI (p_nx tp n a)), .int (p_tk tp n a), .int (nI (p_pl tp n a)), .int v, .int (-1), .ref rlw])), (rta, .inl (cI, 160, .inl tp)), (rlw, .inr (2, [.ref lc, .ref lsk, .ref len9, .int (nI z)])), (lc, .inl (cI, 160, .inl cd))]) (wr := []) (c_X5_readNot_4 l dG cI cM cW cS adK adV fm rd rta rlw n tp a v lc lsk len9 z cd ok1 aa1 cc1 (by first | assumption | omega | decide) (by first | assumption | omega | decide) (by first | assumption | omega | decide) (hv) (hr1)) (rZs_ok adK adV fm) (fun _ _ _ h9 => h9) kV_X5_60 ⟨rfl, hy_X5_readNot⟩ ⟨Nat.le_of_ble_eq_true rfl, Nat.le_of_ble_eq_true rfl⟩ ⟨Nat.le_of_ble_eq_true rfl, Nat.le_of_ble_eq_true rfl⟩ dX5_readAnd_2 0 rfl rfl [0, 1, 2, 3] [] rfl rfl rfl rfl (by decide) rfl (Nat.le_of_ble_eq_true rfl) ?_
  intro v2 w3 h4
  rcases h4 with h4 | h4
  ·
    obtain ⟨_, _, v_7, cd_8, rfl, rfl, ⟨rfl, rfl, hf10, hf11, hf12⟩⟩ := h4
    show X 0 0 [(rd, .inr (4, [.ref rta, .int (nI n), .int (nI (p_nx tp n aa1)), .int (p_tk tp n aa1), .int (nI (p_pl tp n aa1)), .int v_7, .int (-1), .ref rlw])), (rta, .inl (cI, 160, .inl tp)), (rlw, .inr (2, [.ref lc, .ref lsk, .ref len9, .int (nI (z + cc1.length))])), (lc, .inl (cI, 160, .inl cd_8))] [(0, .ref rd), (1, .int 1)] 5 []
    subst hf10
    obtain ⟨gt1, gl1, gd1⟩ := gc1 rfl
    have hl0 : p_loop tp n (p_Not tp n 4) p_fA 160 (true, aa1, cc1) = (ok, a9, c) := (p_rep_1 hr1).symm.trans hr
    refine x_iconst C dX5_readAnd_5 (v := 0) rfl ?_
    refine x_istore_n C dX5_readAnd_6 (by decide) (lv' := [(2, .int 0), (0, .ref rd), (1, .int 1)]) rfl ?_
    have L7_12 : ∀ (fuel : Nat) (k a1 z1 : Nat) (v1 : Int32) (c1 : List Int32) (cd1 : Nat → Int32), (hk : k ≤ 160) → (ha1 : a1 ≤ n) → (hz1 : z1 = z + c1.length) → (hza : z1 ≤ a1) → (hv1 : (p_tk tp n a1 = 2 ∨ p_tk tp n a1 = 3 → v1 = p_vl tp n a1)) → (hcd1 : ∀ j, cd1 j = p_app cd z c1 j) → (hl : p_loop tp n (p_Not tp n 4) p_fA (160 - k) (true, a1, c1) = (ok, a9, c)) → 160 - k < fuel → X 0 0 [(rd, .inr (4, [.ref rta, .int (nI n), .int (nI (p_nx tp n a1)), .int (p_tk tp n a1), .int (nI (p_pl tp n a1)), .int v1, .int (-1), .ref rlw])), (rta, .inl (cI, 160, .inl tp)), (rlw, .inr (2, [.ref lc, .ref lsk, .ref len9, .int (nI z1)])), (lc, .inl (cI, 160, .inl cd1))] [(2, .int (nI k)), (1, .int 1), (0, .ref rd)] 7 [] := by
      intro fuel
      induction fuel with
      | zero => intros; omega
      | succ fuel ihL7_12 =>
        intro k a1 z1 v1 c1 cd1 hk ha1 hz1 hza hv1 hcd1 hl hfu
        refine x_iload_n C dX5_readAnd_7 0 rfl ?_
        refine x_sipush C dX5_readAnd_8 (v := 160) rfl ?_
        refine x_icmp_ge C dX5_readAnd_11 (tgt := 47) rfl (fun c14 => ?_) (fun c14 => ?_)
        ·
          have c14 := q_ge_t (a := k) (b := 160) rfl rfl (by omega) (by omega) c14
          have hlz : (true, a1, c1) = (ok, a9, c) := by have h9 := hl; rw [show 160 - k = 0 by omega] at h9; exact h9
          refine E dX5_readAnd_47 ?_
          exact Or.inl ⟨a1, z1, v1, cd1, rfl, rfl, ⟨(p_inj hlz).2.1, p_len (p_inj hlz).2.2 (by first | rfl | assumption | (simp only [List.length_append, List.length_singleton]; omega)), (p_inj hlz).1, hv1, fun j => by rw [(p_inj hlz).2.2]; exact hcd1 j⟩⟩
        ·
          have c14 := q_ge_f (a := k) (b := 160) rfl rfl (by omega) (by omega) c14
          refine x_aload_n C dX5_readAnd_14 2 rfl ?_
          refine x_bipush C dX5_readAnd_15 (v := 8) rfl ?_
          refine x_callV C (As := [.int 8]) (st := []) (wc := [(rd, .inr (4, [.ref rta, .int (nI n), .int (nI (p_nx tp n a1)), .int (p_tk tp n a1), .int (nI (p_pl tp n a1)), .int v1, .int (-1), .ref rlw]))]) (wr := [(rta, .inl (cI, 160, .inl tp)), (rlw, .inr (2, [.ref lc, .ref lsk, .ref len9, .int (nI z1)])), (lc, .inl (cI, 160, .inl cd1))]) (c_X5_has l dG cI cM cW cS rd rta rlw n tp (nI (p_nx tp n a1)) (p_tk tp n a1) (nI (p_pl tp n a1)) v1 (-1) 8 ) rZ0_ok (fun _ _ _ _ => trivial) kV_X5_47 ⟨rfl, hy_X5_has⟩ ⟨Nat.le_of_ble_eq_true rfl, Nat.le_of_ble_eq_true rfl⟩ ⟨Nat.le_of_ble_eq_true rfl, Nat.le_of_ble_eq_true rfl⟩ dX5_readAnd_17 0 rfl rfl [0] [1, 2, 3] rfl rfl rfl rfl (by decide) rfl (Nat.le_of_ble_eq_true rfl) ?_
          intro v15 w16 h17
          rcases h17 with h17 | h17
          ·
            obtain ⟨rfl, rfl, hf18⟩ := h17
            show X 0 0 [(rta, .inl (cI, 160, .inl tp)), (rlw, .inr (2, [.ref lc, .ref lsk, .ref len9, .int (nI z1)])), (lc, .inl (cI, 160, .inl cd1)), (rd, .inr (4, [.ref rta, .int (nI n), .int (nI (p_nx tp n a1)), .int (p_tk tp n a1), .int (nI (p_pl tp n a1)), .int v1, .int (-1), .ref rlw]))] [(2, .int (nI k)), (1, .int 1), (0, .ref rd)] 20 [.int 1]
            have ht8 : p_tk tp n a1 = 8 := hf18.2
            have hfop : p_fA (p_tk tp n a1) = -14 := by rw [ht8]; decide
            refine x_if_eq C dX5_readAnd_20 (tgt := 47) rfl (fun q9 => absurd q9 (by decide)) (fun _ => ?_)
            refine x_aload_n C dX5_readAnd_23 2 rfl ?_
            have hx19 : p_nx tp n a1 ≤ n := p_nx_le (by omega)
            have hx19g : a1 < p_nx tp n a1 := p_nx_gt2 (by rw [ht8]; decide)
            refine x_callV C (As := []) (st := []) (wc := [(rd, .inr (4, [.ref rta, .int (nI n), .int (nI (p_nx tp n a1)), .int (p_tk tp n a1), .int (nI (p_pl tp n a1)), .int v1, .int (-1), .ref rlw])), (rta, .inl (cI, 160, .inl tp))]) (wr := [(rlw, .inr (2, [.ref lc, .ref lsk, .ref len9, .int (nI z1)])), (lc, .inl (cI, 160, .inl cd1))]) (c_X5_advance l dG cI cM cW cS adK adV fm rd rta rlw n tp (p_nx tp n a1) (p_tk tp n a1) (nI (p_pl tp n a1)) v1 (-1) (hx19) (by first | assumption | omega | decide)) (rZs_ok adK adV fm) (fun _ _ _ h9 => h9) kV_X5_34 ⟨rfl, hy_X5_advance⟩ ⟨Nat.le_of_ble_eq_true rfl, Nat.le_of_ble_eq_true rfl⟩ ⟨Nat.le_of_ble_eq_true rfl, Nat.le_of_ble_eq_true rfl⟩ dX5_readAnd_24 3 rfl rfl [3, 0] [1, 2] rfl rfl rfl rfl (by decide) rfl (Nat.le_of_ble_eq_true rfl) ?_
            intro v20 w21 h22
            obtain ⟨_, _, _, v_26, rfl, rfl, ⟨rfl, rfl, rfl, hf28⟩⟩ := h22
            show X 0 0 [(rlw, .inr (2, [.ref lc, .ref lsk, .ref len9, .int (nI z1)])), (lc, .inl (cI, 160, .inl cd1)), (rd, .inr (4, [.ref rta, .int (nI n), .int (nI (p_nx tp n (p_nx tp n a1))), .int (p_tk tp n (p_nx tp n a1)), .int (nI (p_pl tp n (p_nx tp n a1))), .int v_26, .int (-1), .ref rlw])), (rta, .inl (cI, 160, .inl tp))] [(2, .int (nI k)), (1, .int 1), (0, .ref rd)] 27 []
            refine x_aload_n C dX5_readAnd_27 2 rfl ?_
            refine x_iload_n C dX5_readAnd_28 1 rfl ?_
            obtain ⟨⟨ok29, aa29, cc29⟩, hr29⟩ : ∃ r, p_Not tp n 4 (p_nx tp n a1) = r := ⟨_, rfl⟩
            obtain ⟨ga29, gb29, gc29⟩ := p_Not_good 4 _ _ _ _ (show p_nx tp n a1 ≤ n by omega) hr29
            refine x_callV C (As := [.int 1]) (st := []) (wc := [(rd, .inr (4, [.ref rta, .int (nI n), .int (nI (p_nx tp n (p_nx tp n a1))), .int (p_tk tp n (p_nx tp n a1)), .int (nI (p_pl tp n (p_nx tp n a1))), .int v_26, .int (-1), .ref rlw])), (rta, .inl (cI, 160, .inl tp)), (rlw, .inr (2, [.ref lc, .ref lsk, .ref len9, .int (nI z1)])), (lc, .inl (cI, 160, .inl cd1))]) (wr := []) (c_X5_readNot_4 l dG cI cM cW cS adK adV fm rd rta rlw n tp (p_nx tp n a1) v_26 lc lsk len9 z1 cd1 ok29 aa29 cc29 (by first | assumption | omega | decide) (by first | assumption | omega | decide) (by first | assumption | omega | decide) (hf28) (hr29)) (rZs_ok adK adV fm) (fun _ _ _ h9 => h9) kV_X5_60 ⟨rfl, hy_X5_readNot⟩ ⟨Nat.le_of_ble_eq_true rfl, Nat.le_of_ble_eq_true rfl⟩ ⟨Nat.le_of_ble_eq_true rfl, Nat.le_of_ble_eq_true rfl⟩ dX5_readAnd_29 2 rfl rfl [2, 3, 0, 1] [] rfl rfl rfl rfl (by decide) rfl (Nat.le_of_ble_eq_true rfl) ?_
            intro v30 w31 h32
            rcases h32 with h32 | h32
            ·
              obtain ⟨_, _, v_35, cd_36, rfl, rfl, ⟨rfl, rfl, hf38, hf39, hf40⟩⟩ := h32
              show X 0 0 [(rd, .inr (4, [.ref rta, .int (nI n), .int (nI (p_nx tp n aa29)), .int (p_tk tp n aa29), .int (nI (p_pl tp n aa29)), .int v_35, .int (-1), .ref rlw])), (rta, .inl (cI, 160, .inl tp)), (rlw, .inr (2, [.ref lc, .ref lsk, .ref len9, .int (nI (z1 + cc29.length))])), (lc, .inl (cI, 160, .inl cd_36))] [(2, .int (nI k)), (1, .int 1), (0, .ref rd)] 32 []
              subst hf38
              obtain ⟨gt29, gl29, gd29⟩ := gc29 rfl
              have hl2 := hl
              rw [show 160 - k = 160 - (k + 1) + 1 by omega, p_loop_s (f := p_fA) (by rw [hfop]; decide) hr29, hfop] at hl2
              refine x_aload_n C dX5_readAnd_32 2 rfl ?_
              refine x_get C inlX5 rfl 7 (by decide) gw_6_23 dX5_readAnd_33 0 rfl rfl ?_
              refine x_bipush C dX5_readAnd_36 (v := (-14)) rfl ?_
              refine x_callV C (As := [.int (-14)]) (st := []) (wc := [(rlw, .inr (2, [.ref lc, .ref lsk, .ref len9, .int (nI (z1 + cc29.length))])), (lc, .inl (cI, 160, .inl cd_36))]) (wr := [(rd, .inr (4, [.ref rta, .int (nI n), .int (nI (p_nx tp n aa29)), .int (p_tk tp n aa29), .int (nI (p_pl tp n aa29)), .int v_35, .int (-1), .ref rlw])), (rta, .inl (cI, 160, .inl tp))]) (c_X3_add l dG cI cM cW cS rlw lc lsk len9 (z1 + cc29.length) cd_36 (-14) (by omega)) rZ0_ok (fun _ _ _ _ => trivial) kV_X5_57 ⟨rfl, hy_X3_add⟩ ⟨Nat.le_of_ble_eq_true rfl, Nat.le_of_ble_eq_true rfl⟩ ⟨Nat.le_of_ble_eq_true rfl, Nat.le_of_ble_eq_true rfl⟩ dX5_readAnd_38 2 rfl rfl [2, 3] [0, 1] rfl rfl rfl rfl (by decide) rfl (Nat.le_of_ble_eq_true rfl) ?_
              intro v41 w42 h43
              obtain ⟨rfl, rfl, hf44⟩ := h43
              show X 0 0 [(rd, .inr (4, [.ref rta, .int (nI n), .int (nI (p_nx tp n aa29)), .int (p_tk tp n aa29), .int (nI (p_pl tp n aa29)), .int v_35, .int (-1), .ref rlw])), (rta, .inl (cI, 160, .inl tp)), (rlw, .inr (2, [.ref lc, .ref lsk, .ref len9, .int (nI ((z1 + cc29.length) + 1))])), (lc, .inl (cI, 160, .inl (upd cd_36 (z1 + cc29.length) (-14))))] [(2, .int (nI k)), (1, .int 1), (0, .ref rd)] 41 []
              refine x_iinc C dX5_readAnd_41 0 rfl (v := nI (k + 1)) (nI_1 _) (by decide) (lv' := [(2, .int (nI (k + 1))), (1, .int 1), (0, .ref rd)]) rfl ?_
              refine x_goto C dX5_readAnd_44 (tgt := 7) rfl ?_
              exact ihL7_12 (k + 1) aa29 ((z1 + cc29.length) + 1) v_35 (c1 ++ cc29 ++ [-14]) (upd cd_36 (z1 + cc29.length) (-14)) (by omega) (by omega) (by simp only [List.length_append, List.length_singleton]; omega) (by omega) (hf39) (p_app_s (p_app_2 hcd1 hf40 hz1) (by simp only [List.length_append]; omega)) (hl2) (by omega)
            ·
              obtain ⟨rat_45, rtk_46, rpl_47, rva_48, _, z_50, cd_51, rfl, rfl, ⟨rfl, hf53, hf54, hf55⟩⟩ := h32
              show X 0 0 [(rd, .inr (4, [.ref rta, .int (nI n), .int rat_45, .int rtk_46, .int rpl_47, .int rva_48, .int (nI (p_pl tp n aa29)), .ref rlw])), (rta, .inl (cI, 160, .inl tp)), (rlw, .inr (2, [.ref lc, .ref lsk, .ref len9, .int (nI z_50)])), (lc, .inl (cI, 160, .inl cd_51))] [(2, .int (nI k)), (1, .int 1), (0, .ref rd)] 32 []
              subst hf53
              have hl2 := hl
              rw [show 160 - k = 160 - (k + 1) + 1 by omega, p_loop_s (f := p_fA) (by rw [hfop]; decide) hr29, hfop] at hl2
              refine x_aload_n C dX5_readAnd_32 2 rfl ?_
              refine x_get C inlX5 rfl 7 (by decide) gw_6_23 dX5_readAnd_33 0 rfl rfl ?_
              refine x_bipush C dX5_readAnd_36 (v := (-14)) rfl ?_
              refine x_callV C (As := [.int (-14)]) (st := []) (wc := [(rlw, .inr (2, [.ref lc, .ref lsk, .ref len9, .int (nI z_50)])), (lc, .inl (cI, 160, .inl cd_51))]) (wr := [(rd, .inr (4, [.ref rta, .int (nI n), .int rat_45, .int rtk_46, .int rpl_47, .int rva_48, .int (nI (p_pl tp n aa29)), .ref rlw])), (rta, .inl (cI, 160, .inl tp))]) (c_X3_add_f l dG cI cM cW cS rlw lc lsk len9 z_50 cd_51 (-14) (hf54)) rZ0_ok (fun _ _ _ _ => trivial) kV_X5_57 ⟨rfl, hy_X3_add⟩ ⟨Nat.le_of_ble_eq_true rfl, Nat.le_of_ble_eq_true rfl⟩ ⟨Nat.le_of_ble_eq_true rfl, Nat.le_of_ble_eq_true rfl⟩ dX5_readAnd_38 2 rfl rfl [2, 3] [0, 1] rfl rfl rfl rfl (by decide) rfl (Nat.le_of_ble_eq_true rfl) ?_
              intro v56 w57 h58
              obtain ⟨z_59, cd_60, rfl, rfl, hf61⟩ := h58
              show X 0 0 [(rd, .inr (4, [.ref rta, .int (nI n), .int rat_45, .int rtk_46, .int rpl_47, .int rva_48, .int (nI (p_pl tp n aa29)), .ref rlw])), (rta, .inl (cI, 160, .inl tp)), (rlw, .inr (2, [.ref lc, .ref lsk, .ref len9, .int (nI z_59)])), (lc, .inl (cI, 160, .inl cd_60))] [(2, .int (nI k)), (1, .int 1), (0, .ref rd)] 41 []
              refine x_iinc C dX5_readAnd_41 0 rfl (v := nI (k + 1)) (nI_1 _) (by decide) (lv' := [(2, .int (nI (k + 1))), (1, .int 1), (0, .ref rd)]) rfl ?_
              refine x_goto C dX5_readAnd_44 (tgt := 7) rfl ?_
              refine x_iload_n C dX5_readAnd_7 0 rfl ?_
              refine x_sipush C dX5_readAnd_8 (v := 160) rfl ?_
              refine x_icmp_ge C dX5_readAnd_11 (tgt := 47) rfl (fun c62 => ?_) (fun c62 => ?_)
              ·
                have c62 := q_ge_t (a := k + 1) (b := 160) rfl rfl (by omega) (by omega) c62
                refine E dX5_readAnd_47 ?_
                exact Or.inr (⟨rat_45, rtk_46, rpl_47, rva_48, (p_pl tp n aa29), z_59, cd_60, rfl, rfl, ⟨by rw [(p_inj (p_loop_f.symm.trans hl2)).2.1], (p_inj (p_loop_f.symm.trans hl2)).1, hf61, hf55⟩⟩)
              ·
                have c62 := q_ge_f (a := k + 1) (b := 160) rfl rfl (by omega) (by omega) c62
                refine x_aload_n C dX5_readAnd_14 2 rfl ?_
                refine x_bipush C dX5_readAnd_15 (v := 8) rfl ?_
                refine x_callV C (As := [.int 8]) (st := []) (wc := [(rd, .inr (4, [.ref rta, .int (nI n), .int rat_45, .int rtk_46, .int rpl_47, .int rva_48, .int (nI (p_pl tp n aa29)), .ref rlw]))]) (wr := [(rta, .inl (cI, 160, .inl tp)), (rlw, .inr (2, [.ref lc, .ref lsk, .ref len9, .int (nI z_59)])), (lc, .inl (cI, 160, .inl cd_60))]) (c_X5_has l dG cI cM cW cS rd rta rlw n tp rat_45 rtk_46 rpl_47 rva_48 (nI (p_pl tp n aa29)) 8 ) rZ0_ok (fun _ _ _ _ => trivial) kV_X5_47 ⟨rfl, hy_X5_has⟩ ⟨Nat.le_of_ble_eq_true rfl, Nat.le_of_ble_eq_true rfl⟩ ⟨Nat.le_of_ble_eq_true rfl, Nat.le_of_ble_eq_true rfl⟩ dX5_readAnd_17 0 rfl rfl [0] [1, 2, 3] rfl rfl rfl rfl (by decide) rfl (Nat.le_of_ble_eq_true rfl) ?_
                intro v63 w64 h65
                rcases h65 with h65 | h65
                ·
                  obtain ⟨rfl, rfl, hf66⟩ := h65
                  show X 0 0 [(rta, .inl (cI, 160, .inl tp)), (rlw, .inr (2, [.ref lc, .ref lsk, .ref len9, .int (nI z_59)])), (lc, .inl (cI, 160, .inl cd_60)), (rd, .inr (4, [.ref rta, .int (nI n), .int rat_45, .int rtk_46, .int rpl_47, .int rva_48, .int (nI (p_pl tp n aa29)), .ref rlw]))] [(2, .int (nI (k + 1))), (1, .int 1), (0, .ref rd)] 20 [.int 1]
                  exact absurd hf66.1 (nI_nm1 (by omega))
                ·
                  obtain ⟨rfl, rfl, hf67⟩ := h65
                  show X 0 0 [(rta, .inl (cI, 160, .inl tp)), (rlw, .inr (2, [.ref lc, .ref lsk, .ref len9, .int (nI z_59)])), (lc, .inl (cI, 160, .inl cd_60)), (rd, .inr (4, [.ref rta, .int (nI n), .int rat_45, .int rtk_46, .int rpl_47, .int rva_48, .int (nI (p_pl tp n aa29)), .ref rlw]))] [(2, .int (nI (k + 1))), (1, .int 1), (0, .ref rd)] 20 [.int 0]
                  refine x_if_eq C dX5_readAnd_20 (tgt := 47) rfl (fun _ => ?_) (fun q9 => by first | exact absurd q9 (by decide) | exact absurd (by decide) q9)
                  refine x_sub C [3, 0, 1, 2] (ws' := [(rd, .inr (4, [.ref rta, .int (nI n), .int rat_45, .int rtk_46, .int rpl_47, .int rva_48, .int (nI (p_pl tp n aa29)), .ref rlw])), (rta, .inl (cI, 160, .inl tp)), (rlw, .inr (2, [.ref lc, .ref lsk, .ref len9, .int (nI z_59)])), (lc, .inl (cI, 160, .inl cd_60))]) rfl rfl ?_
                  refine E dX5_readAnd_47 ?_
                  exact Or.inr (⟨rat_45, rtk_46, rpl_47, rva_48, (p_pl tp n aa29), z_59, cd_60, rfl, rfl, ⟨by rw [(p_inj (p_loop_f.symm.trans hl2)).2.1], (p_inj (p_loop_f.symm.trans hl2)).1, hf61, hf55⟩⟩)
          ·
            obtain ⟨rfl, rfl, hf68⟩ := h17
            show X 0 0 [(rta, .inl (cI, 160, .inl tp)), (rlw, .inr (2, [.ref lc, .ref lsk, .ref len9, .int (nI z1)])), (lc, .inl (cI, 160, .inl cd1)), (rd, .inr (4, [.ref rta, .int (nI n), .int (nI (p_nx tp n a1)), .int (p_tk tp n a1), .int (nI (p_pl tp n a1)), .int v1, .int (-1), .ref rlw]))] [(2, .int (nI k)), (1, .int 1), (0, .ref rd)] 20 [.int 0]
            have ht8 : ¬ p_tk tp n a1 = 8 := fun e => hf68 ⟨rfl, e⟩
            have hf0 : p_fA (p_tk tp n a1) = 0 := if_neg ht8
            refine x_if_eq C dX5_readAnd_20 (tgt := 47) rfl (fun _ => ?_) (fun q9 => by first | exact absurd q9 (by decide) | exact absurd (by decide) q9)
            refine x_sub C [3, 0, 1, 2] (ws' := [(rd, .inr (4, [.ref rta, .int (nI n), .int (nI (p_nx tp n a1)), .int (p_tk tp n a1), .int (nI (p_pl tp n a1)), .int v1, .int (-1), .ref rlw])), (rta, .inl (cI, 160, .inl tp)), (rlw, .inr (2, [.ref lc, .ref lsk, .ref len9, .int (nI z1)])), (lc, .inl (cI, 160, .inl cd1))]) rfl rfl ?_
            refine E dX5_readAnd_47 ?_
            exact Or.inl ⟨a1, z1, v1, cd1, rfl, rfl, ⟨(p_inj ((p_loop_x hf0).symm.trans hl)).2.1, p_len (p_inj ((p_loop_x hf0).symm.trans hl)).2.2 (by first | rfl | assumption | (simp only [List.length_append, List.length_singleton]; omega)), (p_inj ((p_loop_x hf0).symm.trans hl)).1, hv1, fun j => by rw [(p_inj ((p_loop_x hf0).symm.trans hl)).2.2]; exact hcd1 j⟩⟩
    refine x_lv C [0, 2, 1] (lv' := [(2, .int 0), (1, .int 1), (0, .ref rd)]) rfl ?_
    show X 0 0 [(rd, .inr (4, [.ref rta, .int (nI n), .int (nI (p_nx tp n aa1)), .int (p_tk tp n aa1), .int (nI (p_pl tp n aa1)), .int v_7, .int (-1), .ref rlw])), (rta, .inl (cI, 160, .inl tp)), (rlw, .inr (2, [.ref lc, .ref lsk, .ref len9, .int (nI (z + cc1.length))])), (lc, .inl (cI, 160, .inl cd_8))] [(2, .int (nI 0)), (1, .int 1), (0, .ref rd)] 7 []
    exact L7_12 ((160 - 0) + 1) 0 aa1 (z + cc1.length) v_7 cc1 cd_8 (by decide) (by omega) (rfl) (by omega) (hf11) (hf12) (hl0) (Nat.lt_succ_self _)
  ·
    obtain ⟨rat_69, rtk_70, rpl_71, rva_72, _, z_74, cd_75, rfl, rfl, ⟨rfl, hf77, hf78, hf79⟩⟩ := h4
    show X 0 0 [(rd, .inr (4, [.ref rta, .int (nI n), .int rat_69, .int rtk_70, .int rpl_71, .int rva_72, .int (nI (p_pl tp n aa1)), .ref rlw])), (rta, .inl (cI, 160, .inl tp)), (rlw, .inr (2, [.ref lc, .ref lsk, .ref len9, .int (nI z_74)])), (lc, .inl (cI, 160, .inl cd_75))] [(0, .ref rd), (1, .int 1)] 5 []
    subst hf77
    have hl0 : p_loop tp n (p_Not tp n 4) p_fA 160 (false, aa1, cc1) = (ok, a9, c) := (p_rep_1 hr1).symm.trans hr
    refine x_iconst C dX5_readAnd_5 (v := 0) rfl ?_
    refine x_istore_n C dX5_readAnd_6 (by decide) (lv' := [(2, .int 0), (0, .ref rd), (1, .int 1)]) rfl ?_
    refine x_iload_n C dX5_readAnd_7 0 rfl ?_
    refine x_sipush C dX5_readAnd_8 (v := 160) rfl ?_
    refine x_icmp_ge C dX5_readAnd_11 (tgt := 47) rfl (fun q9 => absurd q9 (by decide)) (fun _ => ?_)
    refine x_aload_n C dX5_readAnd_14 1 rfl ?_
    refine x_bipush C dX5_readAnd_15 (v := 8) rfl ?_
    refine x_callV C (As := [.int 8]) (st := []) (wc := [(rd, .inr (4, [.ref rta, .int (nI n), .int rat_69, .int rtk_70, .int rpl_71, .int rva_72, .int (nI (p_pl tp n aa1)), .ref rlw]))]) (wr := [(rta, .inl (cI, 160, .inl tp)), (rlw, .inr (2, [.ref lc, .ref lsk, .ref len9, .int (nI z_74)])), (lc, .inl (cI, 160, .inl cd_75))]) (c_X5_has l dG cI cM cW cS rd rta rlw n tp rat_69 rtk_70 rpl_71 rva_72 (nI (p_pl tp n aa1)) 8 ) rZ0_ok (fun _ _ _ _ => trivial) kV_X5_47 ⟨rfl, hy_X5_has⟩ ⟨Nat.le_of_ble_eq_true rfl, Nat.le_of_ble_eq_true rfl⟩ ⟨Nat.le_of_ble_eq_true rfl, Nat.le_of_ble_eq_true rfl⟩ dX5_readAnd_17 0 rfl rfl [0] [1, 2, 3] rfl rfl rfl rfl (by decide) rfl (Nat.le_of_ble_eq_true rfl) ?_
    intro v80 w81 h82
    rcases h82 with h82 | h82
    ·
      obtain ⟨rfl, rfl, hf83⟩ := h82
      show X 0 0 [(rta, .inl (cI, 160, .inl tp)), (rlw, .inr (2, [.ref lc, .ref lsk, .ref len9, .int (nI z_74)])), (lc, .inl (cI, 160, .inl cd_75)), (rd, .inr (4, [.ref rta, .int (nI n), .int rat_69, .int rtk_70, .int rpl_71, .int rva_72, .int (nI (p_pl tp n aa1)), .ref rlw]))] [(2, .int 0), (0, .ref rd), (1, .int 1)] 20 [.int 1]
      exact absurd hf83.1 (nI_nm1 (by omega))
    ·
      obtain ⟨rfl, rfl, hf84⟩ := h82
      show X 0 0 [(rta, .inl (cI, 160, .inl tp)), (rlw, .inr (2, [.ref lc, .ref lsk, .ref len9, .int (nI z_74)])), (lc, .inl (cI, 160, .inl cd_75)), (rd, .inr (4, [.ref rta, .int (nI n), .int rat_69, .int rtk_70, .int rpl_71, .int rva_72, .int (nI (p_pl tp n aa1)), .ref rlw]))] [(2, .int 0), (0, .ref rd), (1, .int 1)] 20 [.int 0]
      refine x_if_eq C dX5_readAnd_20 (tgt := 47) rfl (fun _ => ?_) (fun q9 => by first | exact absurd q9 (by decide) | exact absurd (by decide) q9)
      refine x_sub C [3, 0, 1, 2] (ws' := [(rd, .inr (4, [.ref rta, .int (nI n), .int rat_69, .int rtk_70, .int rpl_71, .int rva_72, .int (nI (p_pl tp n aa1)), .ref rlw])), (rta, .inl (cI, 160, .inl tp)), (rlw, .inr (2, [.ref lc, .ref lsk, .ref len9, .int (nI z_74)])), (lc, .inl (cI, 160, .inl cd_75))]) rfl rfl ?_
      refine E dX5_readAnd_47 ?_
      exact Or.inr (⟨rat_69, rtk_70, rpl_71, rva_72, (p_pl tp n aa1), z_74, cd_75, rfl, rfl, ⟨by rw [(p_inj (p_loop_f.symm.trans hl0)).2.1], (p_inj (p_loop_f.symm.trans hl0)).1, hf78, hf79⟩⟩)
set_option maxHeartbeats 4000000 in
set_option maxRecDepth 100000 in
theorem c_X5_readOr_4 (l : Launch) (dG : va_G) (cI cM cW cS : ClassId) (adK adV : Nat → Nat) (fm : Option Nat) (rd rta rlw n : Nat) (tp : Nat → Int32) (a : Nat) (v : Int32) (lc lsk len9 : Nat) (z : Nat) (cd : Nat → Int32) (ok : Bool) (a9 : Nat) (c : List Int32) (hn : n ≤ 160) (ha : a ≤ n) (hz : z ≤ a) (hv : (p_tk tp n a = 2 ∨ p_tk tp n a = 3 → v = p_vl tp n a)) (hr : p_Or tp n 4 a = (ok, a9, c)) : rM l yX5_readOr cX5_readOr 3 none ({ frames := 36, cells := 0, slots := 0, locals := 789 } : Room) dG (tY cI cM cW cS) (rZs adK adV fm) [.ref rd, .int 1] [(rd, .inr (4, [.ref rta, .int (nI n), .int (nI (p_nx tp n a)), .int (p_tk tp n a), .int (nI (p_pl tp n a)), .int v, .int (-1), .ref rlw])), (rta, .inl (cI, 160, .inl tp)), (rlw, .inr (2, [.ref lc, .ref lsk, .ref len9, .int (nI z)])), (lc, .inl (cI, 160, .inl cd))] (fun ov oz => (∃ (a' : Nat) (z' : Nat) (v' : Int32) (cd' : Nat → Int32), ov = none ∧ oz = [(rd, .inr (4, [.ref rta, .int (nI n), .int (nI (p_nx tp n a')), .int (p_tk tp n a'), .int (nI (p_pl tp n a')), .int v', .int (-1), .ref rlw])), (rta, .inl (cI, 160, .inl tp)), (rlw, .inr (2, [.ref lc, .ref lsk, .ref len9, .int (nI z')])), (lc, .inl (cI, 160, .inl cd'))] ∧ a9 = a' ∧ z' = z + c.length ∧ ok = true ∧ (p_tk tp n a' = 2 ∨ p_tk tp n a' = 3 → v' = p_vl tp n a') ∧ (∀ j, cd' j = p_app cd z c j)) ∨ (∃ (rat' : Int32) (rtk' : Int32) (rpl' : Int32) (rva' : Int32) (f' : Nat) (z' : Nat) (cd' : Nat → Int32), ov = none ∧ oz = [(rd, .inr (4, [.ref rta, .int (nI n), .int rat', .int rtk', .int rpl', .int rva', .int (nI f'), .ref rlw])), (rta, .inl (cI, 160, .inl tp)), (rlw, .inr (2, [.ref lc, .ref lsk, .ref len9, .int (nI z')])), (lc, .inl (cI, 160, .inl cd'))] ∧ f' = p_pl tp n a9 ∧ ok = false ∧ z' ≤ 160 ∧ f' ≤ 160)) := by
  refine rM_ofV false (by intro h; cases h) rfl (Nat.le_of_ble_eq_true rfl) rfl (fun X C E => ?_)
  show X 0 0 [(rd, .inr (4, [.ref rta, .int (nI n), .int (nI (p_nx tp n a)), .int (p_tk tp n a), .int (nI (p_pl tp n a)), .int v, .int (-1), .ref rlw])), (rta, .inl (cI, 160, .inl tp)), (rlw, .inr (2, [.ref lc, .ref lsk, .ref len9, .int (nI z)])), (lc, .inl (cI, 160, .inl cd))] [(0, .ref rd), (1, .int 1)] 0 []
  have hpl0 := p_pl_le (tp := tp) ha
  have hpl1 := p_pl_ge (tp := tp) (n := n) (a := a)
  refine x_aload_n C dX5_readOr_0 0 rfl ?_
  refine x_iload_n C dX5_readOr_1 1 rfl ?_
  obtain ⟨⟨ok1, aa1, cc1⟩, hr1⟩ : ∃ r, p_And tp n 4 a = r := ⟨_, rfl⟩
  obtain ⟨ga1, gb1, gc1⟩ := p_And_good 4 _ _ _ _ (show a ≤ n by omega) hr1
  refine x_callV C (As := [.int 1]) (st := []) (wc := [(rd, .inr (4, [.ref rta, .int (nI n), .int (nI (p_nx tp n a)), .int (p_tk tp n a), .int (nI (p_pl tp n a)), .int v, .int (-1), .ref rlw])), (rta, .inl (cI, 160, .inl tp)), (rlw, .inr (2, [.ref lc, .ref lsk, .ref len9, .int (nI z)])), (lc, .inl (cI, 160, .inl cd))]) (wr := []) (c_X5_readAnd_4 l dG cI cM cW cS adK adV fm rd rta rlw n tp a v lc lsk len9 z cd ok1 aa1 cc1 (by first | assumption | omega | decide) (by first | assumption | omega | decide) (by first | assumption | omega | decide) (hv) (hr1)) (rZs_ok adK adV fm) (fun _ _ _ h9 => h9) kV_X5_54 ⟨rfl, hy_X5_readAnd⟩ ⟨Nat.le_of_ble_eq_true rfl, Nat.le_of_ble_eq_true rfl⟩ ⟨Nat.le_of_ble_eq_true rfl, Nat.le_of_ble_eq_true rfl⟩ dX5_readOr_2 0 rfl rfl [0, 1, 2, 3] [] rfl rfl rfl rfl (by decide) rfl (Nat.le_of_ble_eq_true rfl) ?_
  intro v2 w3 h4
  rcases h4 with h4 | h4
  ·
    obtain ⟨_, _, v_7, cd_8, rfl, rfl, ⟨rfl, rfl, hf10, hf11, hf12⟩⟩ := h4
    show X 0 0 [(rd, .inr (4, [.ref rta, .int (nI n), .int (nI (p_nx tp n aa1)), .int (p_tk tp n aa1), .int (nI (p_pl tp n aa1)), .int v_7, .int (-1), .ref rlw])), (rta, .inl (cI, 160, .inl tp)), (rlw, .inr (2, [.ref lc, .ref lsk, .ref len9, .int (nI (z + cc1.length))])), (lc, .inl (cI, 160, .inl cd_8))] [(0, .ref rd), (1, .int 1)] 5 []
    subst hf10
    obtain ⟨gt1, gl1, gd1⟩ := gc1 rfl
    have hl0 : p_loop tp n (p_And tp n 4) p_fO 160 (true, aa1, cc1) = (ok, a9, c) := (p_rep_1 hr1).symm.trans hr
    refine x_iconst C dX5_readOr_5 (v := 0) rfl ?_
    refine x_istore_n C dX5_readOr_6 (by decide) (lv' := [(2, .int 0), (0, .ref rd), (1, .int 1)]) rfl ?_
    have L7_12 : ∀ (fuel : Nat) (k a1 z1 : Nat) (v1 : Int32) (c1 : List Int32) (cd1 : Nat → Int32), (hk : k ≤ 160) → (ha1 : a1 ≤ n) → (hz1 : z1 = z + c1.length) → (hza : z1 ≤ a1) → (hv1 : (p_tk tp n a1 = 2 ∨ p_tk tp n a1 = 3 → v1 = p_vl tp n a1)) → (hcd1 : ∀ j, cd1 j = p_app cd z c1 j) → (hl : p_loop tp n (p_And tp n 4) p_fO (160 - k) (true, a1, c1) = (ok, a9, c)) → 160 - k < fuel → X 0 0 [(rd, .inr (4, [.ref rta, .int (nI n), .int (nI (p_nx tp n a1)), .int (p_tk tp n a1), .int (nI (p_pl tp n a1)), .int v1, .int (-1), .ref rlw])), (rta, .inl (cI, 160, .inl tp)), (rlw, .inr (2, [.ref lc, .ref lsk, .ref len9, .int (nI z1)])), (lc, .inl (cI, 160, .inl cd1))] [(2, .int (nI k)), (1, .int 1), (0, .ref rd)] 7 [] := by
      intro fuel
      induction fuel with
      | zero => intros; omega
      | succ fuel ihL7_12 =>
        intro k a1 z1 v1 c1 cd1 hk ha1 hz1 hza hv1 hcd1 hl hfu
        refine x_iload_n C dX5_readOr_7 0 rfl ?_
        refine x_sipush C dX5_readOr_8 (v := 160) rfl ?_
        refine x_icmp_ge C dX5_readOr_11 (tgt := 47) rfl (fun c14 => ?_) (fun c14 => ?_)
        ·
          have c14 := q_ge_t (a := k) (b := 160) rfl rfl (by omega) (by omega) c14
          have hlz : (true, a1, c1) = (ok, a9, c) := by have h9 := hl; rw [show 160 - k = 0 by omega] at h9; exact h9
          refine E dX5_readOr_47 ?_
          exact Or.inl ⟨a1, z1, v1, cd1, rfl, rfl, ⟨(p_inj hlz).2.1, p_len (p_inj hlz).2.2 (by first | rfl | assumption | (simp only [List.length_append, List.length_singleton]; omega)), (p_inj hlz).1, hv1, fun j => by rw [(p_inj hlz).2.2]; exact hcd1 j⟩⟩
        ·
          have c14 := q_ge_f (a := k) (b := 160) rfl rfl (by omega) (by omega) c14
          refine x_aload_n C dX5_readOr_14 2 rfl ?_
          refine x_bipush C dX5_readOr_15 (v := 7) rfl ?_
          refine x_callV C (As := [.int 7]) (st := []) (wc := [(rd, .inr (4, [.ref rta, .int (nI n), .int (nI (p_nx tp n a1)), .int (p_tk tp n a1), .int (nI (p_pl tp n a1)), .int v1, .int (-1), .ref rlw]))]) (wr := [(rta, .inl (cI, 160, .inl tp)), (rlw, .inr (2, [.ref lc, .ref lsk, .ref len9, .int (nI z1)])), (lc, .inl (cI, 160, .inl cd1))]) (c_X5_has l dG cI cM cW cS rd rta rlw n tp (nI (p_nx tp n a1)) (p_tk tp n a1) (nI (p_pl tp n a1)) v1 (-1) 7 ) rZ0_ok (fun _ _ _ _ => trivial) kV_X5_47 ⟨rfl, hy_X5_has⟩ ⟨Nat.le_of_ble_eq_true rfl, Nat.le_of_ble_eq_true rfl⟩ ⟨Nat.le_of_ble_eq_true rfl, Nat.le_of_ble_eq_true rfl⟩ dX5_readOr_17 0 rfl rfl [0] [1, 2, 3] rfl rfl rfl rfl (by decide) rfl (Nat.le_of_ble_eq_true rfl) ?_
          intro v15 w16 h17
          rcases h17 with h17 | h17
          ·
            obtain ⟨rfl, rfl, hf18⟩ := h17
            show X 0 0 [(rta, .inl (cI, 160, .inl tp)), (rlw, .inr (2, [.ref lc, .ref lsk, .ref len9, .int (nI z1)])), (lc, .inl (cI, 160, .inl cd1)), (rd, .inr (4, [.ref rta, .int (nI n), .int (nI (p_nx tp n a1)), .int (p_tk tp n a1), .int (nI (p_pl tp n a1)), .int v1, .int (-1), .ref rlw]))] [(2, .int (nI k)), (1, .int 1), (0, .ref rd)] 20 [.int 1]
            have ht7 : p_tk tp n a1 = 7 := hf18.2
            have hfop : p_fO (p_tk tp n a1) = -15 := by rw [ht7]; decide
            refine x_if_eq C dX5_readOr_20 (tgt := 47) rfl (fun q9 => absurd q9 (by decide)) (fun _ => ?_)
            refine x_aload_n C dX5_readOr_23 2 rfl ?_
            have hx19 : p_nx tp n a1 ≤ n := p_nx_le (by omega)
            have hx19g : a1 < p_nx tp n a1 := p_nx_gt2 (by rw [ht7]; decide)
            refine x_callV C (As := []) (st := []) (wc := [(rd, .inr (4, [.ref rta, .int (nI n), .int (nI (p_nx tp n a1)), .int (p_tk tp n a1), .int (nI (p_pl tp n a1)), .int v1, .int (-1), .ref rlw])), (rta, .inl (cI, 160, .inl tp))]) (wr := [(rlw, .inr (2, [.ref lc, .ref lsk, .ref len9, .int (nI z1)])), (lc, .inl (cI, 160, .inl cd1))]) (c_X5_advance l dG cI cM cW cS adK adV fm rd rta rlw n tp (p_nx tp n a1) (p_tk tp n a1) (nI (p_pl tp n a1)) v1 (-1) (hx19) (by first | assumption | omega | decide)) (rZs_ok adK adV fm) (fun _ _ _ h9 => h9) kV_X5_34 ⟨rfl, hy_X5_advance⟩ ⟨Nat.le_of_ble_eq_true rfl, Nat.le_of_ble_eq_true rfl⟩ ⟨Nat.le_of_ble_eq_true rfl, Nat.le_of_ble_eq_true rfl⟩ dX5_readOr_24 3 rfl rfl [3, 0] [1, 2] rfl rfl rfl rfl (by decide) rfl (Nat.le_of_ble_eq_true rfl) ?_
            intro v20 w21 h22
            obtain ⟨_, _, _, v_26, rfl, rfl, ⟨rfl, rfl, rfl, hf28⟩⟩ := h22
            show X 0 0 [(rlw, .inr (2, [.ref lc, .ref lsk, .ref len9, .int (nI z1)])), (lc, .inl (cI, 160, .inl cd1)), (rd, .inr (4, [.ref rta, .int (nI n), .int (nI (p_nx tp n (p_nx tp n a1))), .int (p_tk tp n (p_nx tp n a1)), .int (nI (p_pl tp n (p_nx tp n a1))), .int v_26, .int (-1), .ref rlw])), (rta, .inl (cI, 160, .inl tp))] [(2, .int (nI k)), (1, .int 1), (0, .ref rd)] 27 []
            refine x_aload_n C dX5_readOr_27 2 rfl ?_
            refine x_iload_n C dX5_readOr_28 1 rfl ?_
            obtain ⟨⟨ok29, aa29, cc29⟩, hr29⟩ : ∃ r, p_And tp n 4 (p_nx tp n a1) = r := ⟨_, rfl⟩
            obtain ⟨ga29, gb29, gc29⟩ := p_And_good 4 _ _ _ _ (show p_nx tp n a1 ≤ n by omega) hr29
            refine x_callV C (As := [.int 1]) (st := []) (wc := [(rd, .inr (4, [.ref rta, .int (nI n), .int (nI (p_nx tp n (p_nx tp n a1))), .int (p_tk tp n (p_nx tp n a1)), .int (nI (p_pl tp n (p_nx tp n a1))), .int v_26, .int (-1), .ref rlw])), (rta, .inl (cI, 160, .inl tp)), (rlw, .inr (2, [.ref lc, .ref lsk, .ref len9, .int (nI z1)])), (lc, .inl (cI, 160, .inl cd1))]) (wr := []) (c_X5_readAnd_4 l dG cI cM cW cS adK adV fm rd rta rlw n tp (p_nx tp n a1) v_26 lc lsk len9 z1 cd1 ok29 aa29 cc29 (by first | assumption | omega | decide) (by first | assumption | omega | decide) (by first | assumption | omega | decide) (hf28) (hr29)) (rZs_ok adK adV fm) (fun _ _ _ h9 => h9) kV_X5_54 ⟨rfl, hy_X5_readAnd⟩ ⟨Nat.le_of_ble_eq_true rfl, Nat.le_of_ble_eq_true rfl⟩ ⟨Nat.le_of_ble_eq_true rfl, Nat.le_of_ble_eq_true rfl⟩ dX5_readOr_29 2 rfl rfl [2, 3, 0, 1] [] rfl rfl rfl rfl (by decide) rfl (Nat.le_of_ble_eq_true rfl) ?_
            intro v30 w31 h32
            rcases h32 with h32 | h32
            ·
              obtain ⟨_, _, v_35, cd_36, rfl, rfl, ⟨rfl, rfl, hf38, hf39, hf40⟩⟩ := h32
              show X 0 0 [(rd, .inr (4, [.ref rta, .int (nI n), .int (nI (p_nx tp n aa29)), .int (p_tk tp n aa29), .int (nI (p_pl tp n aa29)), .int v_35, .int (-1), .ref rlw])), (rta, .inl (cI, 160, .inl tp)), (rlw, .inr (2, [.ref lc, .ref lsk, .ref len9, .int (nI (z1 + cc29.length))])), (lc, .inl (cI, 160, .inl cd_36))] [(2, .int (nI k)), (1, .int 1), (0, .ref rd)] 32 []
              subst hf38
              obtain ⟨gt29, gl29, gd29⟩ := gc29 rfl
              have hl2 := hl
              rw [show 160 - k = 160 - (k + 1) + 1 by omega, p_loop_s (f := p_fO) (by rw [hfop]; decide) hr29, hfop] at hl2
              refine x_aload_n C dX5_readOr_32 2 rfl ?_
              refine x_get C inlX5 rfl 7 (by decide) gw_6_23 dX5_readOr_33 0 rfl rfl ?_
              refine x_bipush C dX5_readOr_36 (v := (-15)) rfl ?_
              refine x_callV C (As := [.int (-15)]) (st := []) (wc := [(rlw, .inr (2, [.ref lc, .ref lsk, .ref len9, .int (nI (z1 + cc29.length))])), (lc, .inl (cI, 160, .inl cd_36))]) (wr := [(rd, .inr (4, [.ref rta, .int (nI n), .int (nI (p_nx tp n aa29)), .int (p_tk tp n aa29), .int (nI (p_pl tp n aa29)), .int v_35, .int (-1), .ref rlw])), (rta, .inl (cI, 160, .inl tp))]) (c_X3_add l dG cI cM cW cS rlw lc lsk len9 (z1 + cc29.length) cd_36 (-15) (by omega)) rZ0_ok (fun _ _ _ _ => trivial) kV_X5_57 ⟨rfl, hy_X3_add⟩ ⟨Nat.le_of_ble_eq_true rfl, Nat.le_of_ble_eq_true rfl⟩ ⟨Nat.le_of_ble_eq_true rfl, Nat.le_of_ble_eq_true rfl⟩ dX5_readOr_38 2 rfl rfl [2, 3] [0, 1] rfl rfl rfl rfl (by decide) rfl (Nat.le_of_ble_eq_true rfl) ?_
              intro v41 w42 h43
              obtain ⟨rfl, rfl, hf44⟩ := h43
              show X 0 0 [(rd, .inr (4, [.ref rta, .int (nI n), .int (nI (p_nx tp n aa29)), .int (p_tk tp n aa29), .int (nI (p_pl tp n aa29)), .int v_35, .int (-1), .ref rlw])), (rta, .inl (cI, 160, .inl tp)), (rlw, .inr (2, [.ref lc, .ref lsk, .ref len9, .int (nI ((z1 + cc29.length) + 1))])), (lc, .inl (cI, 160, .inl (upd cd_36 (z1 + cc29.length) (-15))))] [(2, .int (nI k)), (1, .int 1), (0, .ref rd)] 41 []
              refine x_iinc C dX5_readOr_41 0 rfl (v := nI (k + 1)) (nI_1 _) (by decide) (lv' := [(2, .int (nI (k + 1))), (1, .int 1), (0, .ref rd)]) rfl ?_
              refine x_goto C dX5_readOr_44 (tgt := 7) rfl ?_
              exact ihL7_12 (k + 1) aa29 ((z1 + cc29.length) + 1) v_35 (c1 ++ cc29 ++ [-15]) (upd cd_36 (z1 + cc29.length) (-15)) (by omega) (by omega) (by simp only [List.length_append, List.length_singleton]; omega) (by omega) (hf39) (p_app_s (p_app_2 hcd1 hf40 hz1) (by simp only [List.length_append]; omega)) (hl2) (by omega)
            ·
              obtain ⟨rat_45, rtk_46, rpl_47, rva_48, _, z_50, cd_51, rfl, rfl, ⟨rfl, hf53, hf54, hf55⟩⟩ := h32
              show X 0 0 [(rd, .inr (4, [.ref rta, .int (nI n), .int rat_45, .int rtk_46, .int rpl_47, .int rva_48, .int (nI (p_pl tp n aa29)), .ref rlw])), (rta, .inl (cI, 160, .inl tp)), (rlw, .inr (2, [.ref lc, .ref lsk, .ref len9, .int (nI z_50)])), (lc, .inl (cI, 160, .inl cd_51))] [(2, .int (nI k)), (1, .int 1), (0, .ref rd)] 32 []
              subst hf53
              have hl2 := hl
              rw [show 160 - k = 160 - (k + 1) + 1 by omega, p_loop_s (f := p_fO) (by rw [hfop]; decide) hr29, hfop] at hl2
              refine x_aload_n C dX5_readOr_32 2 rfl ?_
              refine x_get C inlX5 rfl 7 (by decide) gw_6_23 dX5_readOr_33 0 rfl rfl ?_
              refine x_bipush C dX5_readOr_36 (v := (-15)) rfl ?_
              refine x_callV C (As := [.int (-15)]) (st := []) (wc := [(rlw, .inr (2, [.ref lc, .ref lsk, .ref len9, .int (nI z_50)])), (lc, .inl (cI, 160, .inl cd_51))]) (wr := [(rd, .inr (4, [.ref rta, .int (nI n), .int rat_45, .int rtk_46, .int rpl_47, .int rva_48, .int (nI (p_pl tp n aa29)), .ref rlw])), (rta, .inl (cI, 160, .inl tp))]) (c_X3_add_f l dG cI cM cW cS rlw lc lsk len9 z_50 cd_51 (-15) (hf54)) rZ0_ok (fun _ _ _ _ => trivial) kV_X5_57 ⟨rfl, hy_X3_add⟩ ⟨Nat.le_of_ble_eq_true rfl, Nat.le_of_ble_eq_true rfl⟩ ⟨Nat.le_of_ble_eq_true rfl, Nat.le_of_ble_eq_true rfl⟩ dX5_readOr_38 2 rfl rfl [2, 3] [0, 1] rfl rfl rfl rfl (by decide) rfl (Nat.le_of_ble_eq_true rfl) ?_
              intro v56 w57 h58
              obtain ⟨z_59, cd_60, rfl, rfl, hf61⟩ := h58
              show X 0 0 [(rd, .inr (4, [.ref rta, .int (nI n), .int rat_45, .int rtk_46, .int rpl_47, .int rva_48, .int (nI (p_pl tp n aa29)), .ref rlw])), (rta, .inl (cI, 160, .inl tp)), (rlw, .inr (2, [.ref lc, .ref lsk, .ref len9, .int (nI z_59)])), (lc, .inl (cI, 160, .inl cd_60))] [(2, .int (nI k)), (1, .int 1), (0, .ref rd)] 41 []
              refine x_iinc C dX5_readOr_41 0 rfl (v := nI (k + 1)) (nI_1 _) (by decide) (lv' := [(2, .int (nI (k + 1))), (1, .int 1), (0, .ref rd)]) rfl ?_
              refine x_goto C dX5_readOr_44 (tgt := 7) rfl ?_
              refine x_iload_n C dX5_readOr_7 0 rfl ?_
              refine x_sipush C dX5_readOr_8 (v := 160) rfl ?_
              refine x_icmp_ge C dX5_readOr_11 (tgt := 47) rfl (fun c62 => ?_) (fun c62 => ?_)
              ·
                have c62 := q_ge_t (a := k + 1) (b := 160) rfl rfl (by omega) (by omega) c62
                refine E dX5_readOr_47 ?_
                exact Or.inr (⟨rat_45, rtk_46, rpl_47, rva_48, (p_pl tp n aa29), z_59, cd_60, rfl, rfl, ⟨by rw [(p_inj (p_loop_f.symm.trans hl2)).2.1], (p_inj (p_loop_f.symm.trans hl2)).1, hf61, hf55⟩⟩)
              ·
                have c62 := q_ge_f (a := k + 1) (b := 160) rfl rfl (by omega) (by omega) c62
                refine x_aload_n C dX5_readOr_14 2 rfl ?_
                refine x_bipush C dX5_readOr_15 (v := 7) rfl ?_
                refine x_callV C (As := [.int 7]) (st := []) (wc := [(rd, .inr (4, [.ref rta, .int (nI n), .int rat_45, .int rtk_46, .int rpl_47, .int rva_48, .int (nI (p_pl tp n aa29)), .ref rlw]))]) (wr := [(rta, .inl (cI, 160, .inl tp)), (rlw, .inr (2, [.ref lc, .ref lsk, .ref len9, .int (nI z_59)])), (lc, .inl (cI, 160, .inl cd_60))]) (c_X5_has l dG cI cM cW cS rd rta rlw n tp rat_45 rtk_46 rpl_47 rva_48 (nI (p_pl tp n aa29)) 7 ) rZ0_ok (fun _ _ _ _ => trivial) kV_X5_47 ⟨rfl, hy_X5_has⟩ ⟨Nat.le_of_ble_eq_true rfl, Nat.le_of_ble_eq_true rfl⟩ ⟨Nat.le_of_ble_eq_true rfl, Nat.le_of_ble_eq_true rfl⟩ dX5_readOr_17 0 rfl rfl [0] [1, 2, 3] rfl rfl rfl rfl (by decide) rfl (Nat.le_of_ble_eq_true rfl) ?_
                intro v63 w64 h65
                rcases h65 with h65 | h65
                ·
                  obtain ⟨rfl, rfl, hf66⟩ := h65
                  show X 0 0 [(rta, .inl (cI, 160, .inl tp)), (rlw, .inr (2, [.ref lc, .ref lsk, .ref len9, .int (nI z_59)])), (lc, .inl (cI, 160, .inl cd_60)), (rd, .inr (4, [.ref rta, .int (nI n), .int rat_45, .int rtk_46, .int rpl_47, .int rva_48, .int (nI (p_pl tp n aa29)), .ref rlw]))] [(2, .int (nI (k + 1))), (1, .int 1), (0, .ref rd)] 20 [.int 1]
                  exact absurd hf66.1 (nI_nm1 (by omega))
                ·
                  obtain ⟨rfl, rfl, hf67⟩ := h65
                  show X 0 0 [(rta, .inl (cI, 160, .inl tp)), (rlw, .inr (2, [.ref lc, .ref lsk, .ref len9, .int (nI z_59)])), (lc, .inl (cI, 160, .inl cd_60)), (rd, .inr (4, [.ref rta, .int (nI n), .int rat_45, .int rtk_46, .int rpl_47, .int rva_48, .int (nI (p_pl tp n aa29)), .ref rlw]))] [(2, .int (nI (k + 1))), (1, .int 1), (0, .ref rd)] 20 [.int 0]
                  refine x_if_eq C dX5_readOr_20 (tgt := 47) rfl (fun _ => ?_) (fun q9 => by first | exact absurd q9 (by decide) | exact absurd (by decide) q9)
                  refine x_sub C [3, 0, 1, 2] (ws' := [(rd, .inr (4, [.ref rta, .int (nI n), .int rat_45, .int rtk_46, .int rpl_47, .int rva_48, .int (nI (p_pl tp n aa29)), .ref rlw])), (rta, .inl (cI, 160, .inl tp)), (rlw, .inr (2, [.ref lc, .ref lsk, .ref len9, .int (nI z_59)])), (lc, .inl (cI, 160, .inl cd_60))]) rfl rfl ?_
                  refine E dX5_readOr_47 ?_
                  exact Or.inr (⟨rat_45, rtk_46, rpl_47, rva_48, (p_pl tp n aa29), z_59, cd_60, rfl, rfl, ⟨by rw [(p_inj (p_loop_f.symm.trans hl2)).2.1], (p_inj (p_loop_f.symm.trans hl2)).1, hf61, hf55⟩⟩)
          ·
            obtain ⟨rfl, rfl, hf68⟩ := h17
            show X 0 0 [(rta, .inl (cI, 160, .inl tp)), (rlw, .inr (2, [.ref lc, .ref lsk, .ref len9, .int (nI z1)])), (lc, .inl (cI, 160, .inl cd1)), (rd, .inr (4, [.ref rta, .int (nI n), .int (nI (p_nx tp n a1)), .int (p_tk tp n a1), .int (nI (p_pl tp n a1)), .int v1, .int (-1), .ref rlw]))] [(2, .int (nI k)), (1, .int 1), (0, .ref rd)] 20 [.int 0]
            have ht7 : ¬ p_tk tp n a1 = 7 := fun e => hf68 ⟨rfl, e⟩
            have hf0 : p_fO (p_tk tp n a1) = 0 := if_neg ht7
            refine x_if_eq C dX5_readOr_20 (tgt := 47) rfl (fun _ => ?_) (fun q9 => by first | exact absurd q9 (by decide) | exact absurd (by decide) q9)
            refine x_sub C [3, 0, 1, 2] (ws' := [(rd, .inr (4, [.ref rta, .int (nI n), .int (nI (p_nx tp n a1)), .int (p_tk tp n a1), .int (nI (p_pl tp n a1)), .int v1, .int (-1), .ref rlw])), (rta, .inl (cI, 160, .inl tp)), (rlw, .inr (2, [.ref lc, .ref lsk, .ref len9, .int (nI z1)])), (lc, .inl (cI, 160, .inl cd1))]) rfl rfl ?_
            refine E dX5_readOr_47 ?_
            exact Or.inl ⟨a1, z1, v1, cd1, rfl, rfl, ⟨(p_inj ((p_loop_x hf0).symm.trans hl)).2.1, p_len (p_inj ((p_loop_x hf0).symm.trans hl)).2.2 (by first | rfl | assumption | (simp only [List.length_append, List.length_singleton]; omega)), (p_inj ((p_loop_x hf0).symm.trans hl)).1, hv1, fun j => by rw [(p_inj ((p_loop_x hf0).symm.trans hl)).2.2]; exact hcd1 j⟩⟩
    refine x_lv C [0, 2, 1] (lv' := [(2, .int 0), (1, .int 1), (0, .ref rd)]) rfl ?_
    show X 0 0 [(rd, .inr (4, [.ref rta, .int (nI n), .int (nI (p_nx tp n aa1)), .int (p_tk tp n aa1), .int (nI (p_pl tp n aa1)), .int v_7, .int (-1), .ref rlw])), (rta, .inl (cI, 160, .inl tp)), (rlw, .inr (2, [.ref lc, .ref lsk, .ref len9, .int (nI (z + cc1.length))])), (lc, .inl (cI, 160, .inl cd_8))] [(2, .int (nI 0)), (1, .int 1), (0, .ref rd)] 7 []
    exact L7_12 ((160 - 0) + 1) 0 aa1 (z + cc1.length) v_7 cc1 cd_8 (by decide) (by omega) (rfl) (by omega) (hf11) (hf12) (hl0) (Nat.lt_succ_self _)
  ·
    obtain ⟨rat_69, rtk_70, rpl_71, rva_72, _, z_74, cd_75, rfl, rfl, ⟨rfl, hf77, hf78, hf79⟩⟩ := h4
    show X 0 0 [(rd, .inr (4, [.ref rta, .int (nI n), .int rat_69, .int rtk_70, .int rpl_71, .int rva_72, .int (nI (p_pl tp n aa1)), .ref rlw])), (rta, .inl (cI, 160, .inl tp)), (rlw, .inr (2, [.ref lc, .ref lsk, .ref len9, .int (nI z_74)])), (lc, .inl (cI, 160, .inl cd_75))] [(0, .ref rd), (1, .int 1)] 5 []
    subst hf77
    have hl0 : p_loop tp n (p_And tp n 4) p_fO 160 (false, aa1, cc1) = (ok, a9, c) := (p_rep_1 hr1).symm.trans hr
    refine x_iconst C dX5_readOr_5 (v := 0) rfl ?_
    refine x_istore_n C dX5_readOr_6 (by decide) (lv' := [(2, .int 0), (0, .ref rd), (1, .int 1)]) rfl ?_
    refine x_iload_n C dX5_readOr_7 0 rfl ?_
    refine x_sipush C dX5_readOr_8 (v := 160) rfl ?_
    refine x_icmp_ge C dX5_readOr_11 (tgt := 47) rfl (fun q9 => absurd q9 (by decide)) (fun _ => ?_)
    refine x_aload_n C dX5_readOr_14 1 rfl ?_
    refine x_bipush C dX5_readOr_15 (v := 7) rfl ?_
    refine x_callV C (As := [.int 7]) (st := []) (wc := [(rd, .inr (4, [.ref rta, .int (nI n), .int rat_69, .int rtk_70, .int rpl_71, .int rva_72, .int (nI (p_pl tp n aa1)), .ref rlw]))]) (wr := [(rta, .inl (cI, 160, .inl tp)), (rlw, .inr (2, [.ref lc, .ref lsk, .ref len9, .int (nI z_74)])), (lc, .inl (cI, 160, .inl cd_75))]) (c_X5_has l dG cI cM cW cS rd rta rlw n tp rat_69 rtk_70 rpl_71 rva_72 (nI (p_pl tp n aa1)) 7 ) rZ0_ok (fun _ _ _ _ => trivial) kV_X5_47 ⟨rfl, hy_X5_has⟩ ⟨Nat.le_of_ble_eq_true rfl, Nat.le_of_ble_eq_true rfl⟩ ⟨Nat.le_of_ble_eq_true rfl, Nat.le_of_ble_eq_true rfl⟩ dX5_readOr_17 0 rfl rfl [0] [1, 2, 3] rfl rfl rfl rfl (by decide) rfl (Nat.le_of_ble_eq_true rfl) ?_
    intro v80 w81 h82
    rcases h82 with h82 | h82
    ·
      obtain ⟨rfl, rfl, hf83⟩ := h82
      show X 0 0 [(rta, .inl (cI, 160, .inl tp)), (rlw, .inr (2, [.ref lc, .ref lsk, .ref len9, .int (nI z_74)])), (lc, .inl (cI, 160, .inl cd_75)), (rd, .inr (4, [.ref rta, .int (nI n), .int rat_69, .int rtk_70, .int rpl_71, .int rva_72, .int (nI (p_pl tp n aa1)), .ref rlw]))] [(2, .int 0), (0, .ref rd), (1, .int 1)] 20 [.int 1]
      exact absurd hf83.1 (nI_nm1 (by omega))
    ·
      obtain ⟨rfl, rfl, hf84⟩ := h82
      show X 0 0 [(rta, .inl (cI, 160, .inl tp)), (rlw, .inr (2, [.ref lc, .ref lsk, .ref len9, .int (nI z_74)])), (lc, .inl (cI, 160, .inl cd_75)), (rd, .inr (4, [.ref rta, .int (nI n), .int rat_69, .int rtk_70, .int rpl_71, .int rva_72, .int (nI (p_pl tp n aa1)), .ref rlw]))] [(2, .int 0), (0, .ref rd), (1, .int 1)] 20 [.int 0]
      refine x_if_eq C dX5_readOr_20 (tgt := 47) rfl (fun _ => ?_) (fun q9 => by first | exact absurd q9 (by decide) | exact absurd (by decide) q9)
      refine x_sub C [3, 0, 1, 2] (ws' := [(rd, .inr (4, [.ref rta, .int (nI n), .int rat_69, .int rtk_70, .int rpl_71, .int rva_72, .int (nI (p_pl tp n aa1)), .ref rlw])), (rta, .inl (cI, 160, .inl tp)), (rlw, .inr (2, [.ref lc, .ref lsk, .ref len9, .int (nI z_74)])), (lc, .inl (cI, 160, .inl cd_75))]) rfl rfl ?_
      refine E dX5_readOr_47 ?_
      exact Or.inr (⟨rat_69, rtk_70, rpl_71, rva_72, (p_pl tp n aa1), z_74, cd_75, rfl, rfl, ⟨by rw [(p_inj (p_loop_f.symm.trans hl0)).2.1], (p_inj (p_loop_f.symm.trans hl0)).1, hf78, hf79⟩⟩)
