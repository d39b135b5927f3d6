set_option maxHeartbeats 4000000 in
set_option maxRecDepth 100000 in
theorem c_X5_add_n (l : Launch) (dG : va_G) (cI cM cW cS : ClassId) (rd rta rsz : Nat) (rat rtk rpl rva rfa v : Int32) (tp : Nat → Int32) (hrz : rsz < 160) : rM l yX5_add cX5_add 2 none ({ frames := 0, cells := 0, slots := 0, locals := 0 } : Room) dG (tY cI cM cW cS) rZ0 [.ref rd, .int v] [(rd, .inr (4, [.ref rta, .int (nI rsz), .int rat, .int rtk, .int rpl, .int rva, .int rfa, .null])), (rta, .inl (cI, 160, .inl tp))] (fun ov oz => ov = none ∧ oz = [(rd, .inr (4, [.ref rta, .int (nI (rsz + 1)), .int rat, .int rtk, .int rpl, .int rva, .int rfa, .null])), (rta, .inl (cI, 160, .inl (upd tp rsz v)))] ∧ True) := by
  refine rM_ofV false (by intro h; cases h) rfl (Nat.le_of_ble_eq_true rfl) rfl (fun X C E => ?_)
  show X 0 0 [(rd, .inr (4, [.ref rta, .int (nI rsz), .int rat, .int rtk, .int rpl, .int rva, .int rfa, .null])), (rta, .inl (cI, 160, .inl tp))] [(0, .ref rd), (1, .int v)] 0 []
  refine x_aload_n C dX5_add_0 0 rfl ?_
  refine x_get C inlX5 rfl 1 (by decide) gw_6_18 dX5_add_1 0 rfl rfl ?_
  refine x_sipush C dX5_add_4 (v := 160) rfl ?_
  refine x_icmp_lt C dX5_add_7 (tgt := 11) rfl (fun c1 => ?_) (fun c1 => ?_)
  ·
    have c1 : rsz < 160 := q_lt_t rfl (rfl : (160 : Int32) = nI 160) (by omega) (by omega) c1
    refine x_aload_n C dX5_add_11 0 rfl ?_
    refine x_get C inlX5 rfl 0 (by decide) gw_4_1 dX5_add_12 0 rfl rfl ?_
    refine x_aload_n C dX5_add_15 0 rfl ?_
    refine x_get C inlX5 rfl 1 (by decide) gw_6_18 dX5_add_16 0 rfl rfl ?_
    refine x_iload_n C dX5_add_19 1 rfl ?_
    refine x_iastore C 0 rfl dX5_add_20 rsz (q_cl rfl (by omega)) (q_ix rfl (by omega) (by omega)) 1 rfl ?_
    show X _ _ [(rd, .inr (4, [.ref rta, .int (nI rsz), .int rat, .int rtk, .int rpl, .int rva, .int rfa, .null])), (rta, .inl (cI, 160, .inl (upd tp rsz v)))] _ _ _
    refine x_aload_n C dX5_add_21 0 rfl ?_
    refine x_dup C dX5_add_22 rfl ?_
    refine x_get C inlX5 rfl 1 (by decide) gw_6_18 dX5_add_23 0 rfl rfl ?_
    refine x_iconst C dX5_add_26 (v := 1) rfl ?_
    show X _ _ _ _ 27 _
    refine x_iadd C dX5_add_27 ?_
    refine x_topi C (nI (rsz + 1)) (q_iadd (a := rsz) (b := 1) rfl (rfl : (1 : Int32) = nI 1)) ?_
    refine x_put C inlX5 rfl tyX5 tyX5_ok nmX5 1 (by decide) gw_6_18 rfl dX5_add_28 0 rfl (rfl) rfl (Nat.le_of_ble_eq_true rfl) ?_
    show X _ _ [(rd, .inr (4, [.ref rta, .int (nI (rsz + 1)), .int rat, .int rtk, .int rpl, .int rva, .int rfa, .null])), (rta, .inl (cI, 160, .inl (upd tp rsz v)))] _ _ _
    refine E dX5_add_31 ?_
    exact ⟨rfl, rfl, by trivial⟩
  ·
    have c1 : rsz ≥ 160 := q_lt_f rfl (rfl : (160 : Int32) = nI 160) (by omega) (by omega) c1
    exfalso; omega
set_option maxHeartbeats 4000000 in
set_option maxRecDepth 100000 in
theorem c_X5_read_n (l : Launch) (dG : va_G) (cI cM cW cS : ClassId) (adK adV : Nat → Nat) (fm : Option Nat) (rd rta n q qc qs qe : Nat) (tp : Nat → Int32) (rat rtk rpl rva rfa sz : Int32) (cd en : Nat → Int32) (hn : n ≤ 160) : rM l yX5_read cX5_read 3 (some .int) ({ frames := 43, cells := 0, slots := 0, locals := 943 } : Room) dG (tY cI cM cW cS) (rZs adK adV fm) [.ref rd, .ref q] [(rd, .inr (4, [.ref rta, .int (nI n), .int rat, .int rtk, .int rpl, .int rva, .int rfa, .null])), (rta, .inl (cI, 160, .inl tp)), (q, .inr (2, [.ref qc, .ref qs, .ref qe, .int sz])), (qc, .inl (cI, 160, .inl cd)), (qe, .inl (cI, 3, .inl en))] (fun ov oz => (∃ (rat' : Int32) (rtk' : Int32) (rpl' : Int32) (rva' : Int32) (rfa' : Int32) (sz' : Int32) (cd' : Nat → Int32) (en' : Nat → Int32), ov = some (.int (-1)) ∧ oz = [(rd, .inr (4, [.ref rta, .int (nI 0), .int rat', .int rtk', .int rpl', .int rva', .int rfa', .ref q])), (rta, .inl (cI, 160, .inl tp)), (q, .inr (2, [.ref qc, .ref qs, .ref qe, .int sz'])), (qc, .inl (cI, 160, .inl cd')), (qe, .inl (cI, 3, .inl en'))] ∧ (p_txt tp n).1 = true ∧ s_law cd' en' (p_txt tp n).2.2 ∧ s_ok (p_txt tp n).2.2) ∨ (∃ (rat' : Int32) (rtk' : Int32) (rpl' : Int32) (rva' : Int32) (rfa' : Int32) (sz' : Int32) (cd' : Nat → Int32) (en' : Nat → Int32) (f' : Nat), ov = some (.int (nI f')) ∧ oz = [(rd, .inr (4, [.ref rta, .int (nI 0), .int rat', .int rtk', .int rpl', .int rva', .int rfa', .ref q])), (rta, .inl (cI, 160, .inl tp)), (q, .inr (2, [.ref qc, .ref qs, .ref qe, .int sz'])), (qc, .inl (cI, 160, .inl cd')), (qe, .inl (cI, 3, .inl en'))] ∧ (p_txt tp n).1 = false ∧ f' = p_pl tp n (p_txt tp n).2.1 ∧ f' ≤ 160)) := by
  refine rM_ofI rfl (Nat.le_of_ble_eq_true rfl) rfl (fun X C E => ?_)
  show X 0 0 [(rd, .inr (4, [.ref rta, .int (nI n), .int rat, .int rtk, .int rpl, .int rva, .int rfa, .null])), (rta, .inl (cI, 160, .inl tp)), (q, .inr (2, [.ref qc, .ref qs, .ref qe, .int sz])), (qc, .inl (cI, 160, .inl cd)), (qe, .inl (cI, 3, .inl en))] [(0, .ref rd), (1, .ref q)] 0 []
  refine x_aload_n C dX5_read_0 0 rfl ?_
  refine x_aload_n C dX5_read_1 1 rfl ?_
  refine x_put C inlX5 rfl tyX5 tyX5_ok nmX5 7 (by decide) gw_6_23 rfl dX5_read_2 0 rfl (rfl) rfl (Nat.le_of_ble_eq_true rfl) ?_
  show X _ _ [(rd, .inr (4, [.ref rta, .int (nI n), .int rat, .int rtk, .int rpl, .int rva, .int rfa, .ref q])), (rta, .inl (cI, 160, .inl tp)), (q, .inr (2, [.ref qc, .ref qs, .ref qe, .int sz])), (qc, .inl (cI, 160, .inl cd)), (qe, .inl (cI, 3, .inl en))] _ _ _
  refine x_aload_n C dX5_read_5 0 rfl ?_
  refine x_get C inlX5 rfl 7 (by decide) gw_6_23 dX5_read_6 0 rfl rfl ?_
  refine x_callV C (As := []) (st := []) (wc := [(q, .inr (2, [.ref qc, .ref qs, .ref qe, .int sz]))]) (wr := [(rd, .inr (4, [.ref rta, .int (nI n), .int rat, .int rtk, .int rpl, .int rva, .int rfa, .ref q])), (rta, .inl (cI, 160, .inl tp)), (qc, .inl (cI, 160, .inl cd)), (qe, .inl (cI, 3, .inl en))]) (c_X3_clear_i l dG cI cM cW cS q qc qs qe sz ) rZ0_ok (fun _ _ _ _ => trivial) kV_X5_23 ⟨rfl, hy_X3_clear⟩ ⟨Nat.le_of_ble_eq_true rfl, Nat.le_of_ble_eq_true rfl⟩ ⟨Nat.le_of_ble_eq_true rfl, Nat.le_of_ble_eq_true rfl⟩ dX5_read_9 2 rfl rfl [2] [0, 1, 3, 4] rfl rfl rfl rfl (by decide) rfl (Nat.le_of_ble_eq_true rfl) ?_
  intro v1 w2 h3
  obtain ⟨rfl, rfl, hf4⟩ := h3
  show X 0 0 [(rd, .inr (4, [.ref rta, .int (nI n), .int rat, .int rtk, .int rpl, .int rva, .int rfa, .ref q])), (rta, .inl (cI, 160, .inl tp)), (qc, .inl (cI, 160, .inl cd)), (qe, .inl (cI, 3, .inl en)), (q, .inr (2, [.ref qc, .ref qs, .ref qe, .int (nI 0)]))] [(0, .ref rd), (1, .ref q)] 12 []
  refine x_aload_n C dX5_read_12 0 rfl ?_
  refine x_iconst C dX5_read_13 (v := 0) rfl ?_
  refine x_put C inlX5 rfl tyX5 tyX5_ok nmX5 2 (by decide) gw_7_0 rfl dX5_read_14 0 rfl (rfl) rfl (Nat.le_of_ble_eq_true rfl) ?_
  show X _ _ [(rd, .inr (4, [.ref rta, .int (nI n), .int 0, .int rtk, .int rpl, .int rva, .int rfa, .ref q])), (rta, .inl (cI, 160, .inl tp)), (qc, .inl (cI, 160, .inl cd)), (qe, .inl (cI, 3, .inl en)), (q, .inr (2, [.ref qc, .ref qs, .ref qe, .int (nI 0)]))] _ _ _
  refine x_aload_n C dX5_read_17 0 rfl ?_
  show X _ _ _ _ 18 _
  refine x_iconst C dX5_read_18 (v := (-1)) rfl ?_
  refine x_put C inlX5 rfl tyX5 tyX5_ok nmX5 6 (by decide) gw_7_1 rfl dX5_read_19 0 rfl (rfl) rfl (Nat.le_of_ble_eq_true rfl) ?_
  show X _ _ [(rd, .inr (4, [.ref rta, .int (nI n), .int 0, .int rtk, .int rpl, .int rva, .int (-1), .ref q])), (rta, .inl (cI, 160, .inl tp)), (qc, .inl (cI, 160, .inl cd)), (qe, .inl (cI, 3, .inl en)), (q, .inr (2, [.ref qc, .ref qs, .ref qe, .int (nI 0)]))] _ _ _
  refine x_aload_n C dX5_read_22 0 rfl ?_
  refine x_callV C (As := []) (st := []) (wc := [(rd, .inr (4, [.ref rta, .int (nI n), .int 0, .int rtk, .int rpl, .int rva, .int (-1), .ref q])), (rta, .inl (cI, 160, .inl tp))]) (wr := [(qc, .inl (cI, 160, .inl cd)), (qe, .inl (cI, 3, .inl en)), (q, .inr (2, [.ref qc, .ref qs, .ref qe, .int (nI 0)]))]) (c_X5_advance l dG cI cM cW cS adK adV fm rd rta q n tp 0 rtk rpl rva (-1) (Nat.zero_le n) (by first | assumption | omega | decide)) (rZs_ok adK adV fm) (fun _ _ _ h9 => h9) kV_X5_34 ⟨rfl, hy_X5_advance⟩ ⟨Nat.le_of_ble_eq_true rfl, Nat.le_of_ble_eq_true rfl⟩ ⟨Nat.le_of_ble_eq_true rfl, Nat.le_of_ble_eq_true rfl⟩ dX5_read_23 0 rfl rfl [0, 1] [2, 3, 4] rfl rfl rfl rfl (by decide) rfl (Nat.le_of_ble_eq_true rfl) ?_
  intro v5 w6 h7
  obtain ⟨_, _, _, v_11, rfl, rfl, ⟨rfl, rfl, rfl, hf13⟩⟩ := h7
  show X 0 0 [(qc, .inl (cI, 160, .inl cd)), (qe, .inl (cI, 3, .inl en)), (q, .inr (2, [.ref qc, .ref qs, .ref qe, .int (nI 0)])), (rd, .inr (4, [.ref rta, .int (nI n), .int (nI (p_nx tp n 0)), .int (p_tk tp n 0), .int (nI (p_pl tp n 0)), .int v_11, .int (-1), .ref q])), (rta, .inl (cI, 160, .inl tp))] [(0, .ref rd), (1, .ref q)] 26 []
  refine x_iconst C dX5_read_26 (v := 0) rfl ?_
  refine x_istore_n C dX5_read_27 (by decide) (lv' := [(2, .int 0), (0, .ref rd), (1, .ref q)]) rfl ?_
  refine x_iload_n C dX5_read_28 0 rfl ?_
  refine x_iconst C dX5_read_29 (v := 3) rfl ?_
  refine x_icmp_ge C dX5_read_30 (tgt := 65) rfl (fun q9 => absurd q9 (by decide)) (fun _ => ?_)
  refine x_aload_n C dX5_read_33 1 rfl ?_
  show X _ _ _ _ 34 _
  refine x_iconst C dX5_read_34 (v := 4) rfl ?_
  refine x_iload_n C dX5_read_35 0 rfl ?_
  refine x_iadd C dX5_read_36 ?_
  refine x_topi C 4 (by decide) ?_
  refine x_callV C (As := [.int 4]) (st := []) (wc := [(rd, .inr (4, [.ref rta, .int (nI n), .int (nI (p_nx tp n 0)), .int (p_tk tp n 0), .int (nI (p_pl tp n 0)), .int v_11, .int (-1), .ref q])), (rta, .inl (cI, 160, .inl tp))]) (wr := [(qc, .inl (cI, 160, .inl cd)), (qe, .inl (cI, 3, .inl en)), (q, .inr (2, [.ref qc, .ref qs, .ref qe, .int (nI 0)]))]) (c_X5_expect l dG cI cM cW cS adK adV fm rd rta q n tp 0 v_11 4 (by first | assumption | omega | decide) (by first | assumption | omega | decide)) (rZs_ok adK adV fm) (fun _ _ _ h9 => h9) kV_X5_37 ⟨rfl, hy_X5_expect⟩ ⟨Nat.le_of_ble_eq_true rfl, Nat.le_of_ble_eq_true rfl⟩ ⟨Nat.le_of_ble_eq_true rfl, Nat.le_of_ble_eq_true rfl⟩ dX5_read_37 3 rfl rfl [3, 4] [0, 1, 2] rfl rfl rfl rfl (by decide) rfl (Nat.le_of_ble_eq_true rfl) ?_
  intro v14 w15 h16
  rcases h16 with h16 | h16
  ·
    obtain ⟨v_17, rfl, rfl, hf18⟩ := h16
    show X 0 0 [(qc, .inl (cI, 160, .inl cd)), (qe, .inl (cI, 3, .inl en)), (q, .inr (2, [.ref qc, .ref qs, .ref qe, .int (nI 0)])), (rd, .inr (4, [.ref rta, .int (nI n), .int (nI (p_nx tp n (p_nx tp n 0))), .int (p_tk tp n (p_nx tp n 0)), .int (nI (p_pl tp n (p_nx tp n 0))), .int v_17, .int (-1), .ref q])), (rta, .inl (cI, 160, .inl tp))] [(2, .int 0), (0, .ref rd), (1, .ref q)] 40 []
    have hv19 := hf18.2
    have hx20 : p_nx tp n 0 ≤ n := p_nx_le (by omega)
    have hx20g : 0 < p_nx tp n 0 := p_nx_gt2 (by rw [hf18.1]; decide)
    have htw := hf18.1
    refine x_aload_n C dX5_read_40 1 rfl ?_
    refine x_iconst C dX5_read_41 (v := 0) rfl ?_
    obtain ⟨⟨ok21, aa21, cc21⟩, hr21⟩ : ∃ r, p_Or tp n 5 (p_nx tp n 0) = r := ⟨_, rfl⟩
    obtain ⟨ga21, gb21, gc21⟩ := p_Or_good 5 _ _ _ _ (show p_nx tp n 0 ≤ n by omega) hr21
    refine x_callV C (As := [.int 0]) (st := []) (wc := [(rd, .inr (4, [.ref rta, .int (nI n), .int (nI (p_nx tp n (p_nx tp n 0))), .int (p_tk tp n (p_nx tp n 0)), .int (nI (p_pl tp n (p_nx tp n 0))), .int v_17, .int (-1), .ref q])), (rta, .inl (cI, 160, .inl tp)), (q, .inr (2, [.ref qc, .ref qs, .ref qe, .int (nI 0)])), (qc, .inl (cI, 160, .inl cd))]) (wr := [(qe, .inl (cI, 3, .inl en))]) (c_X5_readOr_5 l dG cI cM cW cS adK adV fm rd rta q n tp (p_nx tp n 0) v_17 qc qs qe 0 cd ok21 aa21 cc21 (by first | assumption | omega | decide) (by first | assumption | omega | decide) (by first | assumption | omega | decide) (hv19) (hr21)) (rZs_ok adK adV fm) (fun _ _ _ h9 => h9) kV_X5_41 ⟨rfl, hy_X5_readOr⟩ ⟨Nat.le_of_ble_eq_true rfl, Nat.le_of_ble_eq_true rfl⟩ ⟨Nat.le_of_ble_eq_true rfl, Nat.le_of_ble_eq_true rfl⟩ dX5_read_42 3 rfl rfl [3, 4, 2, 0] [1] rfl rfl rfl rfl (by decide) rfl (Nat.le_of_ble_eq_true rfl) ?_
    intro v22 w23 h24
    rcases h24 with h24 | h24
    ·
      obtain ⟨_, _, v_27, cd_28, rfl, rfl, ⟨rfl, rfl, hf30, hf31, hf32⟩⟩ := h24
      show X 0 0 [(qe, .inl (cI, 3, .inl en)), (rd, .inr (4, [.ref rta, .int (nI n), .int (nI (p_nx tp n aa21)), .int (p_tk tp n aa21), .int (nI (p_pl tp n aa21)), .int v_27, .int (-1), .ref q])), (rta, .inl (cI, 160, .inl tp)), (q, .inr (2, [.ref qc, .ref qs, .ref qe, .int (nI (0 + cc21.length))])), (qc, .inl (cI, 160, .inl cd_28))] [(2, .int 0), (0, .ref rd), (1, .ref q)] 45 []
      subst hf30
      obtain ⟨gt21, gl21, gd21⟩ := gc21 rfl
      refine x_aload_n C dX5_read_45 1 rfl ?_
      refine x_get C inlX5 rfl 7 (by decide) gw_6_23 dX5_read_46 1 rfl rfl ?_
      refine x_iload_n C dX5_read_49 0 rfl ?_
      refine x_callV C (As := [.int (nI 0)]) (st := []) (wc := [(q, .inr (2, [.ref qc, .ref qs, .ref qe, .int (nI (0 + cc21.length))])), (qe, .inl (cI, 3, .inl en))]) (wr := [(rd, .inr (4, [.ref rta, .int (nI n), .int (nI (p_nx tp n aa21)), .int (p_tk tp n aa21), .int (nI (p_pl tp n aa21)), .int v_27, .int (-1), .ref q])), (rta, .inl (cI, 160, .inl tp)), (qc, .inl (cI, 160, .inl cd_28))]) (c_X3_endPart l dG cI cM cW cS q qc qs qe (0 + cc21.length) 0 en (by first | assumption | omega | decide)) rZ0_ok (fun _ _ _ _ => trivial) kV_X5_44 ⟨rfl, hy_X3_endPart⟩ ⟨Nat.le_of_ble_eq_true rfl, Nat.le_of_ble_eq_true rfl⟩ ⟨Nat.le_of_ble_eq_true rfl, Nat.le_of_ble_eq_true rfl⟩ dX5_read_50 3 rfl rfl [3, 0] [1, 2, 4] rfl rfl rfl rfl (by decide) rfl (Nat.le_of_ble_eq_true rfl) ?_
      intro v33 w34 h35
      obtain ⟨rfl, rfl, hf36⟩ := h35
      show X 0 0 [(rd, .inr (4, [.ref rta, .int (nI n), .int (nI (p_nx tp n aa21)), .int (p_tk tp n aa21), .int (nI (p_pl tp n aa21)), .int v_27, .int (-1), .ref q])), (rta, .inl (cI, 160, .inl tp)), (qc, .inl (cI, 160, .inl cd_28)), (q, .inr (2, [.ref qc, .ref qs, .ref qe, .int (nI (0 + cc21.length))])), (qe, .inl (cI, 3, .inl (upd en 0 (nI (0 + cc21.length)))))] [(2, .int 0), (0, .ref rd), (1, .ref q)] 53 []
      refine x_aload_n C dX5_read_53 1 rfl ?_
      refine x_bipush C dX5_read_54 (v := 59) rfl ?_
      refine x_callV C (As := [.int 59]) (st := []) (wc := [(rd, .inr (4, [.ref rta, .int (nI n), .int (nI (p_nx tp n aa21)), .int (p_tk tp n aa21), .int (nI (p_pl tp n aa21)), .int v_27, .int (-1), .ref q])), (rta, .inl (cI, 160, .inl tp))]) (wr := [(qc, .inl (cI, 160, .inl cd_28)), (q, .inr (2, [.ref qc, .ref qs, .ref qe, .int (nI (0 + cc21.length))])), (qe, .inl (cI, 3, .inl (upd en 0 (nI (0 + cc21.length)))))]) (c_X5_expect l dG cI cM cW cS adK adV fm rd rta q n tp aa21 v_27 59 (by first | assumption | omega | decide) (by first | assumption | omega | decide)) (rZs_ok adK adV fm) (fun _ _ _ h9 => h9) kV_X5_37 ⟨rfl, hy_X5_expect⟩ ⟨Nat.le_of_ble_eq_true rfl, Nat.le_of_ble_eq_true rfl⟩ ⟨Nat.le_of_ble_eq_true rfl, Nat.le_of_ble_eq_true rfl⟩ dX5_read_56 0 rfl rfl [0, 1] [2, 3, 4] rfl rfl rfl rfl (by decide) rfl (Nat.le_of_ble_eq_true rfl) ?_
      intro v37 w38 h39
      rcases h39 with h39 | h39
      ·
        obtain ⟨v_40, rfl, rfl, hf41⟩ := h39
        show X 0 0 [(qc, .inl (cI, 160, .inl cd_28)), (q, .inr (2, [.ref qc, .ref qs, .ref qe, .int (nI (0 + cc21.length))])), (qe, .inl (cI, 3, .inl (upd en 0 (nI (0 + cc21.length))))), (rd, .inr (4, [.ref rta, .int (nI n), .int (nI (p_nx tp n (p_nx tp n aa21))), .int (p_tk tp n (p_nx tp n aa21)), .int (nI (p_pl tp n (p_nx tp n aa21))), .int v_40, .int (-1), .ref q])), (rta, .inl (cI, 160, .inl tp))] [(2, .int 0), (0, .ref rd), (1, .ref q)] 59 []
        have hv42 := hf41.2
        have hx43 : p_nx tp n aa21 ≤ n := p_nx_le (by omega)
        have hx43g : aa21 < p_nx tp n aa21 := p_nx_gt2 (by rw [hf41.1]; decide)
        have hp44 := p_part_t htw hr21 hf41.1
        refine x_iinc C dX5_read_59 0 rfl (v := 1) (rfl) (by decide) (lv' := [(2, .int 1), (0, .ref rd), (1, .ref q)]) rfl ?_
        refine x_goto C dX5_read_62 (tgt := 28) rfl ?_
        refine x_iload_n C dX5_read_28 0 rfl ?_
        refine x_iconst C dX5_read_29 (v := 3) rfl ?_
        refine x_icmp_ge C dX5_read_30 (tgt := 65) rfl (fun q9 => absurd q9 (by decide)) (fun _ => ?_)
        refine x_aload_n C dX5_read_33 1 rfl ?_
        refine x_iconst C dX5_read_34 (v := 4) rfl ?_
        refine x_iload_n C dX5_read_35 0 rfl ?_
        refine x_iadd C dX5_read_36 ?_
        refine x_topi C 5 (by decide) ?_
        refine x_callV C (As := [.int 5]) (st := []) (wc := [(rd, .inr (4, [.ref rta, .int (nI n), .int (nI (p_nx tp n (p_nx tp n aa21))), .int (p_tk tp n (p_nx tp n aa21)), .int (nI (p_pl tp n (p_nx tp n aa21))), .int v_40, .int (-1), .ref q])), (rta, .inl (cI, 160, .inl tp))]) (wr := [(qc, .inl (cI, 160, .inl cd_28)), (q, .inr (2, [.ref qc, .ref qs, .ref qe, .int (nI (0 + cc21.length))])), (qe, .inl (cI, 3, .inl (upd en 0 (nI (0 + cc21.length)))))]) (c_X5_expect l dG cI cM cW cS adK adV fm rd rta q n tp (p_nx tp n aa21) v_40 5 (by first | assumption | omega | decide) (by first | assumption | omega | decide)) (rZs_ok adK adV fm) (fun _ _ _ h9 => h9) kV_X5_37 ⟨rfl, hy_X5_expect⟩ ⟨Nat.le_of_ble_eq_true rfl, Nat.le_of_ble_eq_true rfl⟩ ⟨Nat.le_of_ble_eq_true rfl, Nat.le_of_ble_eq_true rfl⟩ dX5_read_37 3 rfl rfl [3, 4] [0, 1, 2] rfl rfl rfl rfl (by decide) rfl (Nat.le_of_ble_eq_true rfl) ?_
        intro v45 w46 h47
        rcases h47 with h47 | h47
        ·
          obtain ⟨v_48, rfl, rfl, hf49⟩ := h47
          show X 0 0 [(qc, .inl (cI, 160, .inl cd_28)), (q, .inr (2, [.ref qc, .ref qs, .ref qe, .int (nI (0 + cc21.length))])), (qe, .inl (cI, 3, .inl (upd en 0 (nI (0 + cc21.length))))), (rd, .inr (4, [.ref rta, .int (nI n), .int (nI (p_nx tp n (p_nx tp n (p_nx tp n aa21)))), .int (p_tk tp n (p_nx tp n (p_nx tp n aa21))), .int (nI (p_pl tp n (p_nx tp n (p_nx tp n aa21)))), .int v_48, .int (-1), .ref q])), (rta, .inl (cI, 160, .inl tp))] [(2, .int 1), (0, .ref rd), (1, .ref q)] 40 []
          have hv50 := hf49.2
          have hx51 : p_nx tp n (p_nx tp n aa21) ≤ n := p_nx_le (by omega)
          have hx51g : p_nx tp n aa21 < p_nx tp n (p_nx tp n aa21) := p_nx_gt2 (by rw [hf49.1]; decide)
          have htw := hf49.1
          refine x_aload_n C dX5_read_40 1 rfl ?_
          refine x_iconst C dX5_read_41 (v := 0) rfl ?_
          obtain ⟨⟨ok52, aa52, cc52⟩, hr52⟩ : ∃ r, p_Or tp n 5 (p_nx tp n (p_nx tp n aa21)) = r := ⟨_, rfl⟩
          obtain ⟨ga52, gb52, gc52⟩ := p_Or_good 5 _ _ _ _ (show p_nx tp n (p_nx tp n aa21) ≤ n by omega) hr52
          refine x_callV C (As := [.int 0]) (st := []) (wc := [(rd, .inr (4, [.ref rta, .int (nI n), .int (nI (p_nx tp n (p_nx tp n (p_nx tp n aa21)))), .int (p_tk tp n (p_nx tp n (p_nx tp n aa21))), .int (nI (p_pl tp n (p_nx tp n (p_nx tp n aa21)))), .int v_48, .int (-1), .ref q])), (rta, .inl (cI, 160, .inl tp)), (q, .inr (2, [.ref qc, .ref qs, .ref qe, .int (nI (0 + cc21.length))])), (qc, .inl (cI, 160, .inl cd_28))]) (wr := [(qe, .inl (cI, 3, .inl (upd en 0 (nI (0 + cc21.length)))))]) (c_X5_readOr_5 l dG cI cM cW cS adK adV fm rd rta q n tp (p_nx tp n (p_nx tp n aa21)) v_48 qc qs qe (0 + cc21.length) cd_28 ok52 aa52 cc52 (by first | assumption | omega | decide) (by first | assumption | omega | decide) (by first | assumption | omega | decide) (hv50) (hr52)) (rZs_ok adK adV fm) (fun _ _ _ h9 => h9) kV_X5_41 ⟨rfl, hy_X5_readOr⟩ ⟨Nat.le_of_ble_eq_true rfl, Nat.le_of_ble_eq_true rfl⟩ ⟨Nat.le_of_ble_eq_true rfl, Nat.le_of_ble_eq_true rfl⟩ dX5_read_42 3 rfl rfl [3, 4, 1, 0] [2] rfl rfl rfl rfl (by decide) rfl (Nat.le_of_ble_eq_true rfl) ?_
          intro v53 w54 h55
          rcases h55 with h55 | h55
          ·
            obtain ⟨_, _, v_58, cd_59, rfl, rfl, ⟨rfl, rfl, hf61, hf62, hf63⟩⟩ := h55
            show X 0 0 [(qe, .inl (cI, 3, .inl (upd en 0 (nI (0 + cc21.length))))), (rd, .inr (4, [.ref rta, .int (nI n), .int (nI (p_nx tp n aa52)), .int (p_tk tp n aa52), .int (nI (p_pl tp n aa52)), .int v_58, .int (-1), .ref q])), (rta, .inl (cI, 160, .inl tp)), (q, .inr (2, [.ref qc, .ref qs, .ref qe, .int (nI ((0 + cc21.length) + cc52.length))])), (qc, .inl (cI, 160, .inl cd_59))] [(2, .int 1), (0, .ref rd), (1, .ref q)] 45 []
            subst hf61
            obtain ⟨gt52, gl52, gd52⟩ := gc52 rfl
            refine x_aload_n C dX5_read_45 1 rfl ?_
            refine x_get C inlX5 rfl 7 (by decide) gw_6_23 dX5_read_46 1 rfl rfl ?_
            refine x_iload_n C dX5_read_49 0 rfl ?_
            refine x_callV C (As := [.int (nI 1)]) (st := []) (wc := [(q, .inr (2, [.ref qc, .ref qs, .ref qe, .int (nI ((0 + cc21.length) + cc52.length))])), (qe, .inl (cI, 3, .inl (upd en 0 (nI (0 + cc21.length)))))]) (wr := [(rd, .inr (4, [.ref rta, .int (nI n), .int (nI (p_nx tp n aa52)), .int (p_tk tp n aa52), .int (nI (p_pl tp n aa52)), .int v_58, .int (-1), .ref q])), (rta, .inl (cI, 160, .inl tp)), (qc, .inl (cI, 160, .inl cd_59))]) (c_X3_endPart l dG cI cM cW cS q qc qs qe ((0 + cc21.length) + cc52.length) 1 (upd en 0 (nI (0 + cc21.length))) (by first | assumption | omega | decide)) rZ0_ok (fun _ _ _ _ => trivial) kV_X5_44 ⟨rfl, hy_X3_endPart⟩ ⟨Nat.le_of_ble_eq_true rfl, Nat.le_of_ble_eq_true rfl⟩ ⟨Nat.le_of_ble_eq_true rfl, Nat.le_of_ble_eq_true rfl⟩ dX5_read_50 3 rfl rfl [3, 0] [1, 2, 4] rfl rfl rfl rfl (by decide) rfl (Nat.le_of_ble_eq_true rfl) ?_
            intro v64 w65 h66
            obtain ⟨rfl, rfl, hf67⟩ := h66
            show X 0 0 [(rd, .inr (4, [.ref rta, .int (nI n), .int (nI (p_nx tp n aa52)), .int (p_tk tp n aa52), .int (nI (p_pl tp n aa52)), .int v_58, .int (-1), .ref q])), (rta, .inl (cI, 160, .inl tp)), (qc, .inl (cI, 160, .inl cd_59)), (q, .inr (2, [.ref qc, .ref qs, .ref qe, .int (nI ((0 + cc21.length) + cc52.length))])), (qe, .inl (cI, 3, .inl (upd (upd en 0 (nI (0 + cc21.length))) 1 (nI ((0 + cc21.length) + cc52.length)))))] [(2, .int 1), (0, .ref rd), (1, .ref q)] 53 []
            refine x_aload_n C dX5_read_53 1 rfl ?_
            refine x_bipush C dX5_read_54 (v := 59) rfl ?_
            refine x_callV C (As := [.int 59]) (st := []) (wc := [(rd, .inr (4, [.ref rta, .int (nI n), .int (nI (p_nx tp n aa52)), .int (p_tk tp n aa52), .int (nI (p_pl tp n aa52)), .int v_58, .int (-1), .ref q])), (rta, .inl (cI, 160, .inl tp))]) (wr := [(qc, .inl (cI, 160, .inl cd_59)), (q, .inr (2, [.ref qc, .ref qs, .ref qe, .int (nI ((0 + cc21.length) + cc52.length))])), (qe, .inl (cI, 3, .inl (upd (upd en 0 (nI (0 + cc21.length))) 1 (nI ((0 + cc21.length) + cc52.length)))))]) (c_X5_expect l dG cI cM cW cS adK adV fm rd rta q n tp aa52 v_58 59 (by first | assumption | omega | decide) (by first | assumption | omega | decide)) (rZs_ok adK adV fm) (fun _ _ _ h9 => h9) kV_X5_37 ⟨rfl, hy_X5_expect⟩ ⟨Nat.le_of_ble_eq_true rfl, Nat.le_of_ble_eq_true rfl⟩ ⟨Nat.le_of_ble_eq_true rfl, Nat.le_of_ble_eq_true rfl⟩ dX5_read_56 0 rfl rfl [0, 1] [2, 3, 4] rfl rfl rfl rfl (by decide) rfl (Nat.le_of_ble_eq_true rfl) ?_
            intro v68 w69 h70
            rcases h70 with h70 | h70
            ·
              obtain ⟨v_71, rfl, rfl, hf72⟩ := h70
              show X 0 0 [(qc, .inl (cI, 160, .inl cd_59)), (q, .inr (2, [.ref qc, .ref qs, .ref qe, .int (nI ((0 + cc21.length) + cc52.length))])), (qe, .inl (cI, 3, .inl (upd (upd en 0 (nI (0 + cc21.length))) 1 (nI ((0 + cc21.length) + cc52.length))))), (rd, .inr (4, [.ref rta, .int (nI n), .int (nI (p_nx tp n (p_nx tp n aa52))), .int (p_tk tp n (p_nx tp n aa52)), .int (nI (p_pl tp n (p_nx tp n aa52))), .int v_71, .int (-1), .ref q])), (rta, .inl (cI, 160, .inl tp))] [(2, .int 1), (0, .ref rd), (1, .ref q)] 59 []
              have hv73 := hf72.2
              have hx74 : p_nx tp n aa52 ≤ n := p_nx_le (by omega)
              have hx74g : aa52 < p_nx tp n aa52 := p_nx_gt2 (by rw [hf72.1]; decide)
              have hp75 := p_part_t htw hr52 hf72.1
              refine x_iinc C dX5_read_59 0 rfl (v := 2) (rfl) (by decide) (lv' := [(2, .int 2), (0, .ref rd), (1, .ref q)]) rfl ?_
              refine x_goto C dX5_read_62 (tgt := 28) rfl ?_
              refine x_iload_n C dX5_read_28 0 rfl ?_
              refine x_iconst C dX5_read_29 (v := 3) rfl ?_
              refine x_icmp_ge C dX5_read_30 (tgt := 65) rfl (fun q9 => absurd q9 (by decide)) (fun _ => ?_)
              refine x_aload_n C dX5_read_33 1 rfl ?_
              refine x_iconst C dX5_read_34 (v := 4) rfl ?_
              refine x_iload_n C dX5_read_35 0 rfl ?_
              refine x_iadd C dX5_read_36 ?_
              refine x_topi C 6 (by decide) ?_
              refine x_callV C (As := [.int 6]) (st := []) (wc := [(rd, .inr (4, [.ref rta, .int (nI n), .int (nI (p_nx tp n (p_nx tp n aa52))), .int (p_tk tp n (p_nx tp n aa52)), .int (nI (p_pl tp n (p_nx tp n aa52))), .int v_71, .int (-1), .ref q])), (rta, .inl (cI, 160, .inl tp))]) (wr := [(qc, .inl (cI, 160, .inl cd_59)), (q, .inr (2, [.ref qc, .ref qs, .ref qe, .int (nI ((0 + cc21.length) + cc52.length))])), (qe, .inl (cI, 3, .inl (upd (upd en 0 (nI (0 + cc21.length))) 1 (nI ((0 + cc21.length) + cc52.length)))))]) (c_X5_expect l dG cI cM cW cS adK adV fm rd rta q n tp (p_nx tp n aa52) v_71 6 (by first | assumption | omega | decide) (by first | assumption | omega | decide)) (rZs_ok adK adV fm) (fun _ _ _ h9 => h9) kV_X5_37 ⟨rfl, hy_X5_expect⟩ ⟨Nat.le_of_ble_eq_true rfl, Nat.le_of_ble_eq_true rfl⟩ ⟨Nat.le_of_ble_eq_true rfl, Nat.le_of_ble_eq_true rfl⟩ dX5_read_37 3 rfl rfl [3, 4] [0, 1, 2] rfl rfl rfl rfl (by decide) rfl (Nat.le_of_ble_eq_true rfl) ?_
              intro v76 w77 h78
              rcases h78 with h78 | h78
              ·
                obtain ⟨v_79, rfl, rfl, hf80⟩ := h78
                show X 0 0 [(qc, .inl (cI, 160, .inl cd_59)), (q, .inr (2, [.ref qc, .ref qs, .ref qe, .int (nI ((0 + cc21.length) + cc52.length))])), (qe, .inl (cI, 3, .inl (upd (upd en 0 (nI (0 + cc21.length))) 1 (nI ((0 + cc21.length) + cc52.length))))), (rd, .inr (4, [.ref rta, .int (nI n), .int (nI (p_nx tp n (p_nx tp n (p_nx tp n aa52)))), .int (p_tk tp n (p_nx tp n (p_nx tp n aa52))), .int (nI (p_pl tp n (p_nx tp n (p_nx tp n aa52)))), .int v_79, .int (-1), .ref q])), (rta, .inl (cI, 160, .inl tp))] [(2, .int 2), (0, .ref rd), (1, .ref q)] 40 []
                have hv81 := hf80.2
                have hx82 : p_nx tp n (p_nx tp n aa52) ≤ n := p_nx_le (by omega)
                have hx82g : p_nx tp n aa52 < p_nx tp n (p_nx tp n aa52) := p_nx_gt2 (by rw [hf80.1]; decide)
                have htw := hf80.1
                refine x_aload_n C dX5_read_40 1 rfl ?_
                refine x_iconst C dX5_read_41 (v := 0) rfl ?_
                obtain ⟨⟨ok83, aa83, cc83⟩, hr83⟩ : ∃ r, p_Or tp n 5 (p_nx tp n (p_nx tp n aa52)) = r := ⟨_, rfl⟩
                obtain ⟨ga83, gb83, gc83⟩ := p_Or_good 5 _ _ _ _ (show p_nx tp n (p_nx tp n aa52) ≤ n by omega) hr83
                refine x_callV C (As := [.int 0]) (st := []) (wc := [(rd, .inr (4, [.ref rta, .int (nI n), .int (nI (p_nx tp n (p_nx tp n (p_nx tp n aa52)))), .int (p_tk tp n (p_nx tp n (p_nx tp n aa52))), .int (nI (p_pl tp n (p_nx tp n (p_nx tp n aa52)))), .int v_79, .int (-1), .ref q])), (rta, .inl (cI, 160, .inl tp)), (q, .inr (2, [.ref qc, .ref qs, .ref qe, .int (nI ((0 + cc21.length) + cc52.length))])), (qc, .inl (cI, 160, .inl cd_59))]) (wr := [(qe, .inl (cI, 3, .inl (upd (upd en 0 (nI (0 + cc21.length))) 1 (nI ((0 + cc21.length) + cc52.length)))))]) (c_X5_readOr_5 l dG cI cM cW cS adK adV fm rd rta q n tp (p_nx tp n (p_nx tp n aa52)) v_79 qc qs qe ((0 + cc21.length) + cc52.length) cd_59 ok83 aa83 cc83 (by first | assumption | omega | decide) (by first | assumption | omega | decide) (by first | assumption | omega | decide) (hv81) (hr83)) (rZs_ok adK adV fm) (fun _ _ _ h9 => h9) kV_X5_41 ⟨rfl, hy_X5_readOr⟩ ⟨Nat.le_of_ble_eq_true rfl, Nat.le_of_ble_eq_true rfl⟩ ⟨Nat.le_of_ble_eq_true rfl, Nat.le_of_ble_eq_true rfl⟩ dX5_read_42 3 rfl rfl [3, 4, 1, 0] [2] rfl rfl rfl rfl (by decide) rfl (Nat.le_of_ble_eq_true rfl) ?_
                intro v84 w85 h86
                rcases h86 with h86 | h86
                ·
                  obtain ⟨_, _, v_89, cd_90, rfl, rfl, ⟨rfl, rfl, hf92, hf93, hf94⟩⟩ := h86
                  show X 0 0 [(qe, .inl (cI, 3, .inl (upd (upd en 0 (nI (0 + cc21.length))) 1 (nI ((0 + cc21.length) + cc52.length))))), (rd, .inr (4, [.ref rta, .int (nI n), .int (nI (p_nx tp n aa83)), .int (p_tk tp n aa83), .int (nI (p_pl tp n aa83)), .int v_89, .int (-1), .ref q])), (rta, .inl (cI, 160, .inl tp)), (q, .inr (2, [.ref qc, .ref qs, .ref qe, .int (nI (((0 + cc21.length) + cc52.length) + cc83.length))])), (qc, .inl (cI, 160, .inl cd_90))] [(2, .int 2), (0, .ref rd), (1, .ref q)] 45 []
                  subst hf92
                  obtain ⟨gt83, gl83, gd83⟩ := gc83 rfl
                  refine x_aload_n C dX5_read_45 1 rfl ?_
                  refine x_get C inlX5 rfl 7 (by decide) gw_6_23 dX5_read_46 1 rfl rfl ?_
                  refine x_iload_n C dX5_read_49 0 rfl ?_
                  refine x_callV C (As := [.int (nI 2)]) (st := []) (wc := [(q, .inr (2, [.ref qc, .ref qs, .ref qe, .int (nI (((0 + cc21.length) + cc52.length) + cc83.length))])), (qe, .inl (cI, 3, .inl (upd (upd en 0 (nI (0 + cc21.length))) 1 (nI ((0 + cc21.length) + cc52.length)))))]) (wr := [(rd, .inr (4, [.ref rta, .int (nI n), .int (nI (p_nx tp n aa83)), .int (p_tk tp n aa83), .int (nI (p_pl tp n aa83)), .int v_89, .int (-1), .ref q])), (rta, .inl (cI, 160, .inl tp)), (qc, .inl (cI, 160, .inl cd_90))]) (c_X3_endPart l dG cI cM cW cS q qc qs qe (((0 + cc21.length) + cc52.length) + cc83.length) 2 (upd (upd en 0 (nI (0 + cc21.length))) 1 (nI ((0 + cc21.length) + cc52.length))) (by first | assumption | omega | decide)) rZ0_ok (fun _ _ _ _ => trivial) kV_X5_44 ⟨rfl, hy_X3_endPart⟩ ⟨Nat.le_of_ble_eq_true rfl, Nat.le_of_ble_eq_true rfl⟩ ⟨Nat.le_of_ble_eq_true rfl, Nat.le_of_ble_eq_true rfl⟩ dX5_read_50 3 rfl rfl [3, 0] [1, 2, 4] rfl rfl rfl rfl (by decide) rfl (Nat.le_of_ble_eq_true rfl) ?_
                  intro v95 w96 h97
                  obtain ⟨rfl, rfl, hf98⟩ := h97
                  show X 0 0 [(rd, .inr (4, [.ref rta, .int (nI n), .int (nI (p_nx tp n aa83)), .int (p_tk tp n aa83), .int (nI (p_pl tp n aa83)), .int v_89, .int (-1), .ref q])), (rta, .inl (cI, 160, .inl tp)), (qc, .inl (cI, 160, .inl cd_90)), (q, .inr (2, [.ref qc, .ref qs, .ref qe, .int (nI (((0 + cc21.length) + cc52.length) + cc83.length))])), (qe, .inl (cI, 3, .inl (upd (upd (upd en 0 (nI (0 + cc21.length))) 1 (nI ((0 + cc21.length) + cc52.length))) 2 (nI (((0 + cc21.length) + cc52.length) + cc83.length)))))] [(2, .int 2), (0, .ref rd), (1, .ref q)] 53 []
                  refine x_aload_n C dX5_read_53 1 rfl ?_
                  refine x_bipush C dX5_read_54 (v := 59) rfl ?_
                  refine x_callV C (As := [.int 59]) (st := []) (wc := [(rd, .inr (4, [.ref rta, .int (nI n), .int (nI (p_nx tp n aa83)), .int (p_tk tp n aa83), .int (nI (p_pl tp n aa83)), .int v_89, .int (-1), .ref q])), (rta, .inl (cI, 160, .inl tp))]) (wr := [(qc, .inl (cI, 160, .inl cd_90)), (q, .inr (2, [.ref qc, .ref qs, .ref qe, .int (nI (((0 + cc21.length) + cc52.length) + cc83.length))])), (qe, .inl (cI, 3, .inl (upd (upd (upd en 0 (nI (0 + cc21.length))) 1 (nI ((0 + cc21.length) + cc52.length))) 2 (nI (((0 + cc21.length) + cc52.length) + cc83.length)))))]) (c_X5_expect l dG cI cM cW cS adK adV fm rd rta q n tp aa83 v_89 59 (by first | assumption | omega | decide) (by first | assumption | omega | decide)) (rZs_ok adK adV fm) (fun _ _ _ h9 => h9) kV_X5_37 ⟨rfl, hy_X5_expect⟩ ⟨Nat.le_of_ble_eq_true rfl, Nat.le_of_ble_eq_true rfl⟩ ⟨Nat.le_of_ble_eq_true rfl, Nat.le_of_ble_eq_true rfl⟩ dX5_read_56 0 rfl rfl [0, 1] [2, 3, 4] rfl rfl rfl rfl (by decide) rfl (Nat.le_of_ble_eq_true rfl) ?_
                  intro v99 w100 h101
                  rcases h101 with h101 | h101
                  ·
                    obtain ⟨v_102, rfl, rfl, hf103⟩ := h101
                    show X 0 0 [(qc, .inl (cI, 160, .inl cd_90)), (q, .inr (2, [.ref qc, .ref qs, .ref qe, .int (nI (((0 + cc21.length) + cc52.length) + cc83.length))])), (qe, .inl (cI, 3, .inl (upd (upd (upd en 0 (nI (0 + cc21.length))) 1 (nI ((0 + cc21.length) + cc52.length))) 2 (nI (((0 + cc21.length) + cc52.length) + cc83.length))))), (rd, .inr (4, [.ref rta, .int (nI n), .int (nI (p_nx tp n (p_nx tp n aa83))), .int (p_tk tp n (p_nx tp n aa83)), .int (nI (p_pl tp n (p_nx tp n aa83))), .int v_102, .int (-1), .ref q])), (rta, .inl (cI, 160, .inl tp))] [(2, .int 2), (0, .ref rd), (1, .ref q)] 59 []
                    have hv104 := hf103.2
                    have hx105 : p_nx tp n aa83 ≤ n := p_nx_le (by omega)
                    have hx105g : aa83 < p_nx tp n aa83 := p_nx_gt2 (by rw [hf103.1]; decide)
                    have hp106 := p_part_t htw hr83 hf103.1
                    refine x_iinc C dX5_read_59 0 rfl (v := 3) (rfl) (by decide) (lv' := [(2, .int 3), (0, .ref rd), (1, .ref q)]) rfl ?_
                    refine x_goto C dX5_read_62 (tgt := 28) rfl ?_
                    refine x_iload_n C dX5_read_28 0 rfl ?_
                    refine x_iconst C dX5_read_29 (v := 3) rfl ?_
                    refine x_icmp_ge C dX5_read_30 (tgt := 65) rfl (fun _ => ?_) (fun q9 => by first | exact absurd q9 (by decide) | exact absurd (by decide) q9)
                    refine x_aload_n C dX5_read_65 1 rfl ?_
                    refine x_iconst C dX5_read_66 (v := 0) rfl ?_
                    refine x_callV C (As := [.int 0]) (st := []) (wc := [(rd, .inr (4, [.ref rta, .int (nI n), .int (nI (p_nx tp n (p_nx tp n aa83))), .int (p_tk tp n (p_nx tp n aa83)), .int (nI (p_pl tp n (p_nx tp n aa83))), .int v_102, .int (-1), .ref q]))]) (wr := [(qc, .inl (cI, 160, .inl cd_90)), (q, .inr (2, [.ref qc, .ref qs, .ref qe, .int (nI (((0 + cc21.length) + cc52.length) + cc83.length))])), (qe, .inl (cI, 3, .inl (upd (upd (upd en 0 (nI (0 + cc21.length))) 1 (nI ((0 + cc21.length) + cc52.length))) 2 (nI (((0 + cc21.length) + cc52.length) + cc83.length))))), (rta, .inl (cI, 160, .inl tp))]) (c_X5_has l dG cI cM cW cS rd rta q n tp (nI (p_nx tp n (p_nx tp n aa83))) (p_tk tp n (p_nx tp n aa83)) (nI (p_pl tp n (p_nx tp n aa83))) v_102 (-1) 0 ) rZ0_ok (fun _ _ _ _ => trivial) kV_X5_47 ⟨rfl, hy_X5_has⟩ ⟨Nat.le_of_ble_eq_true rfl, Nat.le_of_ble_eq_true rfl⟩ ⟨Nat.le_of_ble_eq_true rfl, Nat.le_of_ble_eq_true rfl⟩ dX5_read_67 3 rfl rfl [3] [0, 1, 2, 4] rfl rfl rfl rfl (by decide) rfl (Nat.le_of_ble_eq_true rfl) ?_
                    intro v107 w108 h109
                    rcases h109 with h109 | h109
                    ·
                      obtain ⟨rfl, rfl, hf110⟩ := h109
                      show X 0 0 [(qc, .inl (cI, 160, .inl cd_90)), (q, .inr (2, [.ref qc, .ref qs, .ref qe, .int (nI (((0 + cc21.length) + cc52.length) + cc83.length))])), (qe, .inl (cI, 3, .inl (upd (upd (upd en 0 (nI (0 + cc21.length))) 1 (nI ((0 + cc21.length) + cc52.length))) 2 (nI (((0 + cc21.length) + cc52.length) + cc83.length))))), (rta, .inl (cI, 160, .inl tp)), (rd, .inr (4, [.ref rta, .int (nI n), .int (nI (p_nx tp n (p_nx tp n aa83))), .int (p_tk tp n (p_nx tp n aa83)), .int (nI (p_pl tp n (p_nx tp n aa83))), .int v_102, .int (-1), .ref q]))] [(2, .int 3), (0, .ref rd), (1, .ref q)] 70 [.int 1]
                      have ht0 : p_tk tp n (p_nx tp n aa83) = 0 := hf110.2
                      refine x_if_ne C dX5_read_70 (tgt := 77) rfl (fun _ => ?_) (fun q9 => by first | exact absurd q9 (by decide) | exact absurd (by decide) q9)
                      refine x_aload_n C dX5_read_77 1 rfl ?_
                      refine x_iconst C dX5_read_78 (v := 0) rfl ?_
                      refine x_put C inlX5 rfl tyX5 tyX5_ok nmX5 1 (by decide) gw_6_18 rfl dX5_read_79 4 rfl (rfl) rfl (Nat.le_of_ble_eq_true rfl) ?_
                      show X _ _ [(qc, .inl (cI, 160, .inl cd_90)), (q, .inr (2, [.ref qc, .ref qs, .ref qe, .int (nI (((0 + cc21.length) + cc52.length) + cc83.length))])), (qe, .inl (cI, 3, .inl (upd (upd (upd en 0 (nI (0 + cc21.length))) 1 (nI ((0 + cc21.length) + cc52.length))) 2 (nI (((0 + cc21.length) + cc52.length) + cc83.length))))), (rta, .inl (cI, 160, .inl tp)), (rd, .inr (4, [.ref rta, .int 0, .int (nI (p_nx tp n (p_nx tp n aa83))), .int (p_tk tp n (p_nx tp n aa83)), .int (nI (p_pl tp n (p_nx tp n aa83))), .int v_102, .int (-1), .ref q]))] _ _ _
                      refine x_aload_n C dX5_read_82 1 rfl ?_
                      refine x_get C inlX5 rfl 6 (by decide) gw_7_1 dX5_read_83 4 rfl rfl ?_
                      refine x_sub C [4, 3, 1, 0, 2] (ws' := [(rd, .inr (4, [.ref rta, .int 0, .int (nI (p_nx tp n (p_nx tp n aa83))), .int (p_tk tp n (p_nx tp n aa83)), .int (nI (p_pl tp n (p_nx tp n aa83))), .int v_102, .int (-1), .ref q])), (rta, .inl (cI, 160, .inl tp)), (q, .inr (2, [.ref qc, .ref qs, .ref qe, .int (nI (((0 + cc21.length) + cc52.length) + cc83.length))])), (qc, .inl (cI, 160, .inl cd_90)), (qe, .inl (cI, 3, .inl (upd (upd (upd en 0 (nI (0 + cc21.length))) 1 (nI ((0 + cc21.length) + cc52.length))) 2 (nI (((0 + cc21.length) + cc52.length) + cc83.length)))))]) rfl rfl ?_
                      refine E dX5_read_86 (rfl) ?_
                      exact Or.inl ⟨(nI (p_nx tp n (p_nx tp n aa83))), (p_tk tp n (p_nx tp n aa83)), (nI (p_pl tp n (p_nx tp n aa83))), v_102, (-1), (nI (((0 + cc21.length) + cc52.length) + cc83.length)), cd_90, (upd (upd (upd en 0 (nI (0 + cc21.length))) 1 (nI ((0 + cc21.length) + cc52.length))) 2 (nI (((0 + cc21.length) + cc52.length) + cc83.length))), rfl, rfl, ⟨by rw [(p_txt_t hp44 hp75 hp106 ht0)], by rw [(p_txt_t hp44 hp75 hp106 ht0)]; exact p_T_law hf32 hf63 hf94 (by omega) (by omega) (by omega), by rw [(p_txt_t hp44 hp75 hp106 ht0)]; exact p_T_ok gd21 gd52 gd83 (by omega)⟩⟩
                    ·
                      obtain ⟨rfl, rfl, hf111⟩ := h109
                      show X 0 0 [(qc, .inl (cI, 160, .inl cd_90)), (q, .inr (2, [.ref qc, .ref qs, .ref qe, .int (nI (((0 + cc21.length) + cc52.length) + cc83.length))])), (qe, .inl (cI, 3, .inl (upd (upd (upd en 0 (nI (0 + cc21.length))) 1 (nI ((0 + cc21.length) + cc52.length))) 2 (nI (((0 + cc21.length) + cc52.length) + cc83.length))))), (rta, .inl (cI, 160, .inl tp)), (rd, .inr (4, [.ref rta, .int (nI n), .int (nI (p_nx tp n (p_nx tp n aa83))), .int (p_tk tp n (p_nx tp n aa83)), .int (nI (p_pl tp n (p_nx tp n aa83))), .int v_102, .int (-1), .ref q]))] [(2, .int 3), (0, .ref rd), (1, .ref q)] 70 [.int 0]
                      have ht0 : ¬ p_tk tp n (p_nx tp n aa83) = 0 := fun e => hf111 ⟨rfl, e⟩
                      refine x_if_ne C dX5_read_70 (tgt := 77) rfl (fun q9 => absurd q9 (by decide)) (fun _ => ?_)
                      refine x_aload_n C dX5_read_73 1 rfl ?_
                      refine x_callV C (As := []) (st := []) (wc := [(rd, .inr (4, [.ref rta, .int (nI n), .int (nI (p_nx tp n (p_nx tp n aa83))), .int (p_tk tp n (p_nx tp n aa83)), .int (nI (p_pl tp n (p_nx tp n aa83))), .int v_102, .int (-1), .ref q]))]) (wr := [(qc, .inl (cI, 160, .inl cd_90)), (q, .inr (2, [.ref qc, .ref qs, .ref qe, .int (nI (((0 + cc21.length) + cc52.length) + cc83.length))])), (qe, .inl (cI, 3, .inl (upd (upd (upd en 0 (nI (0 + cc21.length))) 1 (nI ((0 + cc21.length) + cc52.length))) 2 (nI (((0 + cc21.length) + cc52.length) + cc83.length))))), (rta, .inl (cI, 160, .inl tp))]) (c_X5_faultHere l dG cI cM cW cS rd rta q n tp (nI (p_nx tp n (p_nx tp n aa83))) (p_tk tp n (p_nx tp n aa83)) (nI (p_pl tp n (p_nx tp n aa83))) v_102 ) rZ0_ok (fun _ _ _ _ => trivial) kV_X5_51 ⟨rfl, hy_X5_faultHere⟩ ⟨Nat.le_of_ble_eq_true rfl, Nat.le_of_ble_eq_true rfl⟩ ⟨Nat.le_of_ble_eq_true rfl, Nat.le_of_ble_eq_true rfl⟩ dX5_read_74 4 rfl rfl [4] [0, 1, 2, 3] rfl rfl rfl rfl (by decide) rfl (Nat.le_of_ble_eq_true rfl) ?_
                      intro v112 w113 h114
                      obtain ⟨rfl, rfl, hf115⟩ := h114
                      show X 0 0 [(qc, .inl (cI, 160, .inl cd_90)), (q, .inr (2, [.ref qc, .ref qs, .ref qe, .int (nI (((0 + cc21.length) + cc52.length) + cc83.length))])), (qe, .inl (cI, 3, .inl (upd (upd (upd en 0 (nI (0 + cc21.length))) 1 (nI ((0 + cc21.length) + cc52.length))) 2 (nI (((0 + cc21.length) + cc52.length) + cc83.length))))), (rta, .inl (cI, 160, .inl tp)), (rd, .inr (4, [.ref rta, .int (nI n), .int (nI (p_nx tp n (p_nx tp n aa83))), .int (p_tk tp n (p_nx tp n aa83)), .int (nI (p_pl tp n (p_nx tp n aa83))), .int v_102, .int (nI (p_pl tp n (p_nx tp n aa83))), .ref q]))] [(2, .int 3), (0, .ref rd), (1, .ref q)] 77 []
                      refine x_aload_n C dX5_read_77 1 rfl ?_
                      refine x_iconst C dX5_read_78 (v := 0) rfl ?_
                      refine x_put C inlX5 rfl tyX5 tyX5_ok nmX5 1 (by decide) gw_6_18 rfl dX5_read_79 4 rfl (rfl) rfl (Nat.le_of_ble_eq_true rfl) ?_
                      show X _ _ [(qc, .inl (cI, 160, .inl cd_90)), (q, .inr (2, [.ref qc, .ref qs, .ref qe, .int (nI (((0 + cc21.length) + cc52.length) + cc83.length))])), (qe, .inl (cI, 3, .inl (upd (upd (upd en 0 (nI (0 + cc21.length))) 1 (nI ((0 + cc21.length) + cc52.length))) 2 (nI (((0 + cc21.length) + cc52.length) + cc83.length))))), (rta, .inl (cI, 160, .inl tp)), (rd, .inr (4, [.ref rta, .int 0, .int (nI (p_nx tp n (p_nx tp n aa83))), .int (p_tk tp n (p_nx tp n aa83)), .int (nI (p_pl tp n (p_nx tp n aa83))), .int v_102, .int (nI (p_pl tp n (p_nx tp n aa83))), .ref q]))] _ _ _
                      refine x_aload_n C dX5_read_82 1 rfl ?_
                      refine x_get C inlX5 rfl 6 (by decide) gw_7_1 dX5_read_83 4 rfl rfl ?_
                      refine x_sub C [4, 3, 1, 0, 2] (ws' := [(rd, .inr (4, [.ref rta, .int 0, .int (nI (p_nx tp n (p_nx tp n aa83))), .int (p_tk tp n (p_nx tp n aa83)), .int (nI (p_pl tp n (p_nx tp n aa83))), .int v_102, .int (nI (p_pl tp n (p_nx tp n aa83))), .ref q])), (rta, .inl (cI, 160, .inl tp)), (q, .inr (2, [.ref qc, .ref qs, .ref qe, .int (nI (((0 + cc21.length) + cc52.length) + cc83.length))])), (qc, .inl (cI, 160, .inl cd_90)), (qe, .inl (cI, 3, .inl (upd (upd (upd en 0 (nI (0 + cc21.length))) 1 (nI ((0 + cc21.length) + cc52.length))) 2 (nI (((0 + cc21.length) + cc52.length) + cc83.length)))))]) rfl rfl ?_
                      refine E dX5_read_86 (rfl) ?_
                      exact Or.inr (⟨(nI (p_nx tp n (p_nx tp n aa83))), (p_tk tp n (p_nx tp n aa83)), (nI (p_pl tp n (p_nx tp n aa83))), v_102, (nI (p_pl tp n (p_nx tp n aa83))), (nI (((0 + cc21.length) + cc52.length) + cc83.length)), cd_90, (upd (upd (upd en 0 (nI (0 + cc21.length))) 1 (nI ((0 + cc21.length) + cc52.length))) 2 (nI (((0 + cc21.length) + cc52.length) + cc83.length))), (p_pl tp n (p_nx tp n aa83)), rfl, rfl, ⟨(p_txt_3 hp44 hp75 hp106 ht0).1, by rw [(p_txt_3 hp44 hp75 hp106 ht0).2], (Nat.le_trans (p_pl_le (by omega)) hn)⟩⟩)
                  ·
                    obtain ⟨rfl, rfl, hf116⟩ := h101
                    show X 0 0 [(qc, .inl (cI, 160, .inl cd_90)), (q, .inr (2, [.ref qc, .ref qs, .ref qe, .int (nI (((0 + cc21.length) + cc52.length) + cc83.length))])), (qe, .inl (cI, 3, .inl (upd (upd (upd en 0 (nI (0 + cc21.length))) 1 (nI ((0 + cc21.length) + cc52.length))) 2 (nI (((0 + cc21.length) + cc52.length) + cc83.length))))), (rd, .inr (4, [.ref rta, .int (nI n), .int (nI (p_nx tp n aa83)), .int (p_tk tp n aa83), .int (nI (p_pl tp n aa83)), .int v_89, .int (nI (p_pl tp n aa83)), .ref q])), (rta, .inl (cI, 160, .inl tp))] [(2, .int 2), (0, .ref rd), (1, .ref q)] 59 []
                    have hp117 := p_part_s htw hr83 hf116
                    have hfb9 : p_pl tp n aa83 ≤ 160 := Nat.le_trans (p_pl_le (by omega)) hn
                    refine x_iinc C dX5_read_59 0 rfl (v := 3) (rfl) (by decide) (lv' := [(2, .int 3), (0, .ref rd), (1, .ref q)]) rfl ?_
                    refine x_goto C dX5_read_62 (tgt := 28) rfl ?_
                    refine x_iload_n C dX5_read_28 0 rfl ?_
                    refine x_iconst C dX5_read_29 (v := 3) rfl ?_
                    refine x_icmp_ge C dX5_read_30 (tgt := 65) rfl (fun _ => ?_) (fun q9 => by first | exact absurd q9 (by decide) | exact absurd (by decide) q9)
                    refine x_aload_n C dX5_read_65 1 rfl ?_
                    refine x_iconst C dX5_read_66 (v := 0) rfl ?_
                    refine x_callV C (As := [.int 0]) (st := []) (wc := [(rd, .inr (4, [.ref rta, .int (nI n), .int (nI (p_nx tp n aa83)), .int (p_tk tp n aa83), .int (nI (p_pl tp n aa83)), .int v_89, .int (nI (p_pl tp n aa83)), .ref q]))]) (wr := [(qc, .inl (cI, 160, .inl cd_90)), (q, .inr (2, [.ref qc, .ref qs, .ref qe, .int (nI (((0 + cc21.length) + cc52.length) + cc83.length))])), (qe, .inl (cI, 3, .inl (upd (upd (upd en 0 (nI (0 + cc21.length))) 1 (nI ((0 + cc21.length) + cc52.length))) 2 (nI (((0 + cc21.length) + cc52.length) + cc83.length))))), (rta, .inl (cI, 160, .inl tp))]) (c_X5_has l dG cI cM cW cS rd rta q n tp (nI (p_nx tp n aa83)) (p_tk tp n aa83) (nI (p_pl tp n aa83)) v_89 (nI (p_pl tp n aa83)) 0 ) rZ0_ok (fun _ _ _ _ => trivial) kV_X5_47 ⟨rfl, hy_X5_has⟩ ⟨Nat.le_of_ble_eq_true rfl, Nat.le_of_ble_eq_true rfl⟩ ⟨Nat.le_of_ble_eq_true rfl, Nat.le_of_ble_eq_true rfl⟩ dX5_read_67 3 rfl rfl [3] [0, 1, 2, 4] rfl rfl rfl rfl (by decide) rfl (Nat.le_of_ble_eq_true rfl) ?_
                    intro v118 w119 h120
                    rcases h120 with h120 | h120
                    ·
                      obtain ⟨rfl, rfl, hf121⟩ := h120
                      show X 0 0 [(qc, .inl (cI, 160, .inl cd_90)), (q, .inr (2, [.ref qc, .ref qs, .ref qe, .int (nI (((0 + cc21.length) + cc52.length) + cc83.length))])), (qe, .inl (cI, 3, .inl (upd (upd (upd en 0 (nI (0 + cc21.length))) 1 (nI ((0 + cc21.length) + cc52.length))) 2 (nI (((0 + cc21.length) + cc52.length) + cc83.length))))), (rta, .inl (cI, 160, .inl tp)), (rd, .inr (4, [.ref rta, .int (nI n), .int (nI (p_nx tp n aa83)), .int (p_tk tp n aa83), .int (nI (p_pl tp n aa83)), .int v_89, .int (nI (p_pl tp n aa83)), .ref q]))] [(2, .int 3), (0, .ref rd), (1, .ref q)] 70 [.int 1]
                      exact absurd hf121.1 (nI_nm1 (by omega))
                    ·
                      obtain ⟨rfl, rfl, hf122⟩ := h120
                      show X 0 0 [(qc, .inl (cI, 160, .inl cd_90)), (q, .inr (2, [.ref qc, .ref qs, .ref qe, .int (nI (((0 + cc21.length) + cc52.length) + cc83.length))])), (qe, .inl (cI, 3, .inl (upd (upd (upd en 0 (nI (0 + cc21.length))) 1 (nI ((0 + cc21.length) + cc52.length))) 2 (nI (((0 + cc21.length) + cc52.length) + cc83.length))))), (rta, .inl (cI, 160, .inl tp)), (rd, .inr (4, [.ref rta, .int (nI n), .int (nI (p_nx tp n aa83)), .int (p_tk tp n aa83), .int (nI (p_pl tp n aa83)), .int v_89, .int (nI (p_pl tp n aa83)), .ref q]))] [(2, .int 3), (0, .ref rd), (1, .ref q)] 70 [.int 0]
                      refine x_if_ne C dX5_read_70 (tgt := 77) rfl (fun q9 => absurd q9 (by decide)) (fun _ => ?_)
                      refine x_aload_n C dX5_read_73 1 rfl ?_
                      refine x_callV C (As := []) (st := []) (wc := [(rd, .inr (4, [.ref rta, .int (nI n), .int (nI (p_nx tp n aa83)), .int (p_tk tp n aa83), .int (nI (p_pl tp n aa83)), .int v_89, .int (nI (p_pl tp n aa83)), .ref q]))]) (wr := [(qc, .inl (cI, 160, .inl cd_90)), (q, .inr (2, [.ref qc, .ref qs, .ref qe, .int (nI (((0 + cc21.length) + cc52.length) + cc83.length))])), (qe, .inl (cI, 3, .inl (upd (upd (upd en 0 (nI (0 + cc21.length))) 1 (nI ((0 + cc21.length) + cc52.length))) 2 (nI (((0 + cc21.length) + cc52.length) + cc83.length))))), (rta, .inl (cI, 160, .inl tp))]) (c_X5_faultHere_f l dG cI cM cW cS rd rta q n tp (nI (p_nx tp n aa83)) (p_tk tp n aa83) (nI (p_pl tp n aa83)) v_89 (p_pl tp n aa83) (by omega)) rZ0_ok (fun _ _ _ _ => trivial) kV_X5_51 ⟨rfl, hy_X5_faultHere⟩ ⟨Nat.le_of_ble_eq_true rfl, Nat.le_of_ble_eq_true rfl⟩ ⟨Nat.le_of_ble_eq_true rfl, Nat.le_of_ble_eq_true rfl⟩ dX5_read_74 4 rfl rfl [4] [0, 1, 2, 3] rfl rfl rfl rfl (by decide) rfl (Nat.le_of_ble_eq_true rfl) ?_
                      intro v123 w124 h125
                      obtain ⟨rfl, rfl, hf126⟩ := h125
                      show X 0 0 [(qc, .inl (cI, 160, .inl cd_90)), (q, .inr (2, [.ref qc, .ref qs, .ref qe, .int (nI (((0 + cc21.length) + cc52.length) + cc83.length))])), (qe, .inl (cI, 3, .inl (upd (upd (upd en 0 (nI (0 + cc21.length))) 1 (nI ((0 + cc21.length) + cc52.length))) 2 (nI (((0 + cc21.length) + cc52.length) + cc83.length))))), (rta, .inl (cI, 160, .inl tp)), (rd, .inr (4, [.ref rta, .int (nI n), .int (nI (p_nx tp n aa83)), .int (p_tk tp n aa83), .int (nI (p_pl tp n aa83)), .int v_89, .int (nI (p_pl tp n aa83)), .ref q]))] [(2, .int 3), (0, .ref rd), (1, .ref q)] 77 []
                      refine x_aload_n C dX5_read_77 1 rfl ?_
                      refine x_iconst C dX5_read_78 (v := 0) rfl ?_
                      refine x_put C inlX5 rfl tyX5 tyX5_ok nmX5 1 (by decide) gw_6_18 rfl dX5_read_79 4 rfl (rfl) rfl (Nat.le_of_ble_eq_true rfl) ?_
                      show X _ _ [(qc, .inl (cI, 160, .inl cd_90)), (q, .inr (2, [.ref qc, .ref qs, .ref qe, .int (nI (((0 + cc21.length) + cc52.length) + cc83.length))])), (qe, .inl (cI, 3, .inl (upd (upd (upd en 0 (nI (0 + cc21.length))) 1 (nI ((0 + cc21.length) + cc52.length))) 2 (nI (((0 + cc21.length) + cc52.length) + cc83.length))))), (rta, .inl (cI, 160, .inl tp)), (rd, .inr (4, [.ref rta, .int 0, .int (nI (p_nx tp n aa83)), .int (p_tk tp n aa83), .int (nI (p_pl tp n aa83)), .int v_89, .int (nI (p_pl tp n aa83)), .ref q]))] _ _ _
                      refine x_aload_n C dX5_read_82 1 rfl ?_
                      refine x_get C inlX5 rfl 6 (by decide) gw_7_1 dX5_read_83 4 rfl rfl ?_
                      refine x_sub C [4, 3, 1, 0, 2] (ws' := [(rd, .inr (4, [.ref rta, .int 0, .int (nI (p_nx tp n aa83)), .int (p_tk tp n aa83), .int (nI (p_pl tp n aa83)), .int v_89, .int (nI (p_pl tp n aa83)), .ref q])), (rta, .inl (cI, 160, .inl tp)), (q, .inr (2, [.ref qc, .ref qs, .ref qe, .int (nI (((0 + cc21.length) + cc52.length) + cc83.length))])), (qc, .inl (cI, 160, .inl cd_90)), (qe, .inl (cI, 3, .inl (upd (upd (upd en 0 (nI (0 + cc21.length))) 1 (nI ((0 + cc21.length) + cc52.length))) 2 (nI (((0 + cc21.length) + cc52.length) + cc83.length)))))]) rfl rfl ?_
                      refine E dX5_read_86 (rfl) ?_
                      exact Or.inr (⟨(nI (p_nx tp n aa83)), (p_tk tp n aa83), (nI (p_pl tp n aa83)), v_89, (nI (p_pl tp n aa83)), (nI (((0 + cc21.length) + cc52.length) + cc83.length)), cd_90, (upd (upd (upd en 0 (nI (0 + cc21.length))) 1 (nI ((0 + cc21.length) + cc52.length))) 2 (nI (((0 + cc21.length) + cc52.length) + cc83.length))), (p_pl tp n aa83), rfl, rfl, ⟨(p_txt_2 hp44 hp75 hp117).1, by rw [(p_txt_2 hp44 hp75 hp117).2], hfb9⟩⟩)
                ·
                  obtain ⟨rat_127, rtk_128, rpl_129, rva_130, _, z_132, cd_133, rfl, rfl, ⟨rfl, hf135, hf136, hf137⟩⟩ := h86
                  show X 0 0 [(qe, .inl (cI, 3, .inl (upd (upd en 0 (nI (0 + cc21.length))) 1 (nI ((0 + cc21.length) + cc52.length))))), (rd, .inr (4, [.ref rta, .int (nI n), .int rat_127, .int rtk_128, .int rpl_129, .int rva_130, .int (nI (p_pl tp n aa83)), .ref q])), (rta, .inl (cI, 160, .inl tp)), (q, .inr (2, [.ref qc, .ref qs, .ref qe, .int (nI z_132)])), (qc, .inl (cI, 160, .inl cd_133))] [(2, .int 2), (0, .ref rd), (1, .ref q)] 45 []
                  subst hf135
                  have hp138 := p_part_g htw hr83
                  refine x_aload_n C dX5_read_45 1 rfl ?_
                  refine x_get C inlX5 rfl 7 (by decide) gw_6_23 dX5_read_46 1 rfl rfl ?_
                  refine x_iload_n C dX5_read_49 0 rfl ?_
                  refine x_callV C (As := [.int (nI 2)]) (st := []) (wc := [(q, .inr (2, [.ref qc, .ref qs, .ref qe, .int (nI z_132)])), (qe, .inl (cI, 3, .inl (upd (upd en 0 (nI (0 + cc21.length))) 1 (nI ((0 + cc21.length) + cc52.length)))))]) (wr := [(rd, .inr (4, [.ref rta, .int (nI n), .int rat_127, .int rtk_128, .int rpl_129, .int rva_130, .int (nI (p_pl tp n aa83)), .ref q])), (rta, .inl (cI, 160, .inl tp)), (qc, .inl (cI, 160, .inl cd_133))]) (c_X3_endPart l dG cI cM cW cS q qc qs qe z_132 2 (upd (upd en 0 (nI (0 + cc21.length))) 1 (nI ((0 + cc21.length) + cc52.length))) (by first | assumption | omega | decide)) rZ0_ok (fun _ _ _ _ => trivial) kV_X5_44 ⟨rfl, hy_X3_endPart⟩ ⟨Nat.le_of_ble_eq_true rfl, Nat.le_of_ble_eq_true rfl⟩ ⟨Nat.le_of_ble_eq_true rfl, Nat.le_of_ble_eq_true rfl⟩ dX5_read_50 3 rfl rfl [3, 0] [1, 2, 4] rfl rfl rfl rfl (by decide) rfl (Nat.le_of_ble_eq_true rfl) ?_
                  intro v139 w140 h141
                  obtain ⟨rfl, rfl, hf142⟩ := h141
                  show X 0 0 [(rd, .inr (4, [.ref rta, .int (nI n), .int rat_127, .int rtk_128, .int rpl_129, .int rva_130, .int (nI (p_pl tp n aa83)), .ref q])), (rta, .inl (cI, 160, .inl tp)), (qc, .inl (cI, 160, .inl cd_133)), (q, .inr (2, [.ref qc, .ref qs, .ref qe, .int (nI z_132)])), (qe, .inl (cI, 3, .inl (upd (upd (upd en 0 (nI (0 + cc21.length))) 1 (nI ((0 + cc21.length) + cc52.length))) 2 (nI z_132))))] [(2, .int 2), (0, .ref rd), (1, .ref q)] 53 []
                  refine x_aload_n C dX5_read_53 1 rfl ?_
                  refine x_bipush C dX5_read_54 (v := 59) rfl ?_
                  refine x_callV C (As := [.int 59]) (st := []) (wc := [(rd, .inr (4, [.ref rta, .int (nI n), .int rat_127, .int rtk_128, .int rpl_129, .int rva_130, .int (nI (p_pl tp n aa83)), .ref q])), (rta, .inl (cI, 160, .inl tp))]) (wr := [(qc, .inl (cI, 160, .inl cd_133)), (q, .inr (2, [.ref qc, .ref qs, .ref qe, .int (nI z_132)])), (qe, .inl (cI, 3, .inl (upd (upd (upd en 0 (nI (0 + cc21.length))) 1 (nI ((0 + cc21.length) + cc52.length))) 2 (nI z_132))))]) (c_X5_expect_f l dG cI cM cW cS adK adV fm rd rta q n tp rat_127 rtk_128 rpl_129 rva_130 (p_pl tp n aa83) 59 (by omega)) (rZs_ok adK adV fm) (fun _ _ _ h9 => h9) kV_X5_37 ⟨rfl, hy_X5_expect⟩ ⟨Nat.le_of_ble_eq_true rfl, Nat.le_of_ble_eq_true rfl⟩ ⟨Nat.le_of_ble_eq_true rfl, Nat.le_of_ble_eq_true rfl⟩ dX5_read_56 0 rfl rfl [0, 1] [2, 3, 4] rfl rfl rfl rfl (by decide) rfl (Nat.le_of_ble_eq_true rfl) ?_
                  intro v143 w144 h145
                  obtain ⟨rfl, rfl, hf146⟩ := h145
                  show X 0 0 [(qc, .inl (cI, 160, .inl cd_133)), (q, .inr (2, [.ref qc, .ref qs, .ref qe, .int (nI z_132)])), (qe, .inl (cI, 3, .inl (upd (upd (upd en 0 (nI (0 + cc21.length))) 1 (nI ((0 + cc21.length) + cc52.length))) 2 (nI z_132)))), (rd, .inr (4, [.ref rta, .int (nI n), .int rat_127, .int rtk_128, .int rpl_129, .int rva_130, .int (nI (p_pl tp n aa83)), .ref q])), (rta, .inl (cI, 160, .inl tp))] [(2, .int 2), (0, .ref rd), (1, .ref q)] 59 []
                  refine x_iinc C dX5_read_59 0 rfl (v := 3) (rfl) (by decide) (lv' := [(2, .int 3), (0, .ref rd), (1, .ref q)]) rfl ?_
                  refine x_goto C dX5_read_62 (tgt := 28) rfl ?_
                  refine x_iload_n C dX5_read_28 0 rfl ?_
                  show X _ _ _ _ 29 _
                  refine x_iconst C dX5_read_29 (v := 3) rfl ?_
                  refine x_icmp_ge C dX5_read_30 (tgt := 65) rfl (fun _ => ?_) (fun q9 => by first | exact absurd q9 (by decide) | exact absurd (by decide) q9)
                  refine x_aload_n C dX5_read_65 1 rfl ?_
                  refine x_iconst C dX5_read_66 (v := 0) rfl ?_
                  refine x_callV C (As := [.int 0]) (st := []) (wc := [(rd, .inr (4, [.ref rta, .int (nI n), .int rat_127, .int rtk_128, .int rpl_129, .int rva_130, .int (nI (p_pl tp n aa83)), .ref q]))]) (wr := [(qc, .inl (cI, 160, .inl cd_133)), (q, .inr (2, [.ref qc, .ref qs, .ref qe, .int (nI z_132)])), (qe, .inl (cI, 3, .inl (upd (upd (upd en 0 (nI (0 + cc21.length))) 1 (nI ((0 + cc21.length) + cc52.length))) 2 (nI z_132)))), (rta, .inl (cI, 160, .inl tp))]) (c_X5_has l dG cI cM cW cS rd rta q n tp rat_127 rtk_128 rpl_129 rva_130 (nI (p_pl tp n aa83)) 0 ) rZ0_ok (fun _ _ _ _ => trivial) kV_X5_47 ⟨rfl, hy_X5_has⟩ ⟨Nat.le_of_ble_eq_true rfl, Nat.le_of_ble_eq_true rfl⟩ ⟨Nat.le_of_ble_eq_true rfl, Nat.le_of_ble_eq_true rfl⟩ dX5_read_67 3 rfl rfl [3] [0, 1, 2, 4] rfl rfl rfl rfl (by decide) rfl (Nat.le_of_ble_eq_true rfl) ?_
                  intro v147 w148 h149
                  rcases h149 with h149 | h149
                  ·
                    obtain ⟨rfl, rfl, hf150⟩ := h149
                    show X 0 0 [(qc, .inl (cI, 160, .inl cd_133)), (q, .inr (2, [.ref qc, .ref qs, .ref qe, .int (nI z_132)])), (qe, .inl (cI, 3, .inl (upd (upd (upd en 0 (nI (0 + cc21.length))) 1 (nI ((0 + cc21.length) + cc52.length))) 2 (nI z_132)))), (rta, .inl (cI, 160, .inl tp)), (rd, .inr (4, [.ref rta, .int (nI n), .int rat_127, .int rtk_128, .int rpl_129, .int rva_130, .int (nI (p_pl tp n aa83)), .ref q]))] [(2, .int 3), (0, .ref rd), (1, .ref q)] 70 [.int 1]
                    exact absurd hf150.1 (nI_nm1 (by omega))
                  ·
                    obtain ⟨rfl, rfl, hf151⟩ := h149
                    show X 0 0 [(qc, .inl (cI, 160, .inl cd_133)), (q, .inr (2, [.ref qc, .ref qs, .ref qe, .int (nI z_132)])), (qe, .inl (cI, 3, .inl (upd (upd (upd en 0 (nI (0 + cc21.length))) 1 (nI ((0 + cc21.length) + cc52.length))) 2 (nI z_132)))), (rta, .inl (cI, 160, .inl tp)), (rd, .inr (4, [.ref rta, .int (nI n), .int rat_127, .int rtk_128, .int rpl_129, .int rva_130, .int (nI (p_pl tp n aa83)), .ref q]))] [(2, .int 3), (0, .ref rd), (1, .ref q)] 70 [.int 0]
                    refine x_if_ne C dX5_read_70 (tgt := 77) rfl (fun q9 => absurd q9 (by decide)) (fun _ => ?_)
                    refine x_aload_n C dX5_read_73 1 rfl ?_
                    refine x_callV C (As := []) (st := []) (wc := [(rd, .inr (4, [.ref rta, .int (nI n), .int rat_127, .int rtk_128, .int rpl_129, .int rva_130, .int (nI (p_pl tp n aa83)), .ref q]))]) (wr := [(qc, .inl (cI, 160, .inl cd_133)), (q, .inr (2, [.ref qc, .ref qs, .ref qe, .int (nI z_132)])), (qe, .inl (cI, 3, .inl (upd (upd (upd en 0 (nI (0 + cc21.length))) 1 (nI ((0 + cc21.length) + cc52.length))) 2 (nI z_132)))), (rta, .inl (cI, 160, .inl tp))]) (c_X5_faultHere_f l dG cI cM cW cS rd rta q n tp rat_127 rtk_128 rpl_129 rva_130 (p_pl tp n aa83) (by omega)) rZ0_ok (fun _ _ _ _ => trivial) kV_X5_51 ⟨rfl, hy_X5_faultHere⟩ ⟨Nat.le_of_ble_eq_true rfl, Nat.le_of_ble_eq_true rfl⟩ ⟨Nat.le_of_ble_eq_true rfl, Nat.le_of_ble_eq_true rfl⟩ dX5_read_74 4 rfl rfl [4] [0, 1, 2, 3] rfl rfl rfl rfl (by decide) rfl (Nat.le_of_ble_eq_true rfl) ?_
                    intro v152 w153 h154
                    obtain ⟨rfl, rfl, hf155⟩ := h154
                    show X 0 0 [(qc, .inl (cI, 160, .inl cd_133)), (q, .inr (2, [.ref qc, .ref qs, .ref qe, .int (nI z_132)])), (qe, .inl (cI, 3, .inl (upd (upd (upd en 0 (nI (0 + cc21.length))) 1 (nI ((0 + cc21.length) + cc52.length))) 2 (nI z_132)))), (rta, .inl (cI, 160, .inl tp)), (rd, .inr (4, [.ref rta, .int (nI n), .int rat_127, .int rtk_128, .int rpl_129, .int rva_130, .int (nI (p_pl tp n aa83)), .ref q]))] [(2, .int 3), (0, .ref rd), (1, .ref q)] 77 []
                    refine x_aload_n C dX5_read_77 1 rfl ?_
                    refine x_iconst C dX5_read_78 (v := 0) rfl ?_
                    refine x_put C inlX5 rfl tyX5 tyX5_ok nmX5 1 (by decide) gw_6_18 rfl dX5_read_79 4 rfl (rfl) rfl (Nat.le_of_ble_eq_true rfl) ?_
                    show X _ _ [(qc, .inl (cI, 160, .inl cd_133)), (q, .inr (2, [.ref qc, .ref qs, .ref qe, .int (nI z_132)])), (qe, .inl (cI, 3, .inl (upd (upd (upd en 0 (nI (0 + cc21.length))) 1 (nI ((0 + cc21.length) + cc52.length))) 2 (nI z_132)))), (rta, .inl (cI, 160, .inl tp)), (rd, .inr (4, [.ref rta, .int 0, .int rat_127, .int rtk_128, .int rpl_129, .int rva_130, .int (nI (p_pl tp n aa83)), .ref q]))] _ _ _
                    refine x_aload_n C dX5_read_82 1 rfl ?_
                    refine x_get C inlX5 rfl 6 (by decide) gw_7_1 dX5_read_83 4 rfl rfl ?_
                    refine x_sub C [4, 3, 1, 0, 2] (ws' := [(rd, .inr (4, [.ref rta, .int 0, .int rat_127, .int rtk_128, .int rpl_129, .int rva_130, .int (nI (p_pl tp n aa83)), .ref q])), (rta, .inl (cI, 160, .inl tp)), (q, .inr (2, [.ref qc, .ref qs, .ref qe, .int (nI z_132)])), (qc, .inl (cI, 160, .inl cd_133)), (qe, .inl (cI, 3, .inl (upd (upd (upd en 0 (nI (0 + cc21.length))) 1 (nI ((0 + cc21.length) + cc52.length))) 2 (nI z_132))))]) rfl rfl ?_
                    refine E dX5_read_86 (rfl) ?_
                    exact Or.inr (⟨rat_127, rtk_128, rpl_129, rva_130, (nI (p_pl tp n aa83)), (nI z_132), cd_133, (upd (upd (upd en 0 (nI (0 + cc21.length))) 1 (nI ((0 + cc21.length) + cc52.length))) 2 (nI z_132)), (p_pl tp n aa83), rfl, rfl, ⟨(p_txt_2 hp44 hp75 hp138).1, by rw [(p_txt_2 hp44 hp75 hp138).2], hf137⟩⟩)
              ·
                obtain ⟨rfl, rfl, hf156⟩ := h78
                show X 0 0 [(qc, .inl (cI, 160, .inl cd_59)), (q, .inr (2, [.ref qc, .ref qs, .ref qe, .int (nI ((0 + cc21.length) + cc52.length))])), (qe, .inl (cI, 3, .inl (upd (upd en 0 (nI (0 + cc21.length))) 1 (nI ((0 + cc21.length) + cc52.length))))), (rd, .inr (4, [.ref rta, .int (nI n), .int (nI (p_nx tp n (p_nx tp n aa52))), .int (p_tk tp n (p_nx tp n aa52)), .int (nI (p_pl tp n (p_nx tp n aa52))), .int v_71, .int (nI (p_pl tp n (p_nx tp n aa52))), .ref q])), (rta, .inl (cI, 160, .inl tp))] [(2, .int 2), (0, .ref rd), (1, .ref q)] 40 []
                have hp157 := p_part_w hf156
                have hfb9 : p_pl tp n (p_nx tp n aa52) ≤ 160 := Nat.le_trans (p_pl_le (by omega)) hn
                refine x_aload_n C dX5_read_40 1 rfl ?_
                refine x_iconst C dX5_read_41 (v := 0) rfl ?_
                refine x_callV C (As := [.int 0]) (st := []) (wc := [(rd, .inr (4, [.ref rta, .int (nI n), .int (nI (p_nx tp n (p_nx tp n aa52))), .int (p_tk tp n (p_nx tp n aa52)), .int (nI (p_pl tp n (p_nx tp n aa52))), .int v_71, .int (nI (p_pl tp n (p_nx tp n aa52))), .ref q])), (rta, .inl (cI, 160, .inl tp))]) (wr := [(qc, .inl (cI, 160, .inl cd_59)), (q, .inr (2, [.ref qc, .ref qs, .ref qe, .int (nI ((0 + cc21.length) + cc52.length))])), (qe, .inl (cI, 3, .inl (upd (upd en 0 (nI (0 + cc21.length))) 1 (nI ((0 + cc21.length) + cc52.length)))))]) (c_X5_readOr_f l dG cI cM cW cS adK adV fm rd rta q n tp (nI (p_nx tp n (p_nx tp n aa52))) (p_tk tp n (p_nx tp n aa52)) (nI (p_pl tp n (p_nx tp n aa52))) v_71 (p_pl tp n (p_nx tp n aa52)) 0 (by omega)) (rZs_ok adK adV fm) (fun _ _ _ h9 => h9) kV_X5_41 ⟨rfl, hy_X5_readOr⟩ ⟨Nat.le_of_ble_eq_true rfl, Nat.le_of_ble_eq_true rfl⟩ ⟨Nat.le_of_ble_eq_true rfl, Nat.le_of_ble_eq_true rfl⟩ dX5_read_42 3 rfl rfl [3, 4] [0, 1, 2] rfl rfl rfl rfl (by decide) rfl (Nat.le_of_ble_eq_true rfl) ?_
                intro v158 w159 h160
                obtain ⟨rfl, rfl, hf161⟩ := h160
                show X 0 0 [(qc, .inl (cI, 160, .inl cd_59)), (q, .inr (2, [.ref qc, .ref qs, .ref qe, .int (nI ((0 + cc21.length) + cc52.length))])), (qe, .inl (cI, 3, .inl (upd (upd en 0 (nI (0 + cc21.length))) 1 (nI ((0 + cc21.length) + cc52.length))))), (rd, .inr (4, [.ref rta, .int (nI n), .int (nI (p_nx tp n (p_nx tp n aa52))), .int (p_tk tp n (p_nx tp n aa52)), .int (nI (p_pl tp n (p_nx tp n aa52))), .int v_71, .int (nI (p_pl tp n (p_nx tp n aa52))), .ref q])), (rta, .inl (cI, 160, .inl tp))] [(2, .int 2), (0, .ref rd), (1, .ref q)] 45 []
                refine x_aload_n C dX5_read_45 1 rfl ?_
                refine x_get C inlX5 rfl 7 (by decide) gw_6_23 dX5_read_46 3 rfl rfl ?_
                refine x_iload_n C dX5_read_49 0 rfl ?_
                refine x_callV C (As := [.int (nI 2)]) (st := []) (wc := [(q, .inr (2, [.ref qc, .ref qs, .ref qe, .int (nI ((0 + cc21.length) + cc52.length))])), (qe, .inl (cI, 3, .inl (upd (upd en 0 (nI (0 + cc21.length))) 1 (nI ((0 + cc21.length) + cc52.length)))))]) (wr := [(qc, .inl (cI, 160, .inl cd_59)), (rd, .inr (4, [.ref rta, .int (nI n), .int (nI (p_nx tp n (p_nx tp n aa52))), .int (p_tk tp n (p_nx tp n aa52)), .int (nI (p_pl tp n (p_nx tp n aa52))), .int v_71, .int (nI (p_pl tp n (p_nx tp n aa52))), .ref q])), (rta, .inl (cI, 160, .inl tp))]) (c_X3_endPart l dG cI cM cW cS q qc qs qe ((0 + cc21.length) + cc52.length) 2 (upd (upd en 0 (nI (0 + cc21.length))) 1 (nI ((0 + cc21.length) + cc52.length))) (by first | assumption | omega | decide)) rZ0_ok (fun _ _ _ _ => trivial) kV_X5_44 ⟨rfl, hy_X3_endPart⟩ ⟨Nat.le_of_ble_eq_true rfl, Nat.le_of_ble_eq_true rfl⟩ ⟨Nat.le_of_ble_eq_true rfl, Nat.le_of_ble_eq_true rfl⟩ dX5_read_50 1 rfl rfl [1, 2] [0, 3, 4] rfl rfl rfl rfl (by decide) rfl (Nat.le_of_ble_eq_true rfl) ?_
                intro v162 w163 h164
                obtain ⟨rfl, rfl, hf165⟩ := h164
                show X 0 0 [(qc, .inl (cI, 160, .inl cd_59)), (rd, .inr (4, [.ref rta, .int (nI n), .int (nI (p_nx tp n (p_nx tp n aa52))), .int (p_tk tp n (p_nx tp n aa52)), .int (nI (p_pl tp n (p_nx tp n aa52))), .int v_71, .int (nI (p_pl tp n (p_nx tp n aa52))), .ref q])), (rta, .inl (cI, 160, .inl tp)), (q, .inr (2, [.ref qc, .ref qs, .ref qe, .int (nI ((0 + cc21.length) + cc52.length))])), (qe, .inl (cI, 3, .inl (upd (upd (upd en 0 (nI (0 + cc21.length))) 1 (nI ((0 + cc21.length) + cc52.length))) 2 (nI ((0 + cc21.length) + cc52.length)))))] [(2, .int 2), (0, .ref rd), (1, .ref q)] 53 []
                refine x_aload_n C dX5_read_53 1 rfl ?_
                refine x_bipush C dX5_read_54 (v := 59) rfl ?_
                refine x_callV C (As := [.int 59]) (st := []) (wc := [(rd, .inr (4, [.ref rta, .int (nI n), .int (nI (p_nx tp n (p_nx tp n aa52))), .int (p_tk tp n (p_nx tp n aa52)), .int (nI (p_pl tp n (p_nx tp n aa52))), .int v_71, .int (nI (p_pl tp n (p_nx tp n aa52))), .ref q])), (rta, .inl (cI, 160, .inl tp))]) (wr := [(qc, .inl (cI, 160, .inl cd_59)), (q, .inr (2, [.ref qc, .ref qs, .ref qe, .int (nI ((0 + cc21.length) + cc52.length))])), (qe, .inl (cI, 3, .inl (upd (upd (upd en 0 (nI (0 + cc21.length))) 1 (nI ((0 + cc21.length) + cc52.length))) 2 (nI ((0 + cc21.length) + cc52.length)))))]) (c_X5_expect_f l dG cI cM cW cS adK adV fm rd rta q n tp (nI (p_nx tp n (p_nx tp n aa52))) (p_tk tp n (p_nx tp n aa52)) (nI (p_pl tp n (p_nx tp n aa52))) v_71 (p_pl tp n (p_nx tp n aa52)) 59 (by omega)) (rZs_ok adK adV fm) (fun _ _ _ h9 => h9) kV_X5_37 ⟨rfl, hy_X5_expect⟩ ⟨Nat.le_of_ble_eq_true rfl, Nat.le_of_ble_eq_true rfl⟩ ⟨Nat.le_of_ble_eq_true rfl, Nat.le_of_ble_eq_true rfl⟩ dX5_read_56 1 rfl rfl [1, 2] [0, 3, 4] rfl rfl rfl rfl (by decide) rfl (Nat.le_of_ble_eq_true rfl) ?_
                intro v166 w167 h168
                obtain ⟨rfl, rfl, hf169⟩ := h168
                show X 0 0 [(qc, .inl (cI, 160, .inl cd_59)), (q, .inr (2, [.ref qc, .ref qs, .ref qe, .int (nI ((0 + cc21.length) + cc52.length))])), (qe, .inl (cI, 3, .inl (upd (upd (upd en 0 (nI (0 + cc21.length))) 1 (nI ((0 + cc21.length) + cc52.length))) 2 (nI ((0 + cc21.length) + cc52.length))))), (rd, .inr (4, [.ref rta, .int (nI n), .int (nI (p_nx tp n (p_nx tp n aa52))), .int (p_tk tp n (p_nx tp n aa52)), .int (nI (p_pl tp n (p_nx tp n aa52))), .int v_71, .int (nI (p_pl tp n (p_nx tp n aa52))), .ref q])), (rta, .inl (cI, 160, .inl tp))] [(2, .int 2), (0, .ref rd), (1, .ref q)] 59 []
                show X _ _ _ _ 59 _
                refine x_iinc C dX5_read_59 0 rfl (v := 3) (rfl) (by decide) (lv' := [(2, .int 3), (0, .ref rd), (1, .ref q)]) rfl ?_
                refine x_goto C dX5_read_62 (tgt := 28) rfl ?_
                refine x_iload_n C dX5_read_28 0 rfl ?_
                refine x_iconst C dX5_read_29 (v := 3) rfl ?_
                refine x_icmp_ge C dX5_read_30 (tgt := 65) rfl (fun _ => ?_) (fun q9 => by first | exact absurd q9 (by decide) | exact absurd (by decide) q9)
                refine x_aload_n C dX5_read_65 1 rfl ?_
                refine x_iconst C dX5_read_66 (v := 0) rfl ?_
                refine x_callV C (As := [.int 0]) (st := []) (wc := [(rd, .inr (4, [.ref rta, .int (nI n), .int (nI (p_nx tp n (p_nx tp n aa52))), .int (p_tk tp n (p_nx tp n aa52)), .int (nI (p_pl tp n (p_nx tp n aa52))), .int v_71, .int (nI (p_pl tp n (p_nx tp n aa52))), .ref q]))]) (wr := [(qc, .inl (cI, 160, .inl cd_59)), (q, .inr (2, [.ref qc, .ref qs, .ref qe, .int (nI ((0 + cc21.length) + cc52.length))])), (qe, .inl (cI, 3, .inl (upd (upd (upd en 0 (nI (0 + cc21.length))) 1 (nI ((0 + cc21.length) + cc52.length))) 2 (nI ((0 + cc21.length) + cc52.length))))), (rta, .inl (cI, 160, .inl tp))]) (c_X5_has l dG cI cM cW cS rd rta q n tp (nI (p_nx tp n (p_nx tp n aa52))) (p_tk tp n (p_nx tp n aa52)) (nI (p_pl tp n (p_nx tp n aa52))) v_71 (nI (p_pl tp n (p_nx tp n aa52))) 0 ) rZ0_ok (fun _ _ _ _ => trivial) kV_X5_47 ⟨rfl, hy_X5_has⟩ ⟨Nat.le_of_ble_eq_true rfl, Nat.le_of_ble_eq_true rfl⟩ ⟨Nat.le_of_ble_eq_true rfl, Nat.le_of_ble_eq_true rfl⟩ dX5_read_67 3 rfl rfl [3] [0, 1, 2, 4] rfl rfl rfl rfl (by decide) rfl (Nat.le_of_ble_eq_true rfl) ?_
                intro v170 w171 h172
                rcases h172 with h172 | h172
                ·
                  obtain ⟨rfl, rfl, hf173⟩ := h172
                  show X 0 0 [(qc, .inl (cI, 160, .inl cd_59)), (q, .inr (2, [.ref qc, .ref qs, .ref qe, .int (nI ((0 + cc21.length) + cc52.length))])), (qe, .inl (cI, 3, .inl (upd (upd (upd en 0 (nI (0 + cc21.length))) 1 (nI ((0 + cc21.length) + cc52.length))) 2 (nI ((0 + cc21.length) + cc52.length))))), (rta, .inl (cI, 160, .inl tp)), (rd, .inr (4, [.ref rta, .int (nI n), .int (nI (p_nx tp n (p_nx tp n aa52))), .int (p_tk tp n (p_nx tp n aa52)), .int (nI (p_pl tp n (p_nx tp n aa52))), .int v_71, .int (nI (p_pl tp n (p_nx tp n aa52))), .ref q]))] [(2, .int 3), (0, .ref rd), (1, .ref q)] 70 [.int 1]
                  exact absurd hf173.1 (nI_nm1 (by omega))
                ·
                  obtain ⟨rfl, rfl, hf174⟩ := h172
                  show X 0 0 [(qc, .inl (cI, 160, .inl cd_59)), (q, .inr (2, [.ref qc, .ref qs, .ref qe, .int (nI ((0 + cc21.length) + cc52.length))])), (qe, .inl (cI, 3, .inl (upd (upd (upd en 0 (nI (0 + cc21.length))) 1 (nI ((0 + cc21.length) + cc52.length))) 2 (nI ((0 + cc21.length) + cc52.length))))), (rta, .inl (cI, 160, .inl tp)), (rd, .inr (4, [.ref rta, .int (nI n), .int (nI (p_nx tp n (p_nx tp n aa52))), .int (p_tk tp n (p_nx tp n aa52)), .int (nI (p_pl tp n (p_nx tp n aa52))), .int v_71, .int (nI (p_pl tp n (p_nx tp n aa52))), .ref q]))] [(2, .int 3), (0, .ref rd), (1, .ref q)] 70 [.int 0]
                  refine x_if_ne C dX5_read_70 (tgt := 77) rfl (fun q9 => absurd q9 (by decide)) (fun _ => ?_)
                  refine x_aload_n C dX5_read_73 1 rfl ?_
                  refine x_callV C (As := []) (st := []) (wc := [(rd, .inr (4, [.ref rta, .int (nI n), .int (nI (p_nx tp n (p_nx tp n aa52))), .int (p_tk tp n (p_nx tp n aa52)), .int (nI (p_pl tp n (p_nx tp n aa52))), .int v_71, .int (nI (p_pl tp n (p_nx tp n aa52))), .ref q]))]) (wr := [(qc, .inl (cI, 160, .inl cd_59)), (q, .inr (2, [.ref qc, .ref qs, .ref qe, .int (nI ((0 + cc21.length) + cc52.length))])), (qe, .inl (cI, 3, .inl (upd (upd (upd en 0 (nI (0 + cc21.length))) 1 (nI ((0 + cc21.length) + cc52.length))) 2 (nI ((0 + cc21.length) + cc52.length))))), (rta, .inl (cI, 160, .inl tp))]) (c_X5_faultHere_f l dG cI cM cW cS rd rta q n tp (nI (p_nx tp n (p_nx tp n aa52))) (p_tk tp n (p_nx tp n aa52)) (nI (p_pl tp n (p_nx tp n aa52))) v_71 (p_pl tp n (p_nx tp n aa52)) (by omega)) rZ0_ok (fun _ _ _ _ => trivial) kV_X5_51 ⟨rfl, hy_X5_faultHere⟩ ⟨Nat.le_of_ble_eq_true rfl, Nat.le_of_ble_eq_true rfl⟩ ⟨Nat.le_of_ble_eq_true rfl, Nat.le_of_ble_eq_true rfl⟩ dX5_read_74 4 rfl rfl [4] [0, 1, 2, 3] rfl rfl rfl rfl (by decide) rfl (Nat.le_of_ble_eq_true rfl) ?_
                  intro v175 w176 h177
                  obtain ⟨rfl, rfl, hf178⟩ := h177
                  show X 0 0 [(qc, .inl (cI, 160, .inl cd_59)), (q, .inr (2, [.ref qc, .ref qs, .ref qe, .int (nI ((0 + cc21.length) + cc52.length))])), (qe, .inl (cI, 3, .inl (upd (upd (upd en 0 (nI (0 + cc21.length))) 1 (nI ((0 + cc21.length) + cc52.length))) 2 (nI ((0 + cc21.length) + cc52.length))))), (rta, .inl (cI, 160, .inl tp)), (rd, .inr (4, [.ref rta, .int (nI n), .int (nI (p_nx tp n (p_nx tp n aa52))), .int (p_tk tp n (p_nx tp n aa52)), .int (nI (p_pl tp n (p_nx tp n aa52))), .int v_71, .int (nI (p_pl tp n (p_nx tp n aa52))), .ref q]))] [(2, .int 3), (0, .ref rd), (1, .ref q)] 77 []
                  refine x_aload_n C dX5_read_77 1 rfl ?_
                  refine x_iconst C dX5_read_78 (v := 0) rfl ?_
                  refine x_put C inlX5 rfl tyX5 tyX5_ok nmX5 1 (by decide) gw_6_18 rfl dX5_read_79 4 rfl (rfl) rfl (Nat.le_of_ble_eq_true rfl) ?_
                  show X _ _ [(qc, .inl (cI, 160, .inl cd_59)), (q, .inr (2, [.ref qc, .ref qs, .ref qe, .int (nI ((0 + cc21.length) + cc52.length))])), (qe, .inl (cI, 3, .inl (upd (upd (upd en 0 (nI (0 + cc21.length))) 1 (nI ((0 + cc21.length) + cc52.length))) 2 (nI ((0 + cc21.length) + cc52.length))))), (rta, .inl (cI, 160, .inl tp)), (rd, .inr (4, [.ref rta, .int 0, .int (nI (p_nx tp n (p_nx tp n aa52))), .int (p_tk tp n (p_nx tp n aa52)), .int (nI (p_pl tp n (p_nx tp n aa52))), .int v_71, .int (nI (p_pl tp n (p_nx tp n aa52))), .ref q]))] _ _ _
                  refine x_aload_n C dX5_read_82 1 rfl ?_
                  refine x_get C inlX5 rfl 6 (by decide) gw_7_1 dX5_read_83 4 rfl rfl ?_
                  refine x_sub C [4, 3, 1, 0, 2] (ws' := [(rd, .inr (4, [.ref rta, .int 0, .int (nI (p_nx tp n (p_nx tp n aa52))), .int (p_tk tp n (p_nx tp n aa52)), .int (nI (p_pl tp n (p_nx tp n aa52))), .int v_71, .int (nI (p_pl tp n (p_nx tp n aa52))), .ref q])), (rta, .inl (cI, 160, .inl tp)), (q, .inr (2, [.ref qc, .ref qs, .ref qe, .int (nI ((0 + cc21.length) + cc52.length))])), (qc, .inl (cI, 160, .inl cd_59)), (qe, .inl (cI, 3, .inl (upd (upd (upd en 0 (nI (0 + cc21.length))) 1 (nI ((0 + cc21.length) + cc52.length))) 2 (nI ((0 + cc21.length) + cc52.length)))))]) rfl rfl ?_
                  refine E dX5_read_86 (rfl) ?_
                  exact Or.inr (⟨(nI (p_nx tp n (p_nx tp n aa52))), (p_tk tp n (p_nx tp n aa52)), (nI (p_pl tp n (p_nx tp n aa52))), v_71, (nI (p_pl tp n (p_nx tp n aa52))), (nI ((0 + cc21.length) + cc52.length)), cd_59, (upd (upd (upd en 0 (nI (0 + cc21.length))) 1 (nI ((0 + cc21.length) + cc52.length))) 2 (nI ((0 + cc21.length) + cc52.length))), (p_pl tp n (p_nx tp n aa52)), rfl, rfl, ⟨(p_txt_2 hp44 hp75 hp157).1, by rw [(p_txt_2 hp44 hp75 hp157).2], hfb9⟩⟩)
            ·
              obtain ⟨rfl, rfl, hf179⟩ := h70
              show X 0 0 [(qc, .inl (cI, 160, .inl cd_59)), (q, .inr (2, [.ref qc, .ref qs, .ref qe, .int (nI ((0 + cc21.length) + cc52.length))])), (qe, .inl (cI, 3, .inl (upd (upd en 0 (nI (0 + cc21.length))) 1 (nI ((0 + cc21.length) + cc52.length))))), (rd, .inr (4, [.ref rta, .int (nI n), .int (nI (p_nx tp n aa52)), .int (p_tk tp n aa52), .int (nI (p_pl tp n aa52)), .int v_58, .int (nI (p_pl tp n aa52)), .ref q])), (rta, .inl (cI, 160, .inl tp))] [(2, .int 1), (0, .ref rd), (1, .ref q)] 59 []
              have hp180 := p_part_s htw hr52 hf179
              have hfb9 : p_pl tp n aa52 ≤ 160 := Nat.le_trans (p_pl_le (by omega)) hn
              refine x_iinc C dX5_read_59 0 rfl (v := 2) (rfl) (by decide) (lv' := [(2, .int 2), (0, .ref rd), (1, .ref q)]) rfl ?_
              refine x_goto C dX5_read_62 (tgt := 28) rfl ?_
              refine x_iload_n C dX5_read_28 0 rfl ?_
              refine x_iconst C dX5_read_29 (v := 3) rfl ?_
              refine x_icmp_ge C dX5_read_30 (tgt := 65) rfl (fun q9 => absurd q9 (by decide)) (fun _ => ?_)
              refine x_aload_n C dX5_read_33 1 rfl ?_
              refine x_iconst C dX5_read_34 (v := 4) rfl ?_
              refine x_iload_n C dX5_read_35 0 rfl ?_
              refine x_iadd C dX5_read_36 ?_
              refine x_topi C 6 (by decide) ?_
              refine x_callV C (As := [.int 6]) (st := []) (wc := [(rd, .inr (4, [.ref rta, .int (nI n), .int (nI (p_nx tp n aa52)), .int (p_tk tp n aa52), .int (nI (p_pl tp n aa52)), .int v_58, .int (nI (p_pl tp n aa52)), .ref q])), (rta, .inl (cI, 160, .inl tp))]) (wr := [(qc, .inl (cI, 160, .inl cd_59)), (q, .inr (2, [.ref qc, .ref qs, .ref qe, .int (nI ((0 + cc21.length) + cc52.length))])), (qe, .inl (cI, 3, .inl (upd (upd en 0 (nI (0 + cc21.length))) 1 (nI ((0 + cc21.length) + cc52.length)))))]) (c_X5_expect_f l dG cI cM cW cS adK adV fm rd rta q n tp (nI (p_nx tp n aa52)) (p_tk tp n aa52) (nI (p_pl tp n aa52)) v_58 (p_pl tp n aa52) 6 (by omega)) (rZs_ok adK adV fm) (fun _ _ _ h9 => h9) kV_X5_37 ⟨rfl, hy_X5_expect⟩ ⟨Nat.le_of_ble_eq_true rfl, Nat.le_of_ble_eq_true rfl⟩ ⟨Nat.le_of_ble_eq_true rfl, Nat.le_of_ble_eq_true rfl⟩ dX5_read_37 3 rfl rfl [3, 4] [0, 1, 2] rfl rfl rfl rfl (by decide) rfl (Nat.le_of_ble_eq_true rfl) ?_
              intro v181 w182 h183
              obtain ⟨rfl, rfl, hf184⟩ := h183
              show X 0 0 [(qc, .inl (cI, 160, .inl cd_59)), (q, .inr (2, [.ref qc, .ref qs, .ref qe, .int (nI ((0 + cc21.length) + cc52.length))])), (qe, .inl (cI, 3, .inl (upd (upd en 0 (nI (0 + cc21.length))) 1 (nI ((0 + cc21.length) + cc52.length))))), (rd, .inr (4, [.ref rta, .int (nI n), .int (nI (p_nx tp n aa52)), .int (p_tk tp n aa52), .int (nI (p_pl tp n aa52)), .int v_58, .int (nI (p_pl tp n aa52)), .ref q])), (rta, .inl (cI, 160, .inl tp))] [(2, .int 2), (0, .ref rd), (1, .ref q)] 40 []
              show X _ _ _ _ 40 _
              refine x_aload_n C dX5_read_40 1 rfl ?_
              refine x_iconst C dX5_read_41 (v := 0) rfl ?_
              refine x_callV C (As := [.int 0]) (st := []) (wc := [(rd, .inr (4, [.ref rta, .int (nI n), .int (nI (p_nx tp n aa52)), .int (p_tk tp n aa52), .int (nI (p_pl tp n aa52)), .int v_58, .int (nI (p_pl tp n aa52)), .ref q])), (rta, .inl (cI, 160, .inl tp))]) (wr := [(qc, .inl (cI, 160, .inl cd_59)), (q, .inr (2, [.ref qc, .ref qs, .ref qe, .int (nI ((0 + cc21.length) + cc52.length))])), (qe, .inl (cI, 3, .inl (upd (upd en 0 (nI (0 + cc21.length))) 1 (nI ((0 + cc21.length) + cc52.length)))))]) (c_X5_readOr_f l dG cI cM cW cS adK adV fm rd rta q n tp (nI (p_nx tp n aa52)) (p_tk tp n aa52) (nI (p_pl tp n aa52)) v_58 (p_pl tp n aa52) 0 (by omega)) (rZs_ok adK adV fm) (fun _ _ _ h9 => h9) kV_X5_41 ⟨rfl, hy_X5_readOr⟩ ⟨Nat.le_of_ble_eq_true rfl, Nat.le_of_ble_eq_true rfl⟩ ⟨Nat.le_of_ble_eq_true rfl, Nat.le_of_ble_eq_true rfl⟩ dX5_read_42 3 rfl rfl [3, 4] [0, 1, 2] rfl rfl rfl rfl (by decide) rfl (Nat.le_of_ble_eq_true rfl) ?_
              intro v185 w186 h187
              obtain ⟨rfl, rfl, hf188⟩ := h187
              show X 0 0 [(qc, .inl (cI, 160, .inl cd_59)), (q, .inr (2, [.ref qc, .ref qs, .ref qe, .int (nI ((0 + cc21.length) + cc52.length))])), (qe, .inl (cI, 3, .inl (upd (upd en 0 (nI (0 + cc21.length))) 1 (nI ((0 + cc21.length) + cc52.length))))), (rd, .inr (4, [.ref rta, .int (nI n), .int (nI (p_nx tp n aa52)), .int (p_tk tp n aa52), .int (nI (p_pl tp n aa52)), .int v_58, .int (nI (p_pl tp n aa52)), .ref q])), (rta, .inl (cI, 160, .inl tp))] [(2, .int 2), (0, .ref rd), (1, .ref q)] 45 []
              refine x_aload_n C dX5_read_45 1 rfl ?_
              refine x_get C inlX5 rfl 7 (by decide) gw_6_23 dX5_read_46 3 rfl rfl ?_
              refine x_iload_n C dX5_read_49 0 rfl ?_
              refine x_callV C (As := [.int (nI 2)]) (st := []) (wc := [(q, .inr (2, [.ref qc, .ref qs, .ref qe, .int (nI ((0 + cc21.length) + cc52.length))])), (qe, .inl (cI, 3, .inl (upd (upd en 0 (nI (0 + cc21.length))) 1 (nI ((0 + cc21.length) + cc52.length)))))]) (wr := [(qc, .inl (cI, 160, .inl cd_59)), (rd, .inr (4, [.ref rta, .int (nI n), .int (nI (p_nx tp n aa52)), .int (p_tk tp n aa52), .int (nI (p_pl tp n aa52)), .int v_58, .int (nI (p_pl tp n aa52)), .ref q])), (rta, .inl (cI, 160, .inl tp))]) (c_X3_endPart l dG cI cM cW cS q qc qs qe ((0 + cc21.length) + cc52.length) 2 (upd (upd en 0 (nI (0 + cc21.length))) 1 (nI ((0 + cc21.length) + cc52.length))) (by first | assumption | omega | decide)) rZ0_ok (fun _ _ _ _ => trivial) kV_X5_44 ⟨rfl, hy_X3_endPart⟩ ⟨Nat.le_of_ble_eq_true rfl, Nat.le_of_ble_eq_true rfl⟩ ⟨Nat.le_of_ble_eq_true rfl, Nat.le_of_ble_eq_true rfl⟩ dX5_read_50 1 rfl rfl [1, 2] [0, 3, 4] rfl rfl rfl rfl (by decide) rfl (Nat.le_of_ble_eq_true rfl) ?_
              intro v189 w190 h191
              obtain ⟨rfl, rfl, hf192⟩ := h191
              show X 0 0 [(qc, .inl (cI, 160, .inl cd_59)), (rd, .inr (4, [.ref rta, .int (nI n), .int (nI (p_nx tp n aa52)), .int (p_tk tp n aa52), .int (nI (p_pl tp n aa52)), .int v_58, .int (nI (p_pl tp n aa52)), .ref q])), (rta, .inl (cI, 160, .inl tp)), (q, .inr (2, [.ref qc, .ref qs, .ref qe, .int (nI ((0 + cc21.length) + cc52.length))])), (qe, .inl (cI, 3, .inl (upd (upd (upd en 0 (nI (0 + cc21.length))) 1 (nI ((0 + cc21.length) + cc52.length))) 2 (nI ((0 + cc21.length) + cc52.length)))))] [(2, .int 2), (0, .ref rd), (1, .ref q)] 53 []
              refine x_aload_n C dX5_read_53 1 rfl ?_
              refine x_bipush C dX5_read_54 (v := 59) rfl ?_
              refine x_callV C (As := [.int 59]) (st := []) (wc := [(rd, .inr (4, [.ref rta, .int (nI n), .int (nI (p_nx tp n aa52)), .int (p_tk tp n aa52), .int (nI (p_pl tp n aa52)), .int v_58, .int (nI (p_pl tp n aa52)), .ref q])), (rta, .inl (cI, 160, .inl tp))]) (wr := [(qc, .inl (cI, 160, .inl cd_59)), (q, .inr (2, [.ref qc, .ref qs, .ref qe, .int (nI ((0 + cc21.length) + cc52.length))])), (qe, .inl (cI, 3, .inl (upd (upd (upd en 0 (nI (0 + cc21.length))) 1 (nI ((0 + cc21.length) + cc52.length))) 2 (nI ((0 + cc21.length) + cc52.length)))))]) (c_X5_expect_f l dG cI cM cW cS adK adV fm rd rta q n tp (nI (p_nx tp n aa52)) (p_tk tp n aa52) (nI (p_pl tp n aa52)) v_58 (p_pl tp n aa52) 59 (by omega)) (rZs_ok adK adV fm) (fun _ _ _ h9 => h9) kV_X5_37 ⟨rfl, hy_X5_expect⟩ ⟨Nat.le_of_ble_eq_true rfl, Nat.le_of_ble_eq_true rfl⟩ ⟨Nat.le_of_ble_eq_true rfl, Nat.le_of_ble_eq_true rfl⟩ dX5_read_56 1 rfl rfl [1, 2] [0, 3, 4] rfl rfl rfl rfl (by decide) rfl (Nat.le_of_ble_eq_true rfl) ?_
              intro v193 w194 h195
              obtain ⟨rfl, rfl, hf196⟩ := h195
              show X 0 0 [(qc, .inl (cI, 160, .inl cd_59)), (q, .inr (2, [.ref qc, .ref qs, .ref qe, .int (nI ((0 + cc21.length) + cc52.length))])), (qe, .inl (cI, 3, .inl (upd (upd (upd en 0 (nI (0 + cc21.length))) 1 (nI ((0 + cc21.length) + cc52.length))) 2 (nI ((0 + cc21.length) + cc52.length))))), (rd, .inr (4, [.ref rta, .int (nI n), .int (nI (p_nx tp n aa52)), .int (p_tk tp n aa52), .int (nI (p_pl tp n aa52)), .int v_58, .int (nI (p_pl tp n aa52)), .ref q])), (rta, .inl (cI, 160, .inl tp))] [(2, .int 2), (0, .ref rd), (1, .ref q)] 59 []
              show X _ _ _ _ 59 _
              refine x_iinc C dX5_read_59 0 rfl (v := 3) (rfl) (by decide) (lv' := [(2, .int 3), (0, .ref rd), (1, .ref q)]) rfl ?_
              refine x_goto C dX5_read_62 (tgt := 28) rfl ?_
              refine x_iload_n C dX5_read_28 0 rfl ?_
              refine x_iconst C dX5_read_29 (v := 3) rfl ?_
              refine x_icmp_ge C dX5_read_30 (tgt := 65) rfl (fun _ => ?_) (fun q9 => by first | exact absurd q9 (by decide) | exact absurd (by decide) q9)
              refine x_aload_n C dX5_read_65 1 rfl ?_
              refine x_iconst C dX5_read_66 (v := 0) rfl ?_
              refine x_callV C (As := [.int 0]) (st := []) (wc := [(rd, .inr (4, [.ref rta, .int (nI n), .int (nI (p_nx tp n aa52)), .int (p_tk tp n aa52), .int (nI (p_pl tp n aa52)), .int v_58, .int (nI (p_pl tp n aa52)), .ref q]))]) (wr := [(qc, .inl (cI, 160, .inl cd_59)), (q, .inr (2, [.ref qc, .ref qs, .ref qe, .int (nI ((0 + cc21.length) + cc52.length))])), (qe, .inl (cI, 3, .inl (upd (upd (upd en 0 (nI (0 + cc21.length))) 1 (nI ((0 + cc21.length) + cc52.length))) 2 (nI ((0 + cc21.length) + cc52.length))))), (rta, .inl (cI, 160, .inl tp))]) (c_X5_has l dG cI cM cW cS rd rta q n tp (nI (p_nx tp n aa52)) (p_tk tp n aa52) (nI (p_pl tp n aa52)) v_58 (nI (p_pl tp n aa52)) 0 ) rZ0_ok (fun _ _ _ _ => trivial) kV_X5_47 ⟨rfl, hy_X5_has⟩ ⟨Nat.le_of_ble_eq_true rfl, Nat.le_of_ble_eq_true rfl⟩ ⟨Nat.le_of_ble_eq_true rfl, Nat.le_of_ble_eq_true rfl⟩ dX5_read_67 3 rfl rfl [3] [0, 1, 2, 4] rfl rfl rfl rfl (by decide) rfl (Nat.le_of_ble_eq_true rfl) ?_
              intro v197 w198 h199
              rcases h199 with h199 | h199
              ·
                obtain ⟨rfl, rfl, hf200⟩ := h199
                show X 0 0 [(qc, .inl (cI, 160, .inl cd_59)), (q, .inr (2, [.ref qc, .ref qs, .ref qe, .int (nI ((0 + cc21.length) + cc52.length))])), (qe, .inl (cI, 3, .inl (upd (upd (upd en 0 (nI (0 + cc21.length))) 1 (nI ((0 + cc21.length) + cc52.length))) 2 (nI ((0 + cc21.length) + cc52.length))))), (rta, .inl (cI, 160, .inl tp)), (rd, .inr (4, [.ref rta, .int (nI n), .int (nI (p_nx tp n aa52)), .int (p_tk tp n aa52), .int (nI (p_pl tp n aa52)), .int v_58, .int (nI (p_pl tp n aa52)), .ref q]))] [(2, .int 3), (0, .ref rd), (1, .ref q)] 70 [.int 1]
                exact absurd hf200.1 (nI_nm1 (by omega))
              ·
                obtain ⟨rfl, rfl, hf201⟩ := h199
                show X 0 0 [(qc, .inl (cI, 160, .inl cd_59)), (q, .inr (2, [.ref qc, .ref qs, .ref qe, .int (nI ((0 + cc21.length) + cc52.length))])), (qe, .inl (cI, 3, .inl (upd (upd (upd en 0 (nI (0 + cc21.length))) 1 (nI ((0 + cc21.length) + cc52.length))) 2 (nI ((0 + cc21.length) + cc52.length))))), (rta, .inl (cI, 160, .inl tp)), (rd, .inr (4, [.ref rta, .int (nI n), .int (nI (p_nx tp n aa52)), .int (p_tk tp n aa52), .int (nI (p_pl tp n aa52)), .int v_58, .int (nI (p_pl tp n aa52)), .ref q]))] [(2, .int 3), (0, .ref rd), (1, .ref q)] 70 [.int 0]
                refine x_if_ne C dX5_read_70 (tgt := 77) rfl (fun q9 => absurd q9 (by decide)) (fun _ => ?_)
                refine x_aload_n C dX5_read_73 1 rfl ?_
                refine x_callV C (As := []) (st := []) (wc := [(rd, .inr (4, [.ref rta, .int (nI n), .int (nI (p_nx tp n aa52)), .int (p_tk tp n aa52), .int (nI (p_pl tp n aa52)), .int v_58, .int (nI (p_pl tp n aa52)), .ref q]))]) (wr := [(qc, .inl (cI, 160, .inl cd_59)), (q, .inr (2, [.ref qc, .ref qs, .ref qe, .int (nI ((0 + cc21.length) + cc52.length))])), (qe, .inl (cI, 3, .inl (upd (upd (upd en 0 (nI (0 + cc21.length))) 1 (nI ((0 + cc21.length) + cc52.length))) 2 (nI ((0 + cc21.length) + cc52.length))))), (rta, .inl (cI, 160, .inl tp))]) (c_X5_faultHere_f l dG cI cM cW cS rd rta q n tp (nI (p_nx tp n aa52)) (p_tk tp n aa52) (nI (p_pl tp n aa52)) v_58 (p_pl tp n aa52) (by omega)) rZ0_ok (fun _ _ _ _ => trivial) kV_X5_51 ⟨rfl, hy_X5_faultHere⟩ ⟨Nat.le_of_ble_eq_true rfl, Nat.le_of_ble_eq_true rfl⟩ ⟨Nat.le_of_ble_eq_true rfl, Nat.le_of_ble_eq_true rfl⟩ dX5_read_74 4 rfl rfl [4] [0, 1, 2, 3] rfl rfl rfl rfl (by decide) rfl (Nat.le_of_ble_eq_true rfl) ?_
                intro v202 w203 h204
                obtain ⟨rfl, rfl, hf205⟩ := h204
                show X 0 0 [(qc, .inl (cI, 160, .inl cd_59)), (q, .inr (2, [.ref qc, .ref qs, .ref qe, .int (nI ((0 + cc21.length) + cc52.length))])), (qe, .inl (cI, 3, .inl (upd (upd (upd en 0 (nI (0 + cc21.length))) 1 (nI ((0 + cc21.length) + cc52.length))) 2 (nI ((0 + cc21.length) + cc52.length))))), (rta, .inl (cI, 160, .inl tp)), (rd, .inr (4, [.ref rta, .int (nI n), .int (nI (p_nx tp n aa52)), .int (p_tk tp n aa52), .int (nI (p_pl tp n aa52)), .int v_58, .int (nI (p_pl tp n aa52)), .ref q]))] [(2, .int 3), (0, .ref rd), (1, .ref q)] 77 []
                refine x_aload_n C dX5_read_77 1 rfl ?_
                refine x_iconst C dX5_read_78 (v := 0) rfl ?_
                refine x_put C inlX5 rfl tyX5 tyX5_ok nmX5 1 (by decide) gw_6_18 rfl dX5_read_79 4 rfl (rfl) rfl (Nat.le_of_ble_eq_true rfl) ?_
                show X _ _ [(qc, .inl (cI, 160, .inl cd_59)), (q, .inr (2, [.ref qc, .ref qs, .ref qe, .int (nI ((0 + cc21.length) + cc52.length))])), (qe, .inl (cI, 3, .inl (upd (upd (upd en 0 (nI (0 + cc21.length))) 1 (nI ((0 + cc21.length) + cc52.length))) 2 (nI ((0 + cc21.length) + cc52.length))))), (rta, .inl (cI, 160, .inl tp)), (rd, .inr (4, [.ref rta, .int 0, .int (nI (p_nx tp n aa52)), .int (p_tk tp n aa52), .int (nI (p_pl tp n aa52)), .int v_58, .int (nI (p_pl tp n aa52)), .ref q]))] _ _ _
                refine x_aload_n C dX5_read_82 1 rfl ?_
                refine x_get C inlX5 rfl 6 (by decide) gw_7_1 dX5_read_83 4 rfl rfl ?_
                refine x_sub C [4, 3, 1, 0, 2] (ws' := [(rd, .inr (4, [.ref rta, .int 0, .int (nI (p_nx tp n aa52)), .int (p_tk tp n aa52), .int (nI (p_pl tp n aa52)), .int v_58, .int (nI (p_pl tp n aa52)), .ref q])), (rta, .inl (cI, 160, .inl tp)), (q, .inr (2, [.ref qc, .ref qs, .ref qe, .int (nI ((0 + cc21.length) + cc52.length))])), (qc, .inl (cI, 160, .inl cd_59)), (qe, .inl (cI, 3, .inl (upd (upd (upd en 0 (nI (0 + cc21.length))) 1 (nI ((0 + cc21.length) + cc52.length))) 2 (nI ((0 + cc21.length) + cc52.length)))))]) rfl rfl ?_
                refine E dX5_read_86 (rfl) ?_
                exact Or.inr (⟨(nI (p_nx tp n aa52)), (p_tk tp n aa52), (nI (p_pl tp n aa52)), v_58, (nI (p_pl tp n aa52)), (nI ((0 + cc21.length) + cc52.length)), cd_59, (upd (upd (upd en 0 (nI (0 + cc21.length))) 1 (nI ((0 + cc21.length) + cc52.length))) 2 (nI ((0 + cc21.length) + cc52.length))), (p_pl tp n aa52), rfl, rfl, ⟨(p_txt_1 hp44 hp180).1, by rw [(p_txt_1 hp44 hp180).2], hfb9⟩⟩)
          ·
            obtain ⟨rat_206, rtk_207, rpl_208, rva_209, _, z_211, cd_212, rfl, rfl, ⟨rfl, hf214, hf215, hf216⟩⟩ := h55
            show X 0 0 [(qe, .inl (cI, 3, .inl (upd en 0 (nI (0 + cc21.length))))), (rd, .inr (4, [.ref rta, .int (nI n), .int rat_206, .int rtk_207, .int rpl_208, .int rva_209, .int (nI (p_pl tp n aa52)), .ref q])), (rta, .inl (cI, 160, .inl tp)), (q, .inr (2, [.ref qc, .ref qs, .ref qe, .int (nI z_211)])), (qc, .inl (cI, 160, .inl cd_212))] [(2, .int 1), (0, .ref rd), (1, .ref q)] 45 []
            subst hf214
            have hp217 := p_part_g htw hr52
            refine x_aload_n C dX5_read_45 1 rfl ?_
            refine x_get C inlX5 rfl 7 (by decide) gw_6_23 dX5_read_46 1 rfl rfl ?_
            refine x_iload_n C dX5_read_49 0 rfl ?_
            refine x_callV C (As := [.int (nI 1)]) (st := []) (wc := [(q, .inr (2, [.ref qc, .ref qs, .ref qe, .int (nI z_211)])), (qe, .inl (cI, 3, .inl (upd en 0 (nI (0 + cc21.length)))))]) (wr := [(rd, .inr (4, [.ref rta, .int (nI n), .int rat_206, .int rtk_207, .int rpl_208, .int rva_209, .int (nI (p_pl tp n aa52)), .ref q])), (rta, .inl (cI, 160, .inl tp)), (qc, .inl (cI, 160, .inl cd_212))]) (c_X3_endPart l dG cI cM cW cS q qc qs qe z_211 1 (upd en 0 (nI (0 + cc21.length))) (by first | assumption | omega | decide)) rZ0_ok (fun _ _ _ _ => trivial) kV_X5_44 ⟨rfl, hy_X3_endPart⟩ ⟨Nat.le_of_ble_eq_true rfl, Nat.le_of_ble_eq_true rfl⟩ ⟨Nat.le_of_ble_eq_true rfl, Nat.le_of_ble_eq_true rfl⟩ dX5_read_50 3 rfl rfl [3, 0] [1, 2, 4] rfl rfl rfl rfl (by decide) rfl (Nat.le_of_ble_eq_true rfl) ?_
            intro v218 w219 h220
            obtain ⟨rfl, rfl, hf221⟩ := h220
            show X 0 0 [(rd, .inr (4, [.ref rta, .int (nI n), .int rat_206, .int rtk_207, .int rpl_208, .int rva_209, .int (nI (p_pl tp n aa52)), .ref q])), (rta, .inl (cI, 160, .inl tp)), (qc, .inl (cI, 160, .inl cd_212)), (q, .inr (2, [.ref qc, .ref qs, .ref qe, .int (nI z_211)])), (qe, .inl (cI, 3, .inl (upd (upd en 0 (nI (0 + cc21.length))) 1 (nI z_211))))] [(2, .int 1), (0, .ref rd), (1, .ref q)] 53 []
            refine x_aload_n C dX5_read_53 1 rfl ?_
            refine x_bipush C dX5_read_54 (v := 59) rfl ?_
            refine x_callV C (As := [.int 59]) (st := []) (wc := [(rd, .inr (4, [.ref rta, .int (nI n), .int rat_206, .int rtk_207, .int rpl_208, .int rva_209, .int (nI (p_pl tp n aa52)), .ref q])), (rta, .inl (cI, 160, .inl tp))]) (wr := [(qc, .inl (cI, 160, .inl cd_212)), (q, .inr (2, [.ref qc, .ref qs, .ref qe, .int (nI z_211)])), (qe, .inl (cI, 3, .inl (upd (upd en 0 (nI (0 + cc21.length))) 1 (nI z_211))))]) (c_X5_expect_f l dG cI cM cW cS adK adV fm rd rta q n tp rat_206 rtk_207 rpl_208 rva_209 (p_pl tp n aa52) 59 (by omega)) (rZs_ok adK adV fm) (fun _ _ _ h9 => h9) kV_X5_37 ⟨rfl, hy_X5_expect⟩ ⟨Nat.le_of_ble_eq_true rfl, Nat.le_of_ble_eq_true rfl⟩ ⟨Nat.le_of_ble_eq_true rfl, Nat.le_of_ble_eq_true rfl⟩ dX5_read_56 0 rfl rfl [0, 1] [2, 3, 4] rfl rfl rfl rfl (by decide) rfl (Nat.le_of_ble_eq_true rfl) ?_
            intro v222 w223 h224
            obtain ⟨rfl, rfl, hf225⟩ := h224
            show X 0 0 [(qc, .inl (cI, 160, .inl cd_212)), (q, .inr (2, [.ref qc, .ref qs, .ref qe, .int (nI z_211)])), (qe, .inl (cI, 3, .inl (upd (upd en 0 (nI (0 + cc21.length))) 1 (nI z_211)))), (rd, .inr (4, [.ref rta, .int (nI n), .int rat_206, .int rtk_207, .int rpl_208, .int rva_209, .int (nI (p_pl tp n aa52)), .ref q])), (rta, .inl (cI, 160, .inl tp))] [(2, .int 1), (0, .ref rd), (1, .ref q)] 59 []
            refine x_iinc C dX5_read_59 0 rfl (v := 2) (rfl) (by decide) (lv' := [(2, .int 2), (0, .ref rd), (1, .ref q)]) rfl ?_
            refine x_goto C dX5_read_62 (tgt := 28) rfl ?_
            refine x_iload_n C dX5_read_28 0 rfl ?_
            show X _ _ _ _ 29 _
            refine x_iconst C dX5_read_29 (v := 3) rfl ?_
            refine x_icmp_ge C dX5_read_30 (tgt := 65) rfl (fun q9 => absurd q9 (by decide)) (fun _ => ?_)
            refine x_aload_n C dX5_read_33 1 rfl ?_
            refine x_iconst C dX5_read_34 (v := 4) rfl ?_
            refine x_iload_n C dX5_read_35 0 rfl ?_
            refine x_iadd C dX5_read_36 ?_
            refine x_topi C 6 (by decide) ?_
            refine x_callV C (As := [.int 6]) (st := []) (wc := [(rd, .inr (4, [.ref rta, .int (nI n), .int rat_206, .int rtk_207, .int rpl_208, .int rva_209, .int (nI (p_pl tp n aa52)), .ref q])), (rta, .inl (cI, 160, .inl tp))]) (wr := [(qc, .inl (cI, 160, .inl cd_212)), (q, .inr (2, [.ref qc, .ref qs, .ref qe, .int (nI z_211)])), (qe, .inl (cI, 3, .inl (upd (upd en 0 (nI (0 + cc21.length))) 1 (nI z_211))))]) (c_X5_expect_f l dG cI cM cW cS adK adV fm rd rta q n tp rat_206 rtk_207 rpl_208 rva_209 (p_pl tp n aa52) 6 (by omega)) (rZs_ok adK adV fm) (fun _ _ _ h9 => h9) kV_X5_37 ⟨rfl, hy_X5_expect⟩ ⟨Nat.le_of_ble_eq_true rfl, Nat.le_of_ble_eq_true rfl⟩ ⟨Nat.le_of_ble_eq_true rfl, Nat.le_of_ble_eq_true rfl⟩ dX5_read_37 3 rfl rfl [3, 4] [0, 1, 2] rfl rfl rfl rfl (by decide) rfl (Nat.le_of_ble_eq_true rfl) ?_
            intro v226 w227 h228
            obtain ⟨rfl, rfl, hf229⟩ := h228
            show X 0 0 [(qc, .inl (cI, 160, .inl cd_212)), (q, .inr (2, [.ref qc, .ref qs, .ref qe, .int (nI z_211)])), (qe, .inl (cI, 3, .inl (upd (upd en 0 (nI (0 + cc21.length))) 1 (nI z_211)))), (rd, .inr (4, [.ref rta, .int (nI n), .int rat_206, .int rtk_207, .int rpl_208, .int rva_209, .int (nI (p_pl tp n aa52)), .ref q])), (rta, .inl (cI, 160, .inl tp))] [(2, .int 2), (0, .ref rd), (1, .ref q)] 40 []
            refine x_aload_n C dX5_read_40 1 rfl ?_
            refine x_iconst C dX5_read_41 (v := 0) rfl ?_
            refine x_callV C (As := [.int 0]) (st := []) (wc := [(rd, .inr (4, [.ref rta, .int (nI n), .int rat_206, .int rtk_207, .int rpl_208, .int rva_209, .int (nI (p_pl tp n aa52)), .ref q])), (rta, .inl (cI, 160, .inl tp))]) (wr := [(qc, .inl (cI, 160, .inl cd_212)), (q, .inr (2, [.ref qc, .ref qs, .ref qe, .int (nI z_211)])), (qe, .inl (cI, 3, .inl (upd (upd en 0 (nI (0 + cc21.length))) 1 (nI z_211))))]) (c_X5_readOr_f l dG cI cM cW cS adK adV fm rd rta q n tp rat_206 rtk_207 rpl_208 rva_209 (p_pl tp n aa52) 0 (by omega)) (rZs_ok adK adV fm) (fun _ _ _ h9 => h9) kV_X5_41 ⟨rfl, hy_X5_readOr⟩ ⟨Nat.le_of_ble_eq_true rfl, Nat.le_of_ble_eq_true rfl⟩ ⟨Nat.le_of_ble_eq_true rfl, Nat.le_of_ble_eq_true rfl⟩ dX5_read_42 3 rfl rfl [3, 4] [0, 1, 2] rfl rfl rfl rfl (by decide) rfl (Nat.le_of_ble_eq_true rfl) ?_
            intro v230 w231 h232
            obtain ⟨rfl, rfl, hf233⟩ := h232
            show X 0 0 [(qc, .inl (cI, 160, .inl cd_212)), (q, .inr (2, [.ref qc, .ref qs, .ref qe, .int (nI z_211)])), (qe, .inl (cI, 3, .inl (upd (upd en 0 (nI (0 + cc21.length))) 1 (nI z_211)))), (rd, .inr (4, [.ref rta, .int (nI n), .int rat_206, .int rtk_207, .int rpl_208, .int rva_209, .int (nI (p_pl tp n aa52)), .ref q])), (rta, .inl (cI, 160, .inl tp))] [(2, .int 2), (0, .ref rd), (1, .ref q)] 45 []
            show X _ _ _ _ 45 _
            refine x_aload_n C dX5_read_45 1 rfl ?_
            refine x_get C inlX5 rfl 7 (by decide) gw_6_23 dX5_read_46 3 rfl rfl ?_
            refine x_iload_n C dX5_read_49 0 rfl ?_
            refine x_callV C (As := [.int (nI 2)]) (st := []) (wc := [(q, .inr (2, [.ref qc, .ref qs, .ref qe, .int (nI z_211)])), (qe, .inl (cI, 3, .inl (upd (upd en 0 (nI (0 + cc21.length))) 1 (nI z_211))))]) (wr := [(qc, .inl (cI, 160, .inl cd_212)), (rd, .inr (4, [.ref rta, .int (nI n), .int rat_206, .int rtk_207, .int rpl_208, .int rva_209, .int (nI (p_pl tp n aa52)), .ref q])), (rta, .inl (cI, 160, .inl tp))]) (c_X3_endPart l dG cI cM cW cS q qc qs qe z_211 2 (upd (upd en 0 (nI (0 + cc21.length))) 1 (nI z_211)) (by first | assumption | omega | decide)) rZ0_ok (fun _ _ _ _ => trivial) kV_X5_44 ⟨rfl, hy_X3_endPart⟩ ⟨Nat.le_of_ble_eq_true rfl, Nat.le_of_ble_eq_true rfl⟩ ⟨Nat.le_of_ble_eq_true rfl, Nat.le_of_ble_eq_true rfl⟩ dX5_read_50 1 rfl rfl [1, 2] [0, 3, 4] rfl rfl rfl rfl (by decide) rfl (Nat.le_of_ble_eq_true rfl) ?_
            intro v234 w235 h236
            obtain ⟨rfl, rfl, hf237⟩ := h236
            show X 0 0 [(qc, .inl (cI, 160, .inl cd_212)), (rd, .inr (4, [.ref rta, .int (nI n), .int rat_206, .int rtk_207, .int rpl_208, .int rva_209, .int (nI (p_pl tp n aa52)), .ref q])), (rta, .inl (cI, 160, .inl tp)), (q, .inr (2, [.ref qc, .ref qs, .ref qe, .int (nI z_211)])), (qe, .inl (cI, 3, .inl (upd (upd (upd en 0 (nI (0 + cc21.length))) 1 (nI z_211)) 2 (nI z_211))))] [(2, .int 2), (0, .ref rd), (1, .ref q)] 53 []
            refine x_aload_n C dX5_read_53 1 rfl ?_
            refine x_bipush C dX5_read_54 (v := 59) rfl ?_
            refine x_callV C (As := [.int 59]) (st := []) (wc := [(rd, .inr (4, [.ref rta, .int (nI n), .int rat_206, .int rtk_207, .int rpl_208, .int rva_209, .int (nI (p_pl tp n aa52)), .ref q])), (rta, .inl (cI, 160, .inl tp))]) (wr := [(qc, .inl (cI, 160, .inl cd_212)), (q, .inr (2, [.ref qc, .ref qs, .ref qe, .int (nI z_211)])), (qe, .inl (cI, 3, .inl (upd (upd (upd en 0 (nI (0 + cc21.length))) 1 (nI z_211)) 2 (nI z_211))))]) (c_X5_expect_f l dG cI cM cW cS adK adV fm rd rta q n tp rat_206 rtk_207 rpl_208 rva_209 (p_pl tp n aa52) 59 (by omega)) (rZs_ok adK adV fm) (fun _ _ _ h9 => h9) kV_X5_37 ⟨rfl, hy_X5_expect⟩ ⟨Nat.le_of_ble_eq_true rfl, Nat.le_of_ble_eq_true rfl⟩ ⟨Nat.le_of_ble_eq_true rfl, Nat.le_of_ble_eq_true rfl⟩ dX5_read_56 1 rfl rfl [1, 2] [0, 3, 4] rfl rfl rfl rfl (by decide) rfl (Nat.le_of_ble_eq_true rfl) ?_
            intro v238 w239 h240
            obtain ⟨rfl, rfl, hf241⟩ := h240
            show X 0 0 [(qc, .inl (cI, 160, .inl cd_212)), (q, .inr (2, [.ref qc, .ref qs, .ref qe, .int (nI z_211)])), (qe, .inl (cI, 3, .inl (upd (upd (upd en 0 (nI (0 + cc21.length))) 1 (nI z_211)) 2 (nI z_211)))), (rd, .inr (4, [.ref rta, .int (nI n), .int rat_206, .int rtk_207, .int rpl_208, .int rva_209, .int (nI (p_pl tp n aa52)), .ref q])), (rta, .inl (cI, 160, .inl tp))] [(2, .int 2), (0, .ref rd), (1, .ref q)] 59 []
            refine x_iinc C dX5_read_59 0 rfl (v := 3) (rfl) (by decide) (lv' := [(2, .int 3), (0, .ref rd), (1, .ref q)]) rfl ?_
            refine x_goto C dX5_read_62 (tgt := 28) rfl ?_
            refine x_iload_n C dX5_read_28 0 rfl ?_
            show X _ _ _ _ 29 _
            refine x_iconst C dX5_read_29 (v := 3) rfl ?_
            refine x_icmp_ge C dX5_read_30 (tgt := 65) rfl (fun _ => ?_) (fun q9 => by first | exact absurd q9 (by decide) | exact absurd (by decide) q9)
            refine x_aload_n C dX5_read_65 1 rfl ?_
            refine x_iconst C dX5_read_66 (v := 0) rfl ?_
            refine x_callV C (As := [.int 0]) (st := []) (wc := [(rd, .inr (4, [.ref rta, .int (nI n), .int rat_206, .int rtk_207, .int rpl_208, .int rva_209, .int (nI (p_pl tp n aa52)), .ref q]))]) (wr := [(qc, .inl (cI, 160, .inl cd_212)), (q, .inr (2, [.ref qc, .ref qs, .ref qe, .int (nI z_211)])), (qe, .inl (cI, 3, .inl (upd (upd (upd en 0 (nI (0 + cc21.length))) 1 (nI z_211)) 2 (nI z_211)))), (rta, .inl (cI, 160, .inl tp))]) (c_X5_has l dG cI cM cW cS rd rta q n tp rat_206 rtk_207 rpl_208 rva_209 (nI (p_pl tp n aa52)) 0 ) rZ0_ok (fun _ _ _ _ => trivial) kV_X5_47 ⟨rfl, hy_X5_has⟩ ⟨Nat.le_of_ble_eq_true rfl, Nat.le_of_ble_eq_true rfl⟩ ⟨Nat.le_of_ble_eq_true rfl, Nat.le_of_ble_eq_true rfl⟩ dX5_read_67 3 rfl rfl [3] [0, 1, 2, 4] rfl rfl rfl rfl (by decide) rfl (Nat.le_of_ble_eq_true rfl) ?_
            intro v242 w243 h244
            rcases h244 with h244 | h244
            ·
              obtain ⟨rfl, rfl, hf245⟩ := h244
              show X 0 0 [(qc, .inl (cI, 160, .inl cd_212)), (q, .inr (2, [.ref qc, .ref qs, .ref qe, .int (nI z_211)])), (qe, .inl (cI, 3, .inl (upd (upd (upd en 0 (nI (0 + cc21.length))) 1 (nI z_211)) 2 (nI z_211)))), (rta, .inl (cI, 160, .inl tp)), (rd, .inr (4, [.ref rta, .int (nI n), .int rat_206, .int rtk_207, .int rpl_208, .int rva_209, .int (nI (p_pl tp n aa52)), .ref q]))] [(2, .int 3), (0, .ref rd), (1, .ref q)] 70 [.int 1]
              exact absurd hf245.1 (nI_nm1 (by omega))
            ·
              obtain ⟨rfl, rfl, hf246⟩ := h244
              show X 0 0 [(qc, .inl (cI, 160, .inl cd_212)), (q, .inr (2, [.ref qc, .ref qs, .ref qe, .int (nI z_211)])), (qe, .inl (cI, 3, .inl (upd (upd (upd en 0 (nI (0 + cc21.length))) 1 (nI z_211)) 2 (nI z_211)))), (rta, .inl (cI, 160, .inl tp)), (rd, .inr (4, [.ref rta, .int (nI n), .int rat_206, .int rtk_207, .int rpl_208, .int rva_209, .int (nI (p_pl tp n aa52)), .ref q]))] [(2, .int 3), (0, .ref rd), (1, .ref q)] 70 [.int 0]
              refine x_if_ne C dX5_read_70 (tgt := 77) rfl (fun q9 => absurd q9 (by decide)) (fun _ => ?_)
              refine x_aload_n C dX5_read_73 1 rfl ?_
              refine x_callV C (As := []) (st := []) (wc := [(rd, .inr (4, [.ref rta, .int (nI n), .int rat_206, .int rtk_207, .int rpl_208, .int rva_209, .int (nI (p_pl tp n aa52)), .ref q]))]) (wr := [(qc, .inl (cI, 160, .inl cd_212)), (q, .inr (2, [.ref qc, .ref qs, .ref qe, .int (nI z_211)])), (qe, .inl (cI, 3, .inl (upd (upd (upd en 0 (nI (0 + cc21.length))) 1 (nI z_211)) 2 (nI z_211)))), (rta, .inl (cI, 160, .inl tp))]) (c_X5_faultHere_f l dG cI cM cW cS rd rta q n tp rat_206 rtk_207 rpl_208 rva_209 (p_pl tp n aa52) (by omega)) rZ0_ok (fun _ _ _ _ => trivial) kV_X5_51 ⟨rfl, hy_X5_faultHere⟩ ⟨Nat.le_of_ble_eq_true rfl, Nat.le_of_ble_eq_true rfl⟩ ⟨Nat.le_of_ble_eq_true rfl, Nat.le_of_ble_eq_true rfl⟩ dX5_read_74 4 rfl rfl [4] [0, 1, 2, 3] rfl rfl rfl rfl (by decide) rfl (Nat.le_of_ble_eq_true rfl) ?_
              intro v247 w248 h249
              obtain ⟨rfl, rfl, hf250⟩ := h249
              show X 0 0 [(qc, .inl (cI, 160, .inl cd_212)), (q, .inr (2, [.ref qc, .ref qs, .ref qe, .int (nI z_211)])), (qe, .inl (cI, 3, .inl (upd (upd (upd en 0 (nI (0 + cc21.length))) 1 (nI z_211)) 2 (nI z_211)))), (rta, .inl (cI, 160, .inl tp)), (rd, .inr (4, [.ref rta, .int (nI n), .int rat_206, .int rtk_207, .int rpl_208, .int rva_209, .int (nI (p_pl tp n aa52)), .ref q]))] [(2, .int 3), (0, .ref rd), (1, .ref q)] 77 []
              refine x_aload_n C dX5_read_77 1 rfl ?_
              refine x_iconst C dX5_read_78 (v := 0) rfl ?_
              refine x_put C inlX5 rfl tyX5 tyX5_ok nmX5 1 (by decide) gw_6_18 rfl dX5_read_79 4 rfl (rfl) rfl (Nat.le_of_ble_eq_true rfl) ?_
              show X _ _ [(qc, .inl (cI, 160, .inl cd_212)), (q, .inr (2, [.ref qc, .ref qs, .ref qe, .int (nI z_211)])), (qe, .inl (cI, 3, .inl (upd (upd (upd en 0 (nI (0 + cc21.length))) 1 (nI z_211)) 2 (nI z_211)))), (rta, .inl (cI, 160, .inl tp)), (rd, .inr (4, [.ref rta, .int 0, .int rat_206, .int rtk_207, .int rpl_208, .int rva_209, .int (nI (p_pl tp n aa52)), .ref q]))] _ _ _
              refine x_aload_n C dX5_read_82 1 rfl ?_
              refine x_get C inlX5 rfl 6 (by decide) gw_7_1 dX5_read_83 4 rfl rfl ?_
              refine x_sub C [4, 3, 1, 0, 2] (ws' := [(rd, .inr (4, [.ref rta, .int 0, .int rat_206, .int rtk_207, .int rpl_208, .int rva_209, .int (nI (p_pl tp n aa52)), .ref q])), (rta, .inl (cI, 160, .inl tp)), (q, .inr (2, [.ref qc, .ref qs, .ref qe, .int (nI z_211)])), (qc, .inl (cI, 160, .inl cd_212)), (qe, .inl (cI, 3, .inl (upd (upd (upd en 0 (nI (0 + cc21.length))) 1 (nI z_211)) 2 (nI z_211))))]) rfl rfl ?_
              refine E dX5_read_86 (rfl) ?_
              exact Or.inr (⟨rat_206, rtk_207, rpl_208, rva_209, (nI (p_pl tp n aa52)), (nI z_211), cd_212, (upd (upd (upd en 0 (nI (0 + cc21.length))) 1 (nI z_211)) 2 (nI z_211)), (p_pl tp n aa52), rfl, rfl, ⟨(p_txt_1 hp44 hp217).1, by rw [(p_txt_1 hp44 hp217).2], hf216⟩⟩)
        ·
          obtain ⟨rfl, rfl, hf251⟩ := h47
          show X 0 0 [(qc, .inl (cI, 160, .inl cd_28)), (q, .inr (2, [.ref qc, .ref qs, .ref qe, .int (nI (0 + cc21.length))])), (qe, .inl (cI, 3, .inl (upd en 0 (nI (0 + cc21.length))))), (rd, .inr (4, [.ref rta, .int (nI n), .int (nI (p_nx tp n (p_nx tp n aa21))), .int (p_tk tp n (p_nx tp n aa21)), .int (nI (p_pl tp n (p_nx tp n aa21))), .int v_40, .int (nI (p_pl tp n (p_nx tp n aa21))), .ref q])), (rta, .inl (cI, 160, .inl tp))] [(2, .int 1), (0, .ref rd), (1, .ref q)] 40 []
          have hp252 := p_part_w hf251
          have hfb9 : p_pl tp n (p_nx tp n aa21) ≤ 160 := Nat.le_trans (p_pl_le (by omega)) hn
          refine x_aload_n C dX5_read_40 1 rfl ?_
          refine x_iconst C dX5_read_41 (v := 0) rfl ?_
          refine x_callV C (As := [.int 0]) (st := []) (wc := [(rd, .inr (4, [.ref rta, .int (nI n), .int (nI (p_nx tp n (p_nx tp n aa21))), .int (p_tk tp n (p_nx tp n aa21)), .int (nI (p_pl tp n (p_nx tp n aa21))), .int v_40, .int (nI (p_pl tp n (p_nx tp n aa21))), .ref q])), (rta, .inl (cI, 160, .inl tp))]) (wr := [(qc, .inl (cI, 160, .inl cd_28)), (q, .inr (2, [.ref qc, .ref qs, .ref qe, .int (nI (0 + cc21.length))])), (qe, .inl (cI, 3, .inl (upd en 0 (nI (0 + cc21.length)))))]) (c_X5_readOr_f l dG cI cM cW cS adK adV fm rd rta q n tp (nI (p_nx tp n (p_nx tp n aa21))) (p_tk tp n (p_nx tp n aa21)) (nI (p_pl tp n (p_nx tp n aa21))) v_40 (p_pl tp n (p_nx tp n aa21)) 0 (by omega)) (rZs_ok adK adV fm) (fun _ _ _ h9 => h9) kV_X5_41 ⟨rfl, hy_X5_readOr⟩ ⟨Nat.le_of_ble_eq_true rfl, Nat.le_of_ble_eq_true rfl⟩ ⟨Nat.le_of_ble_eq_true rfl, Nat.le_of_ble_eq_true rfl⟩ dX5_read_42 3 rfl rfl [3, 4] [0, 1, 2] rfl rfl rfl rfl (by decide) rfl (Nat.le_of_ble_eq_true rfl) ?_
          intro v253 w254 h255
          obtain ⟨rfl, rfl, hf256⟩ := h255
          show X 0 0 [(qc, .inl (cI, 160, .inl cd_28)), (q, .inr (2, [.ref qc, .ref qs, .ref qe, .int (nI (0 + cc21.length))])), (qe, .inl (cI, 3, .inl (upd en 0 (nI (0 + cc21.length))))), (rd, .inr (4, [.ref rta, .int (nI n), .int (nI (p_nx tp n (p_nx tp n aa21))), .int (p_tk tp n (p_nx tp n aa21)), .int (nI (p_pl tp n (p_nx tp n aa21))), .int v_40, .int (nI (p_pl tp n (p_nx tp n aa21))), .ref q])), (rta, .inl (cI, 160, .inl tp))] [(2, .int 1), (0, .ref rd), (1, .ref q)] 45 []
          refine x_aload_n C dX5_read_45 1 rfl ?_
          refine x_get C inlX5 rfl 7 (by decide) gw_6_23 dX5_read_46 3 rfl rfl ?_
          refine x_iload_n C dX5_read_49 0 rfl ?_
          refine x_callV C (As := [.int (nI 1)]) (st := []) (wc := [(q, .inr (2, [.ref qc, .ref qs, .ref qe, .int (nI (0 + cc21.length))])), (qe, .inl (cI, 3, .inl (upd en 0 (nI (0 + cc21.length)))))]) (wr := [(qc, .inl (cI, 160, .inl cd_28)), (rd, .inr (4, [.ref rta, .int (nI n), .int (nI (p_nx tp n (p_nx tp n aa21))), .int (p_tk tp n (p_nx tp n aa21)), .int (nI (p_pl tp n (p_nx tp n aa21))), .int v_40, .int (nI (p_pl tp n (p_nx tp n aa21))), .ref q])), (rta, .inl (cI, 160, .inl tp))]) (c_X3_endPart l dG cI cM cW cS q qc qs qe (0 + cc21.length) 1 (upd en 0 (nI (0 + cc21.length))) (by first | assumption | omega | decide)) rZ0_ok (fun _ _ _ _ => trivial) kV_X5_44 ⟨rfl, hy_X3_endPart⟩ ⟨Nat.le_of_ble_eq_true rfl, Nat.le_of_ble_eq_true rfl⟩ ⟨Nat.le_of_ble_eq_true rfl, Nat.le_of_ble_eq_true rfl⟩ dX5_read_50 1 rfl rfl [1, 2] [0, 3, 4] rfl rfl rfl rfl (by decide) rfl (Nat.le_of_ble_eq_true rfl) ?_
          intro v257 w258 h259
          obtain ⟨rfl, rfl, hf260⟩ := h259
          show X 0 0 [(qc, .inl (cI, 160, .inl cd_28)), (rd, .inr (4, [.ref rta, .int (nI n), .int (nI (p_nx tp n (p_nx tp n aa21))), .int (p_tk tp n (p_nx tp n aa21)), .int (nI (p_pl tp n (p_nx tp n aa21))), .int v_40, .int (nI (p_pl tp n (p_nx tp n aa21))), .ref q])), (rta, .inl (cI, 160, .inl tp)), (q, .inr (2, [.ref qc, .ref qs, .ref qe, .int (nI (0 + cc21.length))])), (qe, .inl (cI, 3, .inl (upd (upd en 0 (nI (0 + cc21.length))) 1 (nI (0 + cc21.length)))))] [(2, .int 1), (0, .ref rd), (1, .ref q)] 53 []
          refine x_aload_n C dX5_read_53 1 rfl ?_
          refine x_bipush C dX5_read_54 (v := 59) rfl ?_
          refine x_callV C (As := [.int 59]) (st := []) (wc := [(rd, .inr (4, [.ref rta, .int (nI n), .int (nI (p_nx tp n (p_nx tp n aa21))), .int (p_tk tp n (p_nx tp n aa21)), .int (nI (p_pl tp n (p_nx tp n aa21))), .int v_40, .int (nI (p_pl tp n (p_nx tp n aa21))), .ref q])), (rta, .inl (cI, 160, .inl tp))]) (wr := [(qc, .inl (cI, 160, .inl cd_28)), (q, .inr (2, [.ref qc, .ref qs, .ref qe, .int (nI (0 + cc21.length))])), (qe, .inl (cI, 3, .inl (upd (upd en 0 (nI (0 + cc21.length))) 1 (nI (0 + cc21.length)))))]) (c_X5_expect_f l dG cI cM cW cS adK adV fm rd rta q n tp (nI (p_nx tp n (p_nx tp n aa21))) (p_tk tp n (p_nx tp n aa21)) (nI (p_pl tp n (p_nx tp n aa21))) v_40 (p_pl tp n (p_nx tp n aa21)) 59 (by omega)) (rZs_ok adK adV fm) (fun _ _ _ h9 => h9) kV_X5_37 ⟨rfl, hy_X5_expect⟩ ⟨Nat.le_of_ble_eq_true rfl, Nat.le_of_ble_eq_true rfl⟩ ⟨Nat.le_of_ble_eq_true rfl, Nat.le_of_ble_eq_true rfl⟩ dX5_read_56 1 rfl rfl [1, 2] [0, 3, 4] rfl rfl rfl rfl (by decide) rfl (Nat.le_of_ble_eq_true rfl) ?_
          intro v261 w262 h263
          obtain ⟨rfl, rfl, hf264⟩ := h263
          show X 0 0 [(qc, .inl (cI, 160, .inl cd_28)), (q, .inr (2, [.ref qc, .ref qs, .ref qe, .int (nI (0 + cc21.length))])), (qe, .inl (cI, 3, .inl (upd (upd en 0 (nI (0 + cc21.length))) 1 (nI (0 + cc21.length))))), (rd, .inr (4, [.ref rta, .int (nI n), .int (nI (p_nx tp n (p_nx tp n aa21))), .int (p_tk tp n (p_nx tp n aa21)), .int (nI (p_pl tp n (p_nx tp n aa21))), .int v_40, .int (nI (p_pl tp n (p_nx tp n aa21))), .ref q])), (rta, .inl (cI, 160, .inl tp))] [(2, .int 1), (0, .ref rd), (1, .ref q)] 59 []
          show X _ _ _ _ 59 _
          refine x_iinc C dX5_read_59 0 rfl (v := 2) (rfl) (by decide) (lv' := [(2, .int 2), (0, .ref rd), (1, .ref q)]) rfl ?_
          refine x_goto C dX5_read_62 (tgt := 28) rfl ?_
          refine x_iload_n C dX5_read_28 0 rfl ?_
          refine x_iconst C dX5_read_29 (v := 3) rfl ?_
          refine x_icmp_ge C dX5_read_30 (tgt := 65) rfl (fun q9 => absurd q9 (by decide)) (fun _ => ?_)
          refine x_aload_n C dX5_read_33 1 rfl ?_
          refine x_iconst C dX5_read_34 (v := 4) rfl ?_
          refine x_iload_n C dX5_read_35 0 rfl ?_
          refine x_iadd C dX5_read_36 ?_
          refine x_topi C 6 (by decide) ?_
          refine x_callV C (As := [.int 6]) (st := []) (wc := [(rd, .inr (4, [.ref rta, .int (nI n), .int (nI (p_nx tp n (p_nx tp n aa21))), .int (p_tk tp n (p_nx tp n aa21)), .int (nI (p_pl tp n (p_nx tp n aa21))), .int v_40, .int (nI (p_pl tp n (p_nx tp n aa21))), .ref q])), (rta, .inl (cI, 160, .inl tp))]) (wr := [(qc, .inl (cI, 160, .inl cd_28)), (q, .inr (2, [.ref qc, .ref qs, .ref qe, .int (nI (0 + cc21.length))])), (qe, .inl (cI, 3, .inl (upd (upd en 0 (nI (0 + cc21.length))) 1 (nI (0 + cc21.length)))))]) (c_X5_expect_f l dG cI cM cW cS adK adV fm rd rta q n tp (nI (p_nx tp n (p_nx tp n aa21))) (p_tk tp n (p_nx tp n aa21)) (nI (p_pl tp n (p_nx tp n aa21))) v_40 (p_pl tp n (p_nx tp n aa21)) 6 (by omega)) (rZs_ok adK adV fm) (fun _ _ _ h9 => h9) kV_X5_37 ⟨rfl, hy_X5_expect⟩ ⟨Nat.le_of_ble_eq_true rfl, Nat.le_of_ble_eq_true rfl⟩ ⟨Nat.le_of_ble_eq_true rfl, Nat.le_of_ble_eq_true rfl⟩ dX5_read_37 3 rfl rfl [3, 4] [0, 1, 2] rfl rfl rfl rfl (by decide) rfl (Nat.le_of_ble_eq_true rfl) ?_
          intro v265 w266 h267
          obtain ⟨rfl, rfl, hf268⟩ := h267
          show X 0 0 [(qc, .inl (cI, 160, .inl cd_28)), (q, .inr (2, [.ref qc, .ref qs, .ref qe, .int (nI (0 + cc21.length))])), (qe, .inl (cI, 3, .inl (upd (upd en 0 (nI (0 + cc21.length))) 1 (nI (0 + cc21.length))))), (rd, .inr (4, [.ref rta, .int (nI n), .int (nI (p_nx tp n (p_nx tp n aa21))), .int (p_tk tp n (p_nx tp n aa21)), .int (nI (p_pl tp n (p_nx tp n aa21))), .int v_40, .int (nI (p_pl tp n (p_nx tp n aa21))), .ref q])), (rta, .inl (cI, 160, .inl tp))] [(2, .int 2), (0, .ref rd), (1, .ref q)] 40 []
          show X _ _ _ _ 40 _
          refine x_aload_n C dX5_read_40 1 rfl ?_
          refine x_iconst C dX5_read_41 (v := 0) rfl ?_
          refine x_callV C (As := [.int 0]) (st := []) (wc := [(rd, .inr (4, [.ref rta, .int (nI n), .int (nI (p_nx tp n (p_nx tp n aa21))), .int (p_tk tp n (p_nx tp n aa21)), .int (nI (p_pl tp n (p_nx tp n aa21))), .int v_40, .int (nI (p_pl tp n (p_nx tp n aa21))), .ref q])), (rta, .inl (cI, 160, .inl tp))]) (wr := [(qc, .inl (cI, 160, .inl cd_28)), (q, .inr (2, [.ref qc, .ref qs, .ref qe, .int (nI (0 + cc21.length))])), (qe, .inl (cI, 3, .inl (upd (upd en 0 (nI (0 + cc21.length))) 1 (nI (0 + cc21.length)))))]) (c_X5_readOr_f l dG cI cM cW cS adK adV fm rd rta q n tp (nI (p_nx tp n (p_nx tp n aa21))) (p_tk tp n (p_nx tp n aa21)) (nI (p_pl tp n (p_nx tp n aa21))) v_40 (p_pl tp n (p_nx tp n aa21)) 0 (by omega)) (rZs_ok adK adV fm) (fun _ _ _ h9 => h9) kV_X5_41 ⟨rfl, hy_X5_readOr⟩ ⟨Nat.le_of_ble_eq_true rfl, Nat.le_of_ble_eq_true rfl⟩ ⟨Nat.le_of_ble_eq_true rfl, Nat.le_of_ble_eq_true rfl⟩ dX5_read_42 3 rfl rfl [3, 4] [0, 1, 2] rfl rfl rfl rfl (by decide) rfl (Nat.le_of_ble_eq_true rfl) ?_
          intro v269 w270 h271
          obtain ⟨rfl, rfl, hf272⟩ := h271
          show X 0 0 [(qc, .inl (cI, 160, .inl cd_28)), (q, .inr (2, [.ref qc, .ref qs, .ref qe, .int (nI (0 + cc21.length))])), (qe, .inl (cI, 3, .inl (upd (upd en 0 (nI (0 + cc21.length))) 1 (nI (0 + cc21.length))))), (rd, .inr (4, [.ref rta, .int (nI n), .int (nI (p_nx tp n (p_nx tp n aa21))), .int (p_tk tp n (p_nx tp n aa21)), .int (nI (p_pl tp n (p_nx tp n aa21))), .int v_40, .int (nI (p_pl tp n (p_nx tp n aa21))), .ref q])), (rta, .inl (cI, 160, .inl tp))] [(2, .int 2), (0, .ref rd), (1, .ref q)] 45 []
          refine x_aload_n C dX5_read_45 1 rfl ?_
          refine x_get C inlX5 rfl 7 (by decide) gw_6_23 dX5_read_46 3 rfl rfl ?_
          refine x_iload_n C dX5_read_49 0 rfl ?_
          refine x_callV C (As := [.int (nI 2)]) (st := []) (wc := [(q, .inr (2, [.ref qc, .ref qs, .ref qe, .int (nI (0 + cc21.length))])), (qe, .inl (cI, 3, .inl (upd (upd en 0 (nI (0 + cc21.length))) 1 (nI (0 + cc21.length)))))]) (wr := [(qc, .inl (cI, 160, .inl cd_28)), (rd, .inr (4, [.ref rta, .int (nI n), .int (nI (p_nx tp n (p_nx tp n aa21))), .int (p_tk tp n (p_nx tp n aa21)), .int (nI (p_pl tp n (p_nx tp n aa21))), .int v_40, .int (nI (p_pl tp n (p_nx tp n aa21))), .ref q])), (rta, .inl (cI, 160, .inl tp))]) (c_X3_endPart l dG cI cM cW cS q qc qs qe (0 + cc21.length) 2 (upd (upd en 0 (nI (0 + cc21.length))) 1 (nI (0 + cc21.length))) (by first | assumption | omega | decide)) rZ0_ok (fun _ _ _ _ => trivial) kV_X5_44 ⟨rfl, hy_X3_endPart⟩ ⟨Nat.le_of_ble_eq_true rfl, Nat.le_of_ble_eq_true rfl⟩ ⟨Nat.le_of_ble_eq_true rfl, Nat.le_of_ble_eq_true rfl⟩ dX5_read_50 1 rfl rfl [1, 2] [0, 3, 4] rfl rfl rfl rfl (by decide) rfl (Nat.le_of_ble_eq_true rfl) ?_
          intro v273 w274 h275
          obtain ⟨rfl, rfl, hf276⟩ := h275
          show X 0 0 [(qc, .inl (cI, 160, .inl cd_28)), (rd, .inr (4, [.ref rta, .int (nI n), .int (nI (p_nx tp n (p_nx tp n aa21))), .int (p_tk tp n (p_nx tp n aa21)), .int (nI (p_pl tp n (p_nx tp n aa21))), .int v_40, .int (nI (p_pl tp n (p_nx tp n aa21))), .ref q])), (rta, .inl (cI, 160, .inl tp)), (q, .inr (2, [.ref qc, .ref qs, .ref qe, .int (nI (0 + cc21.length))])), (qe, .inl (cI, 3, .inl (upd (upd (upd en 0 (nI (0 + cc21.length))) 1 (nI (0 + cc21.length))) 2 (nI (0 + cc21.length)))))] [(2, .int 2), (0, .ref rd), (1, .ref q)] 53 []
          refine x_aload_n C dX5_read_53 1 rfl ?_
          refine x_bipush C dX5_read_54 (v := 59) rfl ?_
          refine x_callV C (As := [.int 59]) (st := []) (wc := [(rd, .inr (4, [.ref rta, .int (nI n), .int (nI (p_nx tp n (p_nx tp n aa21))), .int (p_tk tp n (p_nx tp n aa21)), .int (nI (p_pl tp n (p_nx tp n aa21))), .int v_40, .int (nI (p_pl tp n (p_nx tp n aa21))), .ref q])), (rta, .inl (cI, 160, .inl tp))]) (wr := [(qc, .inl (cI, 160, .inl cd_28)), (q, .inr (2, [.ref qc, .ref qs, .ref qe, .int (nI (0 + cc21.length))])), (qe, .inl (cI, 3, .inl (upd (upd (upd en 0 (nI (0 + cc21.length))) 1 (nI (0 + cc21.length))) 2 (nI (0 + cc21.length)))))]) (c_X5_expect_f l dG cI cM cW cS adK adV fm rd rta q n tp (nI (p_nx tp n (p_nx tp n aa21))) (p_tk tp n (p_nx tp n aa21)) (nI (p_pl tp n (p_nx tp n aa21))) v_40 (p_pl tp n (p_nx tp n aa21)) 59 (by omega)) (rZs_ok adK adV fm) (fun _ _ _ h9 => h9) kV_X5_37 ⟨rfl, hy_X5_expect⟩ ⟨Nat.le_of_ble_eq_true rfl, Nat.le_of_ble_eq_true rfl⟩ ⟨Nat.le_of_ble_eq_true rfl, Nat.le_of_ble_eq_true rfl⟩ dX5_read_56 1 rfl rfl [1, 2] [0, 3, 4] rfl rfl rfl rfl (by decide) rfl (Nat.le_of_ble_eq_true rfl) ?_
          intro v277 w278 h279
          obtain ⟨rfl, rfl, hf280⟩ := h279
          show X 0 0 [(qc, .inl (cI, 160, .inl cd_28)), (q, .inr (2, [.ref qc, .ref qs, .ref qe, .int (nI (0 + cc21.length))])), (qe, .inl (cI, 3, .inl (upd (upd (upd en 0 (nI (0 + cc21.length))) 1 (nI (0 + cc21.length))) 2 (nI (0 + cc21.length))))), (rd, .inr (4, [.ref rta, .int (nI n), .int (nI (p_nx tp n (p_nx tp n aa21))), .int (p_tk tp n (p_nx tp n aa21)), .int (nI (p_pl tp n (p_nx tp n aa21))), .int v_40, .int (nI (p_pl tp n (p_nx tp n aa21))), .ref q])), (rta, .inl (cI, 160, .inl tp))] [(2, .int 2), (0, .ref rd), (1, .ref q)] 59 []
          show X _ _ _ _ 59 _
          refine x_iinc C dX5_read_59 0 rfl (v := 3) (rfl) (by decide) (lv' := [(2, .int 3), (0, .ref rd), (1, .ref q)]) rfl ?_
          refine x_goto C dX5_read_62 (tgt := 28) rfl ?_
          refine x_iload_n C dX5_read_28 0 rfl ?_
          refine x_iconst C dX5_read_29 (v := 3) rfl ?_
          refine x_icmp_ge C dX5_read_30 (tgt := 65) rfl (fun _ => ?_) (fun q9 => by first | exact absurd q9 (by decide) | exact absurd (by decide) q9)
          refine x_aload_n C dX5_read_65 1 rfl ?_
          refine x_iconst C dX5_read_66 (v := 0) rfl ?_
          refine x_callV C (As := [.int 0]) (st := []) (wc := [(rd, .inr (4, [.ref rta, .int (nI n), .int (nI (p_nx tp n (p_nx tp n aa21))), .int (p_tk tp n (p_nx tp n aa21)), .int (nI (p_pl tp n (p_nx tp n aa21))), .int v_40, .int (nI (p_pl tp n (p_nx tp n aa21))), .ref q]))]) (wr := [(qc, .inl (cI, 160, .inl cd_28)), (q, .inr (2, [.ref qc, .ref qs, .ref qe, .int (nI (0 + cc21.length))])), (qe, .inl (cI, 3, .inl (upd (upd (upd en 0 (nI (0 + cc21.length))) 1 (nI (0 + cc21.length))) 2 (nI (0 + cc21.length))))), (rta, .inl (cI, 160, .inl tp))]) (c_X5_has l dG cI cM cW cS rd rta q n tp (nI (p_nx tp n (p_nx tp n aa21))) (p_tk tp n (p_nx tp n aa21)) (nI (p_pl tp n (p_nx tp n aa21))) v_40 (nI (p_pl tp n (p_nx tp n aa21))) 0 ) rZ0_ok (fun _ _ _ _ => trivial) kV_X5_47 ⟨rfl, hy_X5_has⟩ ⟨Nat.le_of_ble_eq_true rfl, Nat.le_of_ble_eq_true rfl⟩ ⟨Nat.le_of_ble_eq_true rfl, Nat.le_of_ble_eq_true rfl⟩ dX5_read_67 3 rfl rfl [3] [0, 1, 2, 4] rfl rfl rfl rfl (by decide) rfl (Nat.le_of_ble_eq_true rfl) ?_
          intro v281 w282 h283
          rcases h283 with h283 | h283
          ·
            obtain ⟨rfl, rfl, hf284⟩ := h283
            show X 0 0 [(qc, .inl (cI, 160, .inl cd_28)), (q, .inr (2, [.ref qc, .ref qs, .ref qe, .int (nI (0 + cc21.length))])), (qe, .inl (cI, 3, .inl (upd (upd (upd en 0 (nI (0 + cc21.length))) 1 (nI (0 + cc21.length))) 2 (nI (0 + cc21.length))))), (rta, .inl (cI, 160, .inl tp)), (rd, .inr (4, [.ref rta, .int (nI n), .int (nI (p_nx tp n (p_nx tp n aa21))), .int (p_tk tp n (p_nx tp n aa21)), .int (nI (p_pl tp n (p_nx tp n aa21))), .int v_40, .int (nI (p_pl tp n (p_nx tp n aa21))), .ref q]))] [(2, .int 3), (0, .ref rd), (1, .ref q)] 70 [.int 1]
            exact absurd hf284.1 (nI_nm1 (by omega))
          ·
            obtain ⟨rfl, rfl, hf285⟩ := h283
            show X 0 0 [(qc, .inl (cI, 160, .inl cd_28)), (q, .inr (2, [.ref qc, .ref qs, .ref qe, .int (nI (0 + cc21.length))])), (qe, .inl (cI, 3, .inl (upd (upd (upd en 0 (nI (0 + cc21.length))) 1 (nI (0 + cc21.length))) 2 (nI (0 + cc21.length))))), (rta, .inl (cI, 160, .inl tp)), (rd, .inr (4, [.ref rta, .int (nI n), .int (nI (p_nx tp n (p_nx tp n aa21))), .int (p_tk tp n (p_nx tp n aa21)), .int (nI (p_pl tp n (p_nx tp n aa21))), .int v_40, .int (nI (p_pl tp n (p_nx tp n aa21))), .ref q]))] [(2, .int 3), (0, .ref rd), (1, .ref q)] 70 [.int 0]
            refine x_if_ne C dX5_read_70 (tgt := 77) rfl (fun q9 => absurd q9 (by decide)) (fun _ => ?_)
            refine x_aload_n C dX5_read_73 1 rfl ?_
            refine x_callV C (As := []) (st := []) (wc := [(rd, .inr (4, [.ref rta, .int (nI n), .int (nI (p_nx tp n (p_nx tp n aa21))), .int (p_tk tp n (p_nx tp n aa21)), .int (nI (p_pl tp n (p_nx tp n aa21))), .int v_40, .int (nI (p_pl tp n (p_nx tp n aa21))), .ref q]))]) (wr := [(qc, .inl (cI, 160, .inl cd_28)), (q, .inr (2, [.ref qc, .ref qs, .ref qe, .int (nI (0 + cc21.length))])), (qe, .inl (cI, 3, .inl (upd (upd (upd en 0 (nI (0 + cc21.length))) 1 (nI (0 + cc21.length))) 2 (nI (0 + cc21.length))))), (rta, .inl (cI, 160, .inl tp))]) (c_X5_faultHere_f l dG cI cM cW cS rd rta q n tp (nI (p_nx tp n (p_nx tp n aa21))) (p_tk tp n (p_nx tp n aa21)) (nI (p_pl tp n (p_nx tp n aa21))) v_40 (p_pl tp n (p_nx tp n aa21)) (by omega)) rZ0_ok (fun _ _ _ _ => trivial) kV_X5_51 ⟨rfl, hy_X5_faultHere⟩ ⟨Nat.le_of_ble_eq_true rfl, Nat.le_of_ble_eq_true rfl⟩ ⟨Nat.le_of_ble_eq_true rfl, Nat.le_of_ble_eq_true rfl⟩ dX5_read_74 4 rfl rfl [4] [0, 1, 2, 3] rfl rfl rfl rfl (by decide) rfl (Nat.le_of_ble_eq_true rfl) ?_
            intro v286 w287 h288
            obtain ⟨rfl, rfl, hf289⟩ := h288
            show X 0 0 [(qc, .inl (cI, 160, .inl cd_28)), (q, .inr (2, [.ref qc, .ref qs, .ref qe, .int (nI (0 + cc21.length))])), (qe, .inl (cI, 3, .inl (upd (upd (upd en 0 (nI (0 + cc21.length))) 1 (nI (0 + cc21.length))) 2 (nI (0 + cc21.length))))), (rta, .inl (cI, 160, .inl tp)), (rd, .inr (4, [.ref rta, .int (nI n), .int (nI (p_nx tp n (p_nx tp n aa21))), .int (p_tk tp n (p_nx tp n aa21)), .int (nI (p_pl tp n (p_nx tp n aa21))), .int v_40, .int (nI (p_pl tp n (p_nx tp n aa21))), .ref q]))] [(2, .int 3), (0, .ref rd), (1, .ref q)] 77 []
            refine x_aload_n C dX5_read_77 1 rfl ?_
            refine x_iconst C dX5_read_78 (v := 0) rfl ?_
            refine x_put C inlX5 rfl tyX5 tyX5_ok nmX5 1 (by decide) gw_6_18 rfl dX5_read_79 4 rfl (rfl) rfl (Nat.le_of_ble_eq_true rfl) ?_
            show X _ _ [(qc, .inl (cI, 160, .inl cd_28)), (q, .inr (2, [.ref qc, .ref qs, .ref qe, .int (nI (0 + cc21.length))])), (qe, .inl (cI, 3, .inl (upd (upd (upd en 0 (nI (0 + cc21.length))) 1 (nI (0 + cc21.length))) 2 (nI (0 + cc21.length))))), (rta, .inl (cI, 160, .inl tp)), (rd, .inr (4, [.ref rta, .int 0, .int (nI (p_nx tp n (p_nx tp n aa21))), .int (p_tk tp n (p_nx tp n aa21)), .int (nI (p_pl tp n (p_nx tp n aa21))), .int v_40, .int (nI (p_pl tp n (p_nx tp n aa21))), .ref q]))] _ _ _
            refine x_aload_n C dX5_read_82 1 rfl ?_
            refine x_get C inlX5 rfl 6 (by decide) gw_7_1 dX5_read_83 4 rfl rfl ?_
            refine x_sub C [4, 3, 1, 0, 2] (ws' := [(rd, .inr (4, [.ref rta, .int 0, .int (nI (p_nx tp n (p_nx tp n aa21))), .int (p_tk tp n (p_nx tp n aa21)), .int (nI (p_pl tp n (p_nx tp n aa21))), .int v_40, .int (nI (p_pl tp n (p_nx tp n aa21))), .ref q])), (rta, .inl (cI, 160, .inl tp)), (q, .inr (2, [.ref qc, .ref qs, .ref qe, .int (nI (0 + cc21.length))])), (qc, .inl (cI, 160, .inl cd_28)), (qe, .inl (cI, 3, .inl (upd (upd (upd en 0 (nI (0 + cc21.length))) 1 (nI (0 + cc21.length))) 2 (nI (0 + cc21.length)))))]) rfl rfl ?_
            refine E dX5_read_86 (rfl) ?_
            exact Or.inr (⟨(nI (p_nx tp n (p_nx tp n aa21))), (p_tk tp n (p_nx tp n aa21)), (nI (p_pl tp n (p_nx tp n aa21))), v_40, (nI (p_pl tp n (p_nx tp n aa21))), (nI (0 + cc21.length)), cd_28, (upd (upd (upd en 0 (nI (0 + cc21.length))) 1 (nI (0 + cc21.length))) 2 (nI (0 + cc21.length))), (p_pl tp n (p_nx tp n aa21)), rfl, rfl, ⟨(p_txt_1 hp44 hp252).1, by rw [(p_txt_1 hp44 hp252).2], hfb9⟩⟩)
      ·
        obtain ⟨rfl, rfl, hf290⟩ := h39
        show X 0 0 [(qc, .inl (cI, 160, .inl cd_28)), (q, .inr (2, [.ref qc, .ref qs, .ref qe, .int (nI (0 + cc21.length))])), (qe, .inl (cI, 3, .inl (upd en 0 (nI (0 + cc21.length))))), (rd, .inr (4, [.ref rta, .int (nI n), .int (nI (p_nx tp n aa21)), .int (p_tk tp n aa21), .int (nI (p_pl tp n aa21)), .int v_27, .int (nI (p_pl tp n aa21)), .ref q])), (rta, .inl (cI, 160, .inl tp))] [(2, .int 0), (0, .ref rd), (1, .ref q)] 59 []
        have hp291 := p_part_s htw hr21 hf290
        have hfb9 : p_pl tp n aa21 ≤ 160 := Nat.le_trans (p_pl_le (by omega)) hn
        refine x_iinc C dX5_read_59 0 rfl (v := 1) (rfl) (by decide) (lv' := [(2, .int 1), (0, .ref rd), (1, .ref q)]) rfl ?_
        refine x_goto C dX5_read_62 (tgt := 28) rfl ?_
        refine x_iload_n C dX5_read_28 0 rfl ?_
        refine x_iconst C dX5_read_29 (v := 3) rfl ?_
        refine x_icmp_ge C dX5_read_30 (tgt := 65) rfl (fun q9 => absurd q9 (by decide)) (fun _ => ?_)
        refine x_aload_n C dX5_read_33 1 rfl ?_
        refine x_iconst C dX5_read_34 (v := 4) rfl ?_
        refine x_iload_n C dX5_read_35 0 rfl ?_
        refine x_iadd C dX5_read_36 ?_
        refine x_topi C 5 (by decide) ?_
        refine x_callV C (As := [.int 5]) (st := []) (wc := [(rd, .inr (4, [.ref rta, .int (nI n), .int (nI (p_nx tp n aa21)), .int (p_tk tp n aa21), .int (nI (p_pl tp n aa21)), .int v_27, .int (nI (p_pl tp n aa21)), .ref q])), (rta, .inl (cI, 160, .inl tp))]) (wr := [(qc, .inl (cI, 160, .inl cd_28)), (q, .inr (2, [.ref qc, .ref qs, .ref qe, .int (nI (0 + cc21.length))])), (qe, .inl (cI, 3, .inl (upd en 0 (nI (0 + cc21.length)))))]) (c_X5_expect_f l dG cI cM cW cS adK adV fm rd rta q n tp (nI (p_nx tp n aa21)) (p_tk tp n aa21) (nI (p_pl tp n aa21)) v_27 (p_pl tp n aa21) 5 (by omega)) (rZs_ok adK adV fm) (fun _ _ _ h9 => h9) kV_X5_37 ⟨rfl, hy_X5_expect⟩ ⟨Nat.le_of_ble_eq_true rfl, Nat.le_of_ble_eq_true rfl⟩ ⟨Nat.le_of_ble_eq_true rfl, Nat.le_of_ble_eq_true rfl⟩ dX5_read_37 3 rfl rfl [3, 4] [0, 1, 2] rfl rfl rfl rfl (by decide) rfl (Nat.le_of_ble_eq_true rfl) ?_
        intro v292 w293 h294
        obtain ⟨rfl, rfl, hf295⟩ := h294
        show X 0 0 [(qc, .inl (cI, 160, .inl cd_28)), (q, .inr (2, [.ref qc, .ref qs, .ref qe, .int (nI (0 + cc21.length))])), (qe, .inl (cI, 3, .inl (upd en 0 (nI (0 + cc21.length))))), (rd, .inr (4, [.ref rta, .int (nI n), .int (nI (p_nx tp n aa21)), .int (p_tk tp n aa21), .int (nI (p_pl tp n aa21)), .int v_27, .int (nI (p_pl tp n aa21)), .ref q])), (rta, .inl (cI, 160, .inl tp))] [(2, .int 1), (0, .ref rd), (1, .ref q)] 40 []
        show X _ _ _ _ 40 _
        refine x_aload_n C dX5_read_40 1 rfl ?_
        refine x_iconst C dX5_read_41 (v := 0) rfl ?_
        refine x_callV C (As := [.int 0]) (st := []) (wc := [(rd, .inr (4, [.ref rta, .int (nI n), .int (nI (p_nx tp n aa21)), .int (p_tk tp n aa21), .int (nI (p_pl tp n aa21)), .int v_27, .int (nI (p_pl tp n aa21)), .ref q])), (rta, .inl (cI, 160, .inl tp))]) (wr := [(qc, .inl (cI, 160, .inl cd_28)), (q, .inr (2, [.ref qc, .ref qs, .ref qe, .int (nI (0 + cc21.length))])), (qe, .inl (cI, 3, .inl (upd en 0 (nI (0 + cc21.length)))))]) (c_X5_readOr_f l dG cI cM cW cS adK adV fm rd rta q n tp (nI (p_nx tp n aa21)) (p_tk tp n aa21) (nI (p_pl tp n aa21)) v_27 (p_pl tp n aa21) 0 (by omega)) (rZs_ok adK adV fm) (fun _ _ _ h9 => h9) kV_X5_41 ⟨rfl, hy_X5_readOr⟩ ⟨Nat.le_of_ble_eq_true rfl, Nat.le_of_ble_eq_true rfl⟩ ⟨Nat.le_of_ble_eq_true rfl, Nat.le_of_ble_eq_true rfl⟩ dX5_read_42 3 rfl rfl [3, 4] [0, 1, 2] rfl rfl rfl rfl (by decide) rfl (Nat.le_of_ble_eq_true rfl) ?_
        intro v296 w297 h298
        obtain ⟨rfl, rfl, hf299⟩ := h298
        show X 0 0 [(qc, .inl (cI, 160, .inl cd_28)), (q, .inr (2, [.ref qc, .ref qs, .ref qe, .int (nI (0 + cc21.length))])), (qe, .inl (cI, 3, .inl (upd en 0 (nI (0 + cc21.length))))), (rd, .inr (4, [.ref rta, .int (nI n), .int (nI (p_nx tp n aa21)), .int (p_tk tp n aa21), .int (nI (p_pl tp n aa21)), .int v_27, .int (nI (p_pl tp n aa21)), .ref q])), (rta, .inl (cI, 160, .inl tp))] [(2, .int 1), (0, .ref rd), (1, .ref q)] 45 []
        refine x_aload_n C dX5_read_45 1 rfl ?_
        refine x_get C inlX5 rfl 7 (by decide) gw_6_23 dX5_read_46 3 rfl rfl ?_
        refine x_iload_n C dX5_read_49 0 rfl ?_
        refine x_callV C (As := [.int (nI 1)]) (st := []) (wc := [(q, .inr (2, [.ref qc, .ref qs, .ref qe, .int (nI (0 + cc21.length))])), (qe, .inl (cI, 3, .inl (upd en 0 (nI (0 + cc21.length)))))]) (wr := [(qc, .inl (cI, 160, .inl cd_28)), (rd, .inr (4, [.ref rta, .int (nI n), .int (nI (p_nx tp n aa21)), .int (p_tk tp n aa21), .int (nI (p_pl tp n aa21)), .int v_27, .int (nI (p_pl tp n aa21)), .ref q])), (rta, .inl (cI, 160, .inl tp))]) (c_X3_endPart l dG cI cM cW cS q qc qs qe (0 + cc21.length) 1 (upd en 0 (nI (0 + cc21.length))) (by first | assumption | omega | decide)) rZ0_ok (fun _ _ _ _ => trivial) kV_X5_44 ⟨rfl, hy_X3_endPart⟩ ⟨Nat.le_of_ble_eq_true rfl, Nat.le_of_ble_eq_true rfl⟩ ⟨Nat.le_of_ble_eq_true rfl, Nat.le_of_ble_eq_true rfl⟩ dX5_read_50 1 rfl rfl [1, 2] [0, 3, 4] rfl rfl rfl rfl (by decide) rfl (Nat.le_of_ble_eq_true rfl) ?_
        intro v300 w301 h302
        obtain ⟨rfl, rfl, hf303⟩ := h302
        show X 0 0 [(qc, .inl (cI, 160, .inl cd_28)), (rd, .inr (4, [.ref rta, .int (nI n), .int (nI (p_nx tp n aa21)), .int (p_tk tp n aa21), .int (nI (p_pl tp n aa21)), .int v_27, .int (nI (p_pl tp n aa21)), .ref q])), (rta, .inl (cI, 160, .inl tp)), (q, .inr (2, [.ref qc, .ref qs, .ref qe, .int (nI (0 + cc21.length))])), (qe, .inl (cI, 3, .inl (upd (upd en 0 (nI (0 + cc21.length))) 1 (nI (0 + cc21.length)))))] [(2, .int 1), (0, .ref rd), (1, .ref q)] 53 []
        refine x_aload_n C dX5_read_53 1 rfl ?_
        refine x_bipush C dX5_read_54 (v := 59) rfl ?_
        refine x_callV C (As := [.int 59]) (st := []) (wc := [(rd, .inr (4, [.ref rta, .int (nI n), .int (nI (p_nx tp n aa21)), .int (p_tk tp n aa21), .int (nI (p_pl tp n aa21)), .int v_27, .int (nI (p_pl tp n aa21)), .ref q])), (rta, .inl (cI, 160, .inl tp))]) (wr := [(qc, .inl (cI, 160, .inl cd_28)), (q, .inr (2, [.ref qc, .ref qs, .ref qe, .int (nI (0 + cc21.length))])), (qe, .inl (cI, 3, .inl (upd (upd en 0 (nI (0 + cc21.length))) 1 (nI (0 + cc21.length)))))]) (c_X5_expect_f l dG cI cM cW cS adK adV fm rd rta q n tp (nI (p_nx tp n aa21)) (p_tk tp n aa21) (nI (p_pl tp n aa21)) v_27 (p_pl tp n aa21) 59 (by omega)) (rZs_ok adK adV fm) (fun _ _ _ h9 => h9) kV_X5_37 ⟨rfl, hy_X5_expect⟩ ⟨Nat.le_of_ble_eq_true rfl, Nat.le_of_ble_eq_true rfl⟩ ⟨Nat.le_of_ble_eq_true rfl, Nat.le_of_ble_eq_true rfl⟩ dX5_read_56 1 rfl rfl [1, 2] [0, 3, 4] rfl rfl rfl rfl (by decide) rfl (Nat.le_of_ble_eq_true rfl) ?_
        intro v304 w305 h306
        obtain ⟨rfl, rfl, hf307⟩ := h306
        show X 0 0 [(qc, .inl (cI, 160, .inl cd_28)), (q, .inr (2, [.ref qc, .ref qs, .ref qe, .int (nI (0 + cc21.length))])), (qe, .inl (cI, 3, .inl (upd (upd en 0 (nI (0 + cc21.length))) 1 (nI (0 + cc21.length))))), (rd, .inr (4, [.ref rta, .int (nI n), .int (nI (p_nx tp n aa21)), .int (p_tk tp n aa21), .int (nI (p_pl tp n aa21)), .int v_27, .int (nI (p_pl tp n aa21)), .ref q])), (rta, .inl (cI, 160, .inl tp))] [(2, .int 1), (0, .ref rd), (1, .ref q)] 59 []
        show X _ _ _ _ 59 _
        refine x_iinc C dX5_read_59 0 rfl (v := 2) (rfl) (by decide) (lv' := [(2, .int 2), (0, .ref rd), (1, .ref q)]) rfl ?_
        refine x_goto C dX5_read_62 (tgt := 28) rfl ?_
        refine x_iload_n C dX5_read_28 0 rfl ?_
        refine x_iconst C dX5_read_29 (v := 3) rfl ?_
        refine x_icmp_ge C dX5_read_30 (tgt := 65) rfl (fun q9 => absurd q9 (by decide)) (fun _ => ?_)
        refine x_aload_n C dX5_read_33 1 rfl ?_
        refine x_iconst C dX5_read_34 (v := 4) rfl ?_
        refine x_iload_n C dX5_read_35 0 rfl ?_
        refine x_iadd C dX5_read_36 ?_
        refine x_topi C 6 (by decide) ?_
        refine x_callV C (As := [.int 6]) (st := []) (wc := [(rd, .inr (4, [.ref rta, .int (nI n), .int (nI (p_nx tp n aa21)), .int (p_tk tp n aa21), .int (nI (p_pl tp n aa21)), .int v_27, .int (nI (p_pl tp n aa21)), .ref q])), (rta, .inl (cI, 160, .inl tp))]) (wr := [(qc, .inl (cI, 160, .inl cd_28)), (q, .inr (2, [.ref qc, .ref qs, .ref qe, .int (nI (0 + cc21.length))])), (qe, .inl (cI, 3, .inl (upd (upd en 0 (nI (0 + cc21.length))) 1 (nI (0 + cc21.length)))))]) (c_X5_expect_f l dG cI cM cW cS adK adV fm rd rta q n tp (nI (p_nx tp n aa21)) (p_tk tp n aa21) (nI (p_pl tp n aa21)) v_27 (p_pl tp n aa21) 6 (by omega)) (rZs_ok adK adV fm) (fun _ _ _ h9 => h9) kV_X5_37 ⟨rfl, hy_X5_expect⟩ ⟨Nat.le_of_ble_eq_true rfl, Nat.le_of_ble_eq_true rfl⟩ ⟨Nat.le_of_ble_eq_true rfl, Nat.le_of_ble_eq_true rfl⟩ dX5_read_37 3 rfl rfl [3, 4] [0, 1, 2] rfl rfl rfl rfl (by decide) rfl (Nat.le_of_ble_eq_true rfl) ?_
        intro v308 w309 h310
        obtain ⟨rfl, rfl, hf311⟩ := h310
        show X 0 0 [(qc, .inl (cI, 160, .inl cd_28)), (q, .inr (2, [.ref qc, .ref qs, .ref qe, .int (nI (0 + cc21.length))])), (qe, .inl (cI, 3, .inl (upd (upd en 0 (nI (0 + cc21.length))) 1 (nI (0 + cc21.length))))), (rd, .inr (4, [.ref rta, .int (nI n), .int (nI (p_nx tp n aa21)), .int (p_tk tp n aa21), .int (nI (p_pl tp n aa21)), .int v_27, .int (nI (p_pl tp n aa21)), .ref q])), (rta, .inl (cI, 160, .inl tp))] [(2, .int 2), (0, .ref rd), (1, .ref q)] 40 []
        show X _ _ _ _ 40 _
        refine x_aload_n C dX5_read_40 1 rfl ?_
        refine x_iconst C dX5_read_41 (v := 0) rfl ?_
        refine x_callV C (As := [.int 0]) (st := []) (wc := [(rd, .inr (4, [.ref rta, .int (nI n), .int (nI (p_nx tp n aa21)), .int (p_tk tp n aa21), .int (nI (p_pl tp n aa21)), .int v_27, .int (nI (p_pl tp n aa21)), .ref q])), (rta, .inl (cI, 160, .inl tp))]) (wr := [(qc, .inl (cI, 160, .inl cd_28)), (q, .inr (2, [.ref qc, .ref qs, .ref qe, .int (nI (0 + cc21.length))])), (qe, .inl (cI, 3, .inl (upd (upd en 0 (nI (0 + cc21.length))) 1 (nI (0 + cc21.length)))))]) (c_X5_readOr_f l dG cI cM cW cS adK adV fm rd rta q n tp (nI (p_nx tp n aa21)) (p_tk tp n aa21) (nI (p_pl tp n aa21)) v_27 (p_pl tp n aa21) 0 (by omega)) (rZs_ok adK adV fm) (fun _ _ _ h9 => h9) kV_X5_41 ⟨rfl, hy_X5_readOr⟩ ⟨Nat.le_of_ble_eq_true rfl, Nat.le_of_ble_eq_true rfl⟩ ⟨Nat.le_of_ble_eq_true rfl, Nat.le_of_ble_eq_true rfl⟩ dX5_read_42 3 rfl rfl [3, 4] [0, 1, 2] rfl rfl rfl rfl (by decide) rfl (Nat.le_of_ble_eq_true rfl) ?_
        intro v312 w313 h314
        obtain ⟨rfl, rfl, hf315⟩ := h314
        show X 0 0 [(qc, .inl (cI, 160, .inl cd_28)), (q, .inr (2, [.ref qc, .ref qs, .ref qe, .int (nI (0 + cc21.length))])), (qe, .inl (cI, 3, .inl (upd (upd en 0 (nI (0 + cc21.length))) 1 (nI (0 + cc21.length))))), (rd, .inr (4, [.ref rta, .int (nI n), .int (nI (p_nx tp n aa21)), .int (p_tk tp n aa21), .int (nI (p_pl tp n aa21)), .int v_27, .int (nI (p_pl tp n aa21)), .ref q])), (rta, .inl (cI, 160, .inl tp))] [(2, .int 2), (0, .ref rd), (1, .ref q)] 45 []
        refine x_aload_n C dX5_read_45 1 rfl ?_
        refine x_get C inlX5 rfl 7 (by decide) gw_6_23 dX5_read_46 3 rfl rfl ?_
        refine x_iload_n C dX5_read_49 0 rfl ?_
        refine x_callV C (As := [.int (nI 2)]) (st := []) (wc := [(q, .inr (2, [.ref qc, .ref qs, .ref qe, .int (nI (0 + cc21.length))])), (qe, .inl (cI, 3, .inl (upd (upd en 0 (nI (0 + cc21.length))) 1 (nI (0 + cc21.length)))))]) (wr := [(qc, .inl (cI, 160, .inl cd_28)), (rd, .inr (4, [.ref rta, .int (nI n), .int (nI (p_nx tp n aa21)), .int (p_tk tp n aa21), .int (nI (p_pl tp n aa21)), .int v_27, .int (nI (p_pl tp n aa21)), .ref q])), (rta, .inl (cI, 160, .inl tp))]) (c_X3_endPart l dG cI cM cW cS q qc qs qe (0 + cc21.length) 2 (upd (upd en 0 (nI (0 + cc21.length))) 1 (nI (0 + cc21.length))) (by first | assumption | omega | decide)) rZ0_ok (fun _ _ _ _ => trivial) kV_X5_44 ⟨rfl, hy_X3_endPart⟩ ⟨Nat.le_of_ble_eq_true rfl, Nat.le_of_ble_eq_true rfl⟩ ⟨Nat.le_of_ble_eq_true rfl, Nat.le_of_ble_eq_true rfl⟩ dX5_read_50 1 rfl rfl [1, 2] [0, 3, 4] rfl rfl rfl rfl (by decide) rfl (Nat.le_of_ble_eq_true rfl) ?_
        intro v316 w317 h318
        obtain ⟨rfl, rfl, hf319⟩ := h318
        show X 0 0 [(qc, .inl (cI, 160, .inl cd_28)), (rd, .inr (4, [.ref rta, .int (nI n), .int (nI (p_nx tp n aa21)), .int (p_tk tp n aa21), .int (nI (p_pl tp n aa21)), .int v_27, .int (nI (p_pl tp n aa21)), .ref q])), (rta, .inl (cI, 160, .inl tp)), (q, .inr (2, [.ref qc, .ref qs, .ref qe, .int (nI (0 + cc21.length))])), (qe, .inl (cI, 3, .inl (upd (upd (upd en 0 (nI (0 + cc21.length))) 1 (nI (0 + cc21.length))) 2 (nI (0 + cc21.length)))))] [(2, .int 2), (0, .ref rd), (1, .ref q)] 53 []
        refine x_aload_n C dX5_read_53 1 rfl ?_
        refine x_bipush C dX5_read_54 (v := 59) rfl ?_
        refine x_callV C (As := [.int 59]) (st := []) (wc := [(rd, .inr (4, [.ref rta, .int (nI n), .int (nI (p_nx tp n aa21)), .int (p_tk tp n aa21), .int (nI (p_pl tp n aa21)), .int v_27, .int (nI (p_pl tp n aa21)), .ref q])), (rta, .inl (cI, 160, .inl tp))]) (wr := [(qc, .inl (cI, 160, .inl cd_28)), (q, .inr (2, [.ref qc, .ref qs, .ref qe, .int (nI (0 + cc21.length))])), (qe, .inl (cI, 3, .inl (upd (upd (upd en 0 (nI (0 + cc21.length))) 1 (nI (0 + cc21.length))) 2 (nI (0 + cc21.length)))))]) (c_X5_expect_f l dG cI cM cW cS adK adV fm rd rta q n tp (nI (p_nx tp n aa21)) (p_tk tp n aa21) (nI (p_pl tp n aa21)) v_27 (p_pl tp n aa21) 59 (by omega)) (rZs_ok adK adV fm) (fun _ _ _ h9 => h9) kV_X5_37 ⟨rfl, hy_X5_expect⟩ ⟨Nat.le_of_ble_eq_true rfl, Nat.le_of_ble_eq_true rfl⟩ ⟨Nat.le_of_ble_eq_true rfl, Nat.le_of_ble_eq_true rfl⟩ dX5_read_56 1 rfl rfl [1, 2] [0, 3, 4] rfl rfl rfl rfl (by decide) rfl (Nat.le_of_ble_eq_true rfl) ?_
        intro v320 w321 h322
        obtain ⟨rfl, rfl, hf323⟩ := h322
        show X 0 0 [(qc, .inl (cI, 160, .inl cd_28)), (q, .inr (2, [.ref qc, .ref qs, .ref qe, .int (nI (0 + cc21.length))])), (qe, .inl (cI, 3, .inl (upd (upd (upd en 0 (nI (0 + cc21.length))) 1 (nI (0 + cc21.length))) 2 (nI (0 + cc21.length))))), (rd, .inr (4, [.ref rta, .int (nI n), .int (nI (p_nx tp n aa21)), .int (p_tk tp n aa21), .int (nI (p_pl tp n aa21)), .int v_27, .int (nI (p_pl tp n aa21)), .ref q])), (rta, .inl (cI, 160, .inl tp))] [(2, .int 2), (0, .ref rd), (1, .ref q)] 59 []
        show X _ _ _ _ 59 _
        refine x_iinc C dX5_read_59 0 rfl (v := 3) (rfl) (by decide) (lv' := [(2, .int 3), (0, .ref rd), (1, .ref q)]) rfl ?_
        refine x_goto C dX5_read_62 (tgt := 28) rfl ?_
        refine x_iload_n C dX5_read_28 0 rfl ?_
        refine x_iconst C dX5_read_29 (v := 3) rfl ?_
        refine x_icmp_ge C dX5_read_30 (tgt := 65) rfl (fun _ => ?_) (fun q9 => by first | exact absurd q9 (by decide) | exact absurd (by decide) q9)
        refine x_aload_n C dX5_read_65 1 rfl ?_
        refine x_iconst C dX5_read_66 (v := 0) rfl ?_
        refine x_callV C (As := [.int 0]) (st := []) (wc := [(rd, .inr (4, [.ref rta, .int (nI n), .int (nI (p_nx tp n aa21)), .int (p_tk tp n aa21), .int (nI (p_pl tp n aa21)), .int v_27, .int (nI (p_pl tp n aa21)), .ref q]))]) (wr := [(qc, .inl (cI, 160, .inl cd_28)), (q, .inr (2, [.ref qc, .ref qs, .ref qe, .int (nI (0 + cc21.length))])), (qe, .inl (cI, 3, .inl (upd (upd (upd en 0 (nI (0 + cc21.length))) 1 (nI (0 + cc21.length))) 2 (nI (0 + cc21.length))))), (rta, .inl (cI, 160, .inl tp))]) (c_X5_has l dG cI cM cW cS rd rta q n tp (nI (p_nx tp n aa21)) (p_tk tp n aa21) (nI (p_pl tp n aa21)) v_27 (nI (p_pl tp n aa21)) 0 ) rZ0_ok (fun _ _ _ _ => trivial) kV_X5_47 ⟨rfl, hy_X5_has⟩ ⟨Nat.le_of_ble_eq_true rfl, Nat.le_of_ble_eq_true rfl⟩ ⟨Nat.le_of_ble_eq_true rfl, Nat.le_of_ble_eq_true rfl⟩ dX5_read_67 3 rfl rfl [3] [0, 1, 2, 4] rfl rfl rfl rfl (by decide) rfl (Nat.le_of_ble_eq_true rfl) ?_
        intro v324 w325 h326
        rcases h326 with h326 | h326
        ·
          obtain ⟨rfl, rfl, hf327⟩ := h326
          show X 0 0 [(qc, .inl (cI, 160, .inl cd_28)), (q, .inr (2, [.ref qc, .ref qs, .ref qe, .int (nI (0 + cc21.length))])), (qe, .inl (cI, 3, .inl (upd (upd (upd en 0 (nI (0 + cc21.length))) 1 (nI (0 + cc21.length))) 2 (nI (0 + cc21.length))))), (rta, .inl (cI, 160, .inl tp)), (rd, .inr (4, [.ref rta, .int (nI n), .int (nI (p_nx tp n aa21)), .int (p_tk tp n aa21), .int (nI (p_pl tp n aa21)), .int v_27, .int (nI (p_pl tp n aa21)), .ref q]))] [(2, .int 3), (0, .ref rd), (1, .ref q)] 70 [.int 1]
          exact absurd hf327.1 (nI_nm1 (by omega))
        ·
          obtain ⟨rfl, rfl, hf328⟩ := h326
          show X 0 0 [(qc, .inl (cI, 160, .inl cd_28)), (q, .inr (2, [.ref qc, .ref qs, .ref qe, .int (nI (0 + cc21.length))])), (qe, .inl (cI, 3, .inl (upd (upd (upd en 0 (nI (0 + cc21.length))) 1 (nI (0 + cc21.length))) 2 (nI (0 + cc21.length))))), (rta, .inl (cI, 160, .inl tp)), (rd, .inr (4, [.ref rta, .int (nI n), .int (nI (p_nx tp n aa21)), .int (p_tk tp n aa21), .int (nI (p_pl tp n aa21)), .int v_27, .int (nI (p_pl tp n aa21)), .ref q]))] [(2, .int 3), (0, .ref rd), (1, .ref q)] 70 [.int 0]
          refine x_if_ne C dX5_read_70 (tgt := 77) rfl (fun q9 => absurd q9 (by decide)) (fun _ => ?_)
          refine x_aload_n C dX5_read_73 1 rfl ?_
          refine x_callV C (As := []) (st := []) (wc := [(rd, .inr (4, [.ref rta, .int (nI n), .int (nI (p_nx tp n aa21)), .int (p_tk tp n aa21), .int (nI (p_pl tp n aa21)), .int v_27, .int (nI (p_pl tp n aa21)), .ref q]))]) (wr := [(qc, .inl (cI, 160, .inl cd_28)), (q, .inr (2, [.ref qc, .ref qs, .ref qe, .int (nI (0 + cc21.length))])), (qe, .inl (cI, 3, .inl (upd (upd (upd en 0 (nI (0 + cc21.length))) 1 (nI (0 + cc21.length))) 2 (nI (0 + cc21.length))))), (rta, .inl (cI, 160, .inl tp))]) (c_X5_faultHere_f l dG cI cM cW cS rd rta q n tp (nI (p_nx tp n aa21)) (p_tk tp n aa21) (nI (p_pl tp n aa21)) v_27 (p_pl tp n aa21) (by omega)) rZ0_ok (fun _ _ _ _ => trivial) kV_X5_51 ⟨rfl, hy_X5_faultHere⟩ ⟨Nat.le_of_ble_eq_true rfl, Nat.le_of_ble_eq_true rfl⟩ ⟨Nat.le_of_ble_eq_true rfl, Nat.le_of_ble_eq_true rfl⟩ dX5_read_74 4 rfl rfl [4] [0, 1, 2, 3] rfl rfl rfl rfl (by decide) rfl (Nat.le_of_ble_eq_true rfl) ?_
          intro v329 w330 h331
          obtain ⟨rfl, rfl, hf332⟩ := h331
          show X 0 0 [(qc, .inl (cI, 160, .inl cd_28)), (q, .inr (2, [.ref qc, .ref qs, .ref qe, .int (nI (0 + cc21.length))])), (qe, .inl (cI, 3, .inl (upd (upd (upd en 0 (nI (0 + cc21.length))) 1 (nI (0 + cc21.length))) 2 (nI (0 + cc21.length))))), (rta, .inl (cI, 160, .inl tp)), (rd, .inr (4, [.ref rta, .int (nI n), .int (nI (p_nx tp n aa21)), .int (p_tk tp n aa21), .int (nI (p_pl tp n aa21)), .int v_27, .int (nI (p_pl tp n aa21)), .ref q]))] [(2, .int 3), (0, .ref rd), (1, .ref q)] 77 []
          refine x_aload_n C dX5_read_77 1 rfl ?_
          refine x_iconst C dX5_read_78 (v := 0) rfl ?_
          refine x_put C inlX5 rfl tyX5 tyX5_ok nmX5 1 (by decide) gw_6_18 rfl dX5_read_79 4 rfl (rfl) rfl (Nat.le_of_ble_eq_true rfl) ?_
          show X _ _ [(qc, .inl (cI, 160, .inl cd_28)), (q, .inr (2, [.ref qc, .ref qs, .ref qe, .int (nI (0 + cc21.length))])), (qe, .inl (cI, 3, .inl (upd (upd (upd en 0 (nI (0 + cc21.length))) 1 (nI (0 + cc21.length))) 2 (nI (0 + cc21.length))))), (rta, .inl (cI, 160, .inl tp)), (rd, .inr (4, [.ref rta, .int 0, .int (nI (p_nx tp n aa21)), .int (p_tk tp n aa21), .int (nI (p_pl tp n aa21)), .int v_27, .int (nI (p_pl tp n aa21)), .ref q]))] _ _ _
          refine x_aload_n C dX5_read_82 1 rfl ?_
          refine x_get C inlX5 rfl 6 (by decide) gw_7_1 dX5_read_83 4 rfl rfl ?_
          refine x_sub C [4, 3, 1, 0, 2] (ws' := [(rd, .inr (4, [.ref rta, .int 0, .int (nI (p_nx tp n aa21)), .int (p_tk tp n aa21), .int (nI (p_pl tp n aa21)), .int v_27, .int (nI (p_pl tp n aa21)), .ref q])), (rta, .inl (cI, 160, .inl tp)), (q, .inr (2, [.ref qc, .ref qs, .ref qe, .int (nI (0 + cc21.length))])), (qc, .inl (cI, 160, .inl cd_28)), (qe, .inl (cI, 3, .inl (upd (upd (upd en 0 (nI (0 + cc21.length))) 1 (nI (0 + cc21.length))) 2 (nI (0 + cc21.length)))))]) rfl rfl ?_
          refine E dX5_read_86 (rfl) ?_
          exact Or.inr (⟨(nI (p_nx tp n aa21)), (p_tk tp n aa21), (nI (p_pl tp n aa21)), v_27, (nI (p_pl tp n aa21)), (nI (0 + cc21.length)), cd_28, (upd (upd (upd en 0 (nI (0 + cc21.length))) 1 (nI (0 + cc21.length))) 2 (nI (0 + cc21.length))), (p_pl tp n aa21), rfl, rfl, ⟨(p_txt_0 hp291).1, by rw [(p_txt_0 hp291).2], hfb9⟩⟩)
    ·
      obtain ⟨rat_333, rtk_334, rpl_335, rva_336, _, z_338, cd_339, rfl, rfl, ⟨rfl, hf341, hf342, hf343⟩⟩ := h24
      show X 0 0 [(qe, .inl (cI, 3, .inl en)), (rd, .inr (4, [.ref rta, .int (nI n), .int rat_333, .int rtk_334, .int rpl_335, .int rva_336, .int (nI (p_pl tp n aa21)), .ref q])), (rta, .inl (cI, 160, .inl tp)), (q, .inr (2, [.ref qc, .ref qs, .ref qe, .int (nI z_338)])), (qc, .inl (cI, 160, .inl cd_339))] [(2, .int 0), (0, .ref rd), (1, .ref q)] 45 []
      subst hf341
      have hp344 := p_part_g htw hr21
      refine x_aload_n C dX5_read_45 1 rfl ?_
      refine x_get C inlX5 rfl 7 (by decide) gw_6_23 dX5_read_46 1 rfl rfl ?_
      refine x_iload_n C dX5_read_49 0 rfl ?_
      refine x_callV C (As := [.int (nI 0)]) (st := []) (wc := [(q, .inr (2, [.ref qc, .ref qs, .ref qe, .int (nI z_338)])), (qe, .inl (cI, 3, .inl en))]) (wr := [(rd, .inr (4, [.ref rta, .int (nI n), .int rat_333, .int rtk_334, .int rpl_335, .int rva_336, .int (nI (p_pl tp n aa21)), .ref q])), (rta, .inl (cI, 160, .inl tp)), (qc, .inl (cI, 160, .inl cd_339))]) (c_X3_endPart l dG cI cM cW cS q qc qs qe z_338 0 en (by first | assumption | omega | decide)) rZ0_ok (fun _ _ _ _ => trivial) kV_X5_44 ⟨rfl, hy_X3_endPart⟩ ⟨Nat.le_of_ble_eq_true rfl, Nat.le_of_ble_eq_true rfl⟩ ⟨Nat.le_of_ble_eq_true rfl, Nat.le_of_ble_eq_true rfl⟩ dX5_read_50 3 rfl rfl [3, 0] [1, 2, 4] rfl rfl rfl rfl (by decide) rfl (Nat.le_of_ble_eq_true rfl) ?_
      intro v345 w346 h347
      obtain ⟨rfl, rfl, hf348⟩ := h347
      show X 0 0 [(rd, .inr (4, [.ref rta, .int (nI n), .int rat_333, .int rtk_334, .int rpl_335, .int rva_336, .int (nI (p_pl tp n aa21)), .ref q])), (rta, .inl (cI, 160, .inl tp)), (qc, .inl (cI, 160, .inl cd_339)), (q, .inr (2, [.ref qc, .ref qs, .ref qe, .int (nI z_338)])), (qe, .inl (cI, 3, .inl (upd en 0 (nI z_338))))] [(2, .int 0), (0, .ref rd), (1, .ref q)] 53 []
      refine x_aload_n C dX5_read_53 1 rfl ?_
      refine x_bipush C dX5_read_54 (v := 59) rfl ?_
      refine x_callV C (As := [.int 59]) (st := []) (wc := [(rd, .inr (4, [.ref rta, .int (nI n), .int rat_333, .int rtk_334, .int rpl_335, .int rva_336, .int (nI (p_pl tp n aa21)), .ref q])), (rta, .inl (cI, 160, .inl tp))]) (wr := [(qc, .inl (cI, 160, .inl cd_339)), (q, .inr (2, [.ref qc, .ref qs, .ref qe, .int (nI z_338)])), (qe, .inl (cI, 3, .inl (upd en 0 (nI z_338))))]) (c_X5_expect_f l dG cI cM cW cS adK adV fm rd rta q n tp rat_333 rtk_334 rpl_335 rva_336 (p_pl tp n aa21) 59 (by omega)) (rZs_ok adK adV fm) (fun _ _ _ h9 => h9) kV_X5_37 ⟨rfl, hy_X5_expect⟩ ⟨Nat.le_of_ble_eq_true rfl, Nat.le_of_ble_eq_true rfl⟩ ⟨Nat.le_of_ble_eq_true rfl, Nat.le_of_ble_eq_true rfl⟩ dX5_read_56 0 rfl rfl [0, 1] [2, 3, 4] rfl rfl rfl rfl (by decide) rfl (Nat.le_of_ble_eq_true rfl) ?_
      intro v349 w350 h351
      obtain ⟨rfl, rfl, hf352⟩ := h351
      show X 0 0 [(qc, .inl (cI, 160, .inl cd_339)), (q, .inr (2, [.ref qc, .ref qs, .ref qe, .int (nI z_338)])), (qe, .inl (cI, 3, .inl (upd en 0 (nI z_338)))), (rd, .inr (4, [.ref rta, .int (nI n), .int rat_333, .int rtk_334, .int rpl_335, .int rva_336, .int (nI (p_pl tp n aa21)), .ref q])), (rta, .inl (cI, 160, .inl tp))] [(2, .int 0), (0, .ref rd), (1, .ref q)] 59 []
      refine x_iinc C dX5_read_59 0 rfl (v := 1) (rfl) (by decide) (lv' := [(2, .int 1), (0, .ref rd), (1, .ref q)]) rfl ?_
      refine x_goto C dX5_read_62 (tgt := 28) rfl ?_
      refine x_iload_n C dX5_read_28 0 rfl ?_
      show X _ _ _ _ 29 _
      refine x_iconst C dX5_read_29 (v := 3) rfl ?_
      refine x_icmp_ge C dX5_read_30 (tgt := 65) rfl (fun q9 => absurd q9 (by decide)) (fun _ => ?_)
      refine x_aload_n C dX5_read_33 1 rfl ?_
      refine x_iconst C dX5_read_34 (v := 4) rfl ?_
      refine x_iload_n C dX5_read_35 0 rfl ?_
      refine x_iadd C dX5_read_36 ?_
      refine x_topi C 5 (by decide) ?_
      refine x_callV C (As := [.int 5]) (st := []) (wc := [(rd, .inr (4, [.ref rta, .int (nI n), .int rat_333, .int rtk_334, .int rpl_335, .int rva_336, .int (nI (p_pl tp n aa21)), .ref q])), (rta, .inl (cI, 160, .inl tp))]) (wr := [(qc, .inl (cI, 160, .inl cd_339)), (q, .inr (2, [.ref qc, .ref qs, .ref qe, .int (nI z_338)])), (qe, .inl (cI, 3, .inl (upd en 0 (nI z_338))))]) (c_X5_expect_f l dG cI cM cW cS adK adV fm rd rta q n tp rat_333 rtk_334 rpl_335 rva_336 (p_pl tp n aa21) 5 (by omega)) (rZs_ok adK adV fm) (fun _ _ _ h9 => h9) kV_X5_37 ⟨rfl, hy_X5_expect⟩ ⟨Nat.le_of_ble_eq_true rfl, Nat.le_of_ble_eq_true rfl⟩ ⟨Nat.le_of_ble_eq_true rfl, Nat.le_of_ble_eq_true rfl⟩ dX5_read_37 3 rfl rfl [3, 4] [0, 1, 2] rfl rfl rfl rfl (by decide) rfl (Nat.le_of_ble_eq_true rfl) ?_
      intro v353 w354 h355
      obtain ⟨rfl, rfl, hf356⟩ := h355
      show X 0 0 [(qc, .inl (cI, 160, .inl cd_339)), (q, .inr (2, [.ref qc, .ref qs, .ref qe, .int (nI z_338)])), (qe, .inl (cI, 3, .inl (upd en 0 (nI z_338)))), (rd, .inr (4, [.ref rta, .int (nI n), .int rat_333, .int rtk_334, .int rpl_335, .int rva_336, .int (nI (p_pl tp n aa21)), .ref q])), (rta, .inl (cI, 160, .inl tp))] [(2, .int 1), (0, .ref rd), (1, .ref q)] 40 []
      refine x_aload_n C dX5_read_40 1 rfl ?_
      refine x_iconst C dX5_read_41 (v := 0) rfl ?_
      refine x_callV C (As := [.int 0]) (st := []) (wc := [(rd, .inr (4, [.ref rta, .int (nI n), .int rat_333, .int rtk_334, .int rpl_335, .int rva_336, .int (nI (p_pl tp n aa21)), .ref q])), (rta, .inl (cI, 160, .inl tp))]) (wr := [(qc, .inl (cI, 160, .inl cd_339)), (q, .inr (2, [.ref qc, .ref qs, .ref qe, .int (nI z_338)])), (qe, .inl (cI, 3, .inl (upd en 0 (nI z_338))))]) (c_X5_readOr_f l dG cI cM cW cS adK adV fm rd rta q n tp rat_333 rtk_334 rpl_335 rva_336 (p_pl tp n aa21) 0 (by omega)) (rZs_ok adK adV fm) (fun _ _ _ h9 => h9) kV_X5_41 ⟨rfl, hy_X5_readOr⟩ ⟨Nat.le_of_ble_eq_true rfl, Nat.le_of_ble_eq_true rfl⟩ ⟨Nat.le_of_ble_eq_true rfl, Nat.le_of_ble_eq_true rfl⟩ dX5_read_42 3 rfl rfl [3, 4] [0, 1, 2] rfl rfl rfl rfl (by decide) rfl (Nat.le_of_ble_eq_true rfl) ?_
      intro v357 w358 h359
      obtain ⟨rfl, rfl, hf360⟩ := h359
      show X 0 0 [(qc, .inl (cI, 160, .inl cd_339)), (q, .inr (2, [.ref qc, .ref qs, .ref qe, .int (nI z_338)])), (qe, .inl (cI, 3, .inl (upd en 0 (nI z_338)))), (rd, .inr (4, [.ref rta, .int (nI n), .int rat_333, .int rtk_334, .int rpl_335, .int rva_336, .int (nI (p_pl tp n aa21)), .ref q])), (rta, .inl (cI, 160, .inl tp))] [(2, .int 1), (0, .ref rd), (1, .ref q)] 45 []
      show X _ _ _ _ 45 _
      refine x_aload_n C dX5_read_45 1 rfl ?_
      refine x_get C inlX5 rfl 7 (by decide) gw_6_23 dX5_read_46 3 rfl rfl ?_
      refine x_iload_n C dX5_read_49 0 rfl ?_
      refine x_callV C (As := [.int (nI 1)]) (st := []) (wc := [(q, .inr (2, [.ref qc, .ref qs, .ref qe, .int (nI z_338)])), (qe, .inl (cI, 3, .inl (upd en 0 (nI z_338))))]) (wr := [(qc, .inl (cI, 160, .inl cd_339)), (rd, .inr (4, [.ref rta, .int (nI n), .int rat_333, .int rtk_334, .int rpl_335, .int rva_336, .int (nI (p_pl tp n aa21)), .ref q])), (rta, .inl (cI, 160, .inl tp))]) (c_X3_endPart l dG cI cM cW cS q qc qs qe z_338 1 (upd en 0 (nI z_338)) (by first | assumption | omega | decide)) rZ0_ok (fun _ _ _ _ => trivial) kV_X5_44 ⟨rfl, hy_X3_endPart⟩ ⟨Nat.le_of_ble_eq_true rfl, Nat.le_of_ble_eq_true rfl⟩ ⟨Nat.le_of_ble_eq_true rfl, Nat.le_of_ble_eq_true rfl⟩ dX5_read_50 1 rfl rfl [1, 2] [0, 3, 4] rfl rfl rfl rfl (by decide) rfl (Nat.le_of_ble_eq_true rfl) ?_
      intro v361 w362 h363
      obtain ⟨rfl, rfl, hf364⟩ := h363
      show X 0 0 [(qc, .inl (cI, 160, .inl cd_339)), (rd, .inr (4, [.ref rta, .int (nI n), .int rat_333, .int rtk_334, .int rpl_335, .int rva_336, .int (nI (p_pl tp n aa21)), .ref q])), (rta, .inl (cI, 160, .inl tp)), (q, .inr (2, [.ref qc, .ref qs, .ref qe, .int (nI z_338)])), (qe, .inl (cI, 3, .inl (upd (upd en 0 (nI z_338)) 1 (nI z_338))))] [(2, .int 1), (0, .ref rd), (1, .ref q)] 53 []
      refine x_aload_n C dX5_read_53 1 rfl ?_
      refine x_bipush C dX5_read_54 (v := 59) rfl ?_
      refine x_callV C (As := [.int 59]) (st := []) (wc := [(rd, .inr (4, [.ref rta, .int (nI n), .int rat_333, .int rtk_334, .int rpl_335, .int rva_336, .int (nI (p_pl tp n aa21)), .ref q])), (rta, .inl (cI, 160, .inl tp))]) (wr := [(qc, .inl (cI, 160, .inl cd_339)), (q, .inr (2, [.ref qc, .ref qs, .ref qe, .int (nI z_338)])), (qe, .inl (cI, 3, .inl (upd (upd en 0 (nI z_338)) 1 (nI z_338))))]) (c_X5_expect_f l dG cI cM cW cS adK adV fm rd rta q n tp rat_333 rtk_334 rpl_335 rva_336 (p_pl tp n aa21) 59 (by omega)) (rZs_ok adK adV fm) (fun _ _ _ h9 => h9) kV_X5_37 ⟨rfl, hy_X5_expect⟩ ⟨Nat.le_of_ble_eq_true rfl, Nat.le_of_ble_eq_true rfl⟩ ⟨Nat.le_of_ble_eq_true rfl, Nat.le_of_ble_eq_true rfl⟩ dX5_read_56 1 rfl rfl [1, 2] [0, 3, 4] rfl rfl rfl rfl (by decide) rfl (Nat.le_of_ble_eq_true rfl) ?_
      intro v365 w366 h367
      obtain ⟨rfl, rfl, hf368⟩ := h367
      show X 0 0 [(qc, .inl (cI, 160, .inl cd_339)), (q, .inr (2, [.ref qc, .ref qs, .ref qe, .int (nI z_338)])), (qe, .inl (cI, 3, .inl (upd (upd en 0 (nI z_338)) 1 (nI z_338)))), (rd, .inr (4, [.ref rta, .int (nI n), .int rat_333, .int rtk_334, .int rpl_335, .int rva_336, .int (nI (p_pl tp n aa21)), .ref q])), (rta, .inl (cI, 160, .inl tp))] [(2, .int 1), (0, .ref rd), (1, .ref q)] 59 []
      refine x_iinc C dX5_read_59 0 rfl (v := 2) (rfl) (by decide) (lv' := [(2, .int 2), (0, .ref rd), (1, .ref q)]) rfl ?_
      refine x_goto C dX5_read_62 (tgt := 28) rfl ?_
      refine x_iload_n C dX5_read_28 0 rfl ?_
      show X _ _ _ _ 29 _
      refine x_iconst C dX5_read_29 (v := 3) rfl ?_
      refine x_icmp_ge C dX5_read_30 (tgt := 65) rfl (fun q9 => absurd q9 (by decide)) (fun _ => ?_)
      refine x_aload_n C dX5_read_33 1 rfl ?_
      refine x_iconst C dX5_read_34 (v := 4) rfl ?_
      refine x_iload_n C dX5_read_35 0 rfl ?_
      refine x_iadd C dX5_read_36 ?_
      refine x_topi C 6 (by decide) ?_
      refine x_callV C (As := [.int 6]) (st := []) (wc := [(rd, .inr (4, [.ref rta, .int (nI n), .int rat_333, .int rtk_334, .int rpl_335, .int rva_336, .int (nI (p_pl tp n aa21)), .ref q])), (rta, .inl (cI, 160, .inl tp))]) (wr := [(qc, .inl (cI, 160, .inl cd_339)), (q, .inr (2, [.ref qc, .ref qs, .ref qe, .int (nI z_338)])), (qe, .inl (cI, 3, .inl (upd (upd en 0 (nI z_338)) 1 (nI z_338))))]) (c_X5_expect_f l dG cI cM cW cS adK adV fm rd rta q n tp rat_333 rtk_334 rpl_335 rva_336 (p_pl tp n aa21) 6 (by omega)) (rZs_ok adK adV fm) (fun _ _ _ h9 => h9) kV_X5_37 ⟨rfl, hy_X5_expect⟩ ⟨Nat.le_of_ble_eq_true rfl, Nat.le_of_ble_eq_true rfl⟩ ⟨Nat.le_of_ble_eq_true rfl, Nat.le_of_ble_eq_true rfl⟩ dX5_read_37 3 rfl rfl [3, 4] [0, 1, 2] rfl rfl rfl rfl (by decide) rfl (Nat.le_of_ble_eq_true rfl) ?_
      intro v369 w370 h371
      obtain ⟨rfl, rfl, hf372⟩ := h371
      show X 0 0 [(qc, .inl (cI, 160, .inl cd_339)), (q, .inr (2, [.ref qc, .ref qs, .ref qe, .int (nI z_338)])), (qe, .inl (cI, 3, .inl (upd (upd en 0 (nI z_338)) 1 (nI z_338)))), (rd, .inr (4, [.ref rta, .int (nI n), .int rat_333, .int rtk_334, .int rpl_335, .int rva_336, .int (nI (p_pl tp n aa21)), .ref q])), (rta, .inl (cI, 160, .inl tp))] [(2, .int 2), (0, .ref rd), (1, .ref q)] 40 []
      refine x_aload_n C dX5_read_40 1 rfl ?_
      refine x_iconst C dX5_read_41 (v := 0) rfl ?_
      refine x_callV C (As := [.int 0]) (st := []) (wc := [(rd, .inr (4, [.ref rta, .int (nI n), .int rat_333, .int rtk_334, .int rpl_335, .int rva_336, .int (nI (p_pl tp n aa21)), .ref q])), (rta, .inl (cI, 160, .inl tp))]) (wr := [(qc, .inl (cI, 160, .inl cd_339)), (q, .inr (2, [.ref qc, .ref qs, .ref qe, .int (nI z_338)])), (qe, .inl (cI, 3, .inl (upd (upd en 0 (nI z_338)) 1 (nI z_338))))]) (c_X5_readOr_f l dG cI cM cW cS adK adV fm rd rta q n tp rat_333 rtk_334 rpl_335 rva_336 (p_pl tp n aa21) 0 (by omega)) (rZs_ok adK adV fm) (fun _ _ _ h9 => h9) kV_X5_41 ⟨rfl, hy_X5_readOr⟩ ⟨Nat.le_of_ble_eq_true rfl, Nat.le_of_ble_eq_true rfl⟩ ⟨Nat.le_of_ble_eq_true rfl, Nat.le_of_ble_eq_true rfl⟩ dX5_read_42 3 rfl rfl [3, 4] [0, 1, 2] rfl rfl rfl rfl (by decide) rfl (Nat.le_of_ble_eq_true rfl) ?_
      intro v373 w374 h375
      obtain ⟨rfl, rfl, hf376⟩ := h375
      show X 0 0 [(qc, .inl (cI, 160, .inl cd_339)), (q, .inr (2, [.ref qc, .ref qs, .ref qe, .int (nI z_338)])), (qe, .inl (cI, 3, .inl (upd (upd en 0 (nI z_338)) 1 (nI z_338)))), (rd, .inr (4, [.ref rta, .int (nI n), .int rat_333, .int rtk_334, .int rpl_335, .int rva_336, .int (nI (p_pl tp n aa21)), .ref q])), (rta, .inl (cI, 160, .inl tp))] [(2, .int 2), (0, .ref rd), (1, .ref q)] 45 []
      show X _ _ _ _ 45 _
      refine x_aload_n C dX5_read_45 1 rfl ?_
      refine x_get C inlX5 rfl 7 (by decide) gw_6_23 dX5_read_46 3 rfl rfl ?_
      refine x_iload_n C dX5_read_49 0 rfl ?_
      refine x_callV C (As := [.int (nI 2)]) (st := []) (wc := [(q, .inr (2, [.ref qc, .ref qs, .ref qe, .int (nI z_338)])), (qe, .inl (cI, 3, .inl (upd (upd en 0 (nI z_338)) 1 (nI z_338))))]) (wr := [(qc, .inl (cI, 160, .inl cd_339)), (rd, .inr (4, [.ref rta, .int (nI n), .int rat_333, .int rtk_334, .int rpl_335, .int rva_336, .int (nI (p_pl tp n aa21)), .ref q])), (rta, .inl (cI, 160, .inl tp))]) (c_X3_endPart l dG cI cM cW cS q qc qs qe z_338 2 (upd (upd en 0 (nI z_338)) 1 (nI z_338)) (by first | assumption | omega | decide)) rZ0_ok (fun _ _ _ _ => trivial) kV_X5_44 ⟨rfl, hy_X3_endPart⟩ ⟨Nat.le_of_ble_eq_true rfl, Nat.le_of_ble_eq_true rfl⟩ ⟨Nat.le_of_ble_eq_true rfl, Nat.le_of_ble_eq_true rfl⟩ dX5_read_50 1 rfl rfl [1, 2] [0, 3, 4] rfl rfl rfl rfl (by decide) rfl (Nat.le_of_ble_eq_true rfl) ?_
      intro v377 w378 h379
      obtain ⟨rfl, rfl, hf380⟩ := h379
      show X 0 0 [(qc, .inl (cI, 160, .inl cd_339)), (rd, .inr (4, [.ref rta, .int (nI n), .int rat_333, .int rtk_334, .int rpl_335, .int rva_336, .int (nI (p_pl tp n aa21)), .ref q])), (rta, .inl (cI, 160, .inl tp)), (q, .inr (2, [.ref qc, .ref qs, .ref qe, .int (nI z_338)])), (qe, .inl (cI, 3, .inl (upd (upd (upd en 0 (nI z_338)) 1 (nI z_338)) 2 (nI z_338))))] [(2, .int 2), (0, .ref rd), (1, .ref q)] 53 []
      refine x_aload_n C dX5_read_53 1 rfl ?_
      refine x_bipush C dX5_read_54 (v := 59) rfl ?_
      refine x_callV C (As := [.int 59]) (st := []) (wc := [(rd, .inr (4, [.ref rta, .int (nI n), .int rat_333, .int rtk_334, .int rpl_335, .int rva_336, .int (nI (p_pl tp n aa21)), .ref q])), (rta, .inl (cI, 160, .inl tp))]) (wr := [(qc, .inl (cI, 160, .inl cd_339)), (q, .inr (2, [.ref qc, .ref qs, .ref qe, .int (nI z_338)])), (qe, .inl (cI, 3, .inl (upd (upd (upd en 0 (nI z_338)) 1 (nI z_338)) 2 (nI z_338))))]) (c_X5_expect_f l dG cI cM cW cS adK adV fm rd rta q n tp rat_333 rtk_334 rpl_335 rva_336 (p_pl tp n aa21) 59 (by omega)) (rZs_ok adK adV fm) (fun _ _ _ h9 => h9) kV_X5_37 ⟨rfl, hy_X5_expect⟩ ⟨Nat.le_of_ble_eq_true rfl, Nat.le_of_ble_eq_true rfl⟩ ⟨Nat.le_of_ble_eq_true rfl, Nat.le_of_ble_eq_true rfl⟩ dX5_read_56 1 rfl rfl [1, 2] [0, 3, 4] rfl rfl rfl rfl (by decide) rfl (Nat.le_of_ble_eq_true rfl) ?_
      intro v381 w382 h383
      obtain ⟨rfl, rfl, hf384⟩ := h383
      show X 0 0 [(qc, .inl (cI, 160, .inl cd_339)), (q, .inr (2, [.ref qc, .ref qs, .ref qe, .int (nI z_338)])), (qe, .inl (cI, 3, .inl (upd (upd (upd en 0 (nI z_338)) 1 (nI z_338)) 2 (nI z_338)))), (rd, .inr (4, [.ref rta, .int (nI n), .int rat_333, .int rtk_334, .int rpl_335, .int rva_336, .int (nI (p_pl tp n aa21)), .ref q])), (rta, .inl (cI, 160, .inl tp))] [(2, .int 2), (0, .ref rd), (1, .ref q)] 59 []
      refine x_iinc C dX5_read_59 0 rfl (v := 3) (rfl) (by decide) (lv' := [(2, .int 3), (0, .ref rd), (1, .ref q)]) rfl ?_
      refine x_goto C dX5_read_62 (tgt := 28) rfl ?_
      refine x_iload_n C dX5_read_28 0 rfl ?_
      show X _ _ _ _ 29 _
      refine x_iconst C dX5_read_29 (v := 3) rfl ?_
      refine x_icmp_ge C dX5_read_30 (tgt := 65) rfl (fun _ => ?_) (fun q9 => by first | exact absurd q9 (by decide) | exact absurd (by decide) q9)
      refine x_aload_n C dX5_read_65 1 rfl ?_
      refine x_iconst C dX5_read_66 (v := 0) rfl ?_
      refine x_callV C (As := [.int 0]) (st := []) (wc := [(rd, .inr (4, [.ref rta, .int (nI n), .int rat_333, .int rtk_334, .int rpl_335, .int rva_336, .int (nI (p_pl tp n aa21)), .ref q]))]) (wr := [(qc, .inl (cI, 160, .inl cd_339)), (q, .inr (2, [.ref qc, .ref qs, .ref qe, .int (nI z_338)])), (qe, .inl (cI, 3, .inl (upd (upd (upd en 0 (nI z_338)) 1 (nI z_338)) 2 (nI z_338)))), (rta, .inl (cI, 160, .inl tp))]) (c_X5_has l dG cI cM cW cS rd rta q n tp rat_333 rtk_334 rpl_335 rva_336 (nI (p_pl tp n aa21)) 0 ) rZ0_ok (fun _ _ _ _ => trivial) kV_X5_47 ⟨rfl, hy_X5_has⟩ ⟨Nat.le_of_ble_eq_true rfl, Nat.le_of_ble_eq_true rfl⟩ ⟨Nat.le_of_ble_eq_true rfl, Nat.le_of_ble_eq_true rfl⟩ dX5_read_67 3 rfl rfl [3] [0, 1, 2, 4] rfl rfl rfl rfl (by decide) rfl (Nat.le_of_ble_eq_true rfl) ?_
      intro v385 w386 h387
      rcases h387 with h387 | h387
      ·
        obtain ⟨rfl, rfl, hf388⟩ := h387
        show X 0 0 [(qc, .inl (cI, 160, .inl cd_339)), (q, .inr (2, [.ref qc, .ref qs, .ref qe, .int (nI z_338)])), (qe, .inl (cI, 3, .inl (upd (upd (upd en 0 (nI z_338)) 1 (nI z_338)) 2 (nI z_338)))), (rta, .inl (cI, 160, .inl tp)), (rd, .inr (4, [.ref rta, .int (nI n), .int rat_333, .int rtk_334, .int rpl_335, .int rva_336, .int (nI (p_pl tp n aa21)), .ref q]))] [(2, .int 3), (0, .ref rd), (1, .ref q)] 70 [.int 1]
        exact absurd hf388.1 (nI_nm1 (by omega))
      ·
        obtain ⟨rfl, rfl, hf389⟩ := h387
        show X 0 0 [(qc, .inl (cI, 160, .inl cd_339)), (q, .inr (2, [.ref qc, .ref qs, .ref qe, .int (nI z_338)])), (qe, .inl (cI, 3, .inl (upd (upd (upd en 0 (nI z_338)) 1 (nI z_338)) 2 (nI z_338)))), (rta, .inl (cI, 160, .inl tp)), (rd, .inr (4, [.ref rta, .int (nI n), .int rat_333, .int rtk_334, .int rpl_335, .int rva_336, .int (nI (p_pl tp n aa21)), .ref q]))] [(2, .int 3), (0, .ref rd), (1, .ref q)] 70 [.int 0]
        refine x_if_ne C dX5_read_70 (tgt := 77) rfl (fun q9 => absurd q9 (by decide)) (fun _ => ?_)
        refine x_aload_n C dX5_read_73 1 rfl ?_
        refine x_callV C (As := []) (st := []) (wc := [(rd, .inr (4, [.ref rta, .int (nI n), .int rat_333, .int rtk_334, .int rpl_335, .int rva_336, .int (nI (p_pl tp n aa21)), .ref q]))]) (wr := [(qc, .inl (cI, 160, .inl cd_339)), (q, .inr (2, [.ref qc, .ref qs, .ref qe, .int (nI z_338)])), (qe, .inl (cI, 3, .inl (upd (upd (upd en 0 (nI z_338)) 1 (nI z_338)) 2 (nI z_338)))), (rta, .inl (cI, 160, .inl tp))]) (c_X5_faultHere_f l dG cI cM cW cS rd rta q n tp rat_333 rtk_334 rpl_335 rva_336 (p_pl tp n aa21) (by omega)) rZ0_ok (fun _ _ _ _ => trivial) kV_X5_51 ⟨rfl, hy_X5_faultHere⟩ ⟨Nat.le_of_ble_eq_true rfl, Nat.le_of_ble_eq_true rfl⟩ ⟨Nat.le_of_ble_eq_true rfl, Nat.le_of_ble_eq_true rfl⟩ dX5_read_74 4 rfl rfl [4] [0, 1, 2, 3] rfl rfl rfl rfl (by decide) rfl (Nat.le_of_ble_eq_true rfl) ?_
        intro v390 w391 h392
        obtain ⟨rfl, rfl, hf393⟩ := h392
        show X 0 0 [(qc, .inl (cI, 160, .inl cd_339)), (q, .inr (2, [.ref qc, .ref qs, .ref qe, .int (nI z_338)])), (qe, .inl (cI, 3, .inl (upd (upd (upd en 0 (nI z_338)) 1 (nI z_338)) 2 (nI z_338)))), (rta, .inl (cI, 160, .inl tp)), (rd, .inr (4, [.ref rta, .int (nI n), .int rat_333, .int rtk_334, .int rpl_335, .int rva_336, .int (nI (p_pl tp n aa21)), .ref q]))] [(2, .int 3), (0, .ref rd), (1, .ref q)] 77 []
        refine x_aload_n C dX5_read_77 1 rfl ?_
        refine x_iconst C dX5_read_78 (v := 0) rfl ?_
        refine x_put C inlX5 rfl tyX5 tyX5_ok nmX5 1 (by decide) gw_6_18 rfl dX5_read_79 4 rfl (rfl) rfl (Nat.le_of_ble_eq_true rfl) ?_
        show X _ _ [(qc, .inl (cI, 160, .inl cd_339)), (q, .inr (2, [.ref qc, .ref qs, .ref qe, .int (nI z_338)])), (qe, .inl (cI, 3, .inl (upd (upd (upd en 0 (nI z_338)) 1 (nI z_338)) 2 (nI z_338)))), (rta, .inl (cI, 160, .inl tp)), (rd, .inr (4, [.ref rta, .int 0, .int rat_333, .int rtk_334, .int rpl_335, .int rva_336, .int (nI (p_pl tp n aa21)), .ref q]))] _ _ _
        refine x_aload_n C dX5_read_82 1 rfl ?_
        refine x_get C inlX5 rfl 6 (by decide) gw_7_1 dX5_read_83 4 rfl rfl ?_
        refine x_sub C [4, 3, 1, 0, 2] (ws' := [(rd, .inr (4, [.ref rta, .int 0, .int rat_333, .int rtk_334, .int rpl_335, .int rva_336, .int (nI (p_pl tp n aa21)), .ref q])), (rta, .inl (cI, 160, .inl tp)), (q, .inr (2, [.ref qc, .ref qs, .ref qe, .int (nI z_338)])), (qc, .inl (cI, 160, .inl cd_339)), (qe, .inl (cI, 3, .inl (upd (upd (upd en 0 (nI z_338)) 1 (nI z_338)) 2 (nI z_338))))]) rfl rfl ?_
        refine E dX5_read_86 (rfl) ?_
        exact Or.inr (⟨rat_333, rtk_334, rpl_335, rva_336, (nI (p_pl tp n aa21)), (nI z_338), cd_339, (upd (upd (upd en 0 (nI z_338)) 1 (nI z_338)) 2 (nI z_338)), (p_pl tp n aa21), rfl, rfl, ⟨(p_txt_0 hp344).1, by rw [(p_txt_0 hp344).2], hf343⟩⟩)
  ·
    obtain ⟨rfl, rfl, hf394⟩ := h16
    show X 0 0 [(qc, .inl (cI, 160, .inl cd)), (qe, .inl (cI, 3, .inl en)), (q, .inr (2, [.ref qc, .ref qs, .ref qe, .int (nI 0)])), (rd, .inr (4, [.ref rta, .int (nI n), .int (nI (p_nx tp n 0)), .int (p_tk tp n 0), .int (nI (p_pl tp n 0)), .int v_11, .int (nI (p_pl tp n 0)), .ref q])), (rta, .inl (cI, 160, .inl tp))] [(2, .int 0), (0, .ref rd), (1, .ref q)] 40 []
    have hp395 := p_part_w hf394
    have hfb9 : p_pl tp n 0 ≤ 160 := Nat.le_trans (p_pl_le (by omega)) hn
    refine x_aload_n C dX5_read_40 1 rfl ?_
    refine x_iconst C dX5_read_41 (v := 0) rfl ?_
    refine x_callV C (As := [.int 0]) (st := []) (wc := [(rd, .inr (4, [.ref rta, .int (nI n), .int (nI (p_nx tp n 0)), .int (p_tk tp n 0), .int (nI (p_pl tp n 0)), .int v_11, .int (nI (p_pl tp n 0)), .ref q])), (rta, .inl (cI, 160, .inl tp))]) (wr := [(qc, .inl (cI, 160, .inl cd)), (qe, .inl (cI, 3, .inl en)), (q, .inr (2, [.ref qc, .ref qs, .ref qe, .int (nI 0)]))]) (c_X5_readOr_f l dG cI cM cW cS adK adV fm rd rta q n tp (nI (p_nx tp n 0)) (p_tk tp n 0) (nI (p_pl tp n 0)) v_11 (p_pl tp n 0) 0 (by omega)) (rZs_ok adK adV fm) (fun _ _ _ h9 => h9) kV_X5_41 ⟨rfl, hy_X5_readOr⟩ ⟨Nat.le_of_ble_eq_true rfl, Nat.le_of_ble_eq_true rfl⟩ ⟨Nat.le_of_ble_eq_true rfl, Nat.le_of_ble_eq_true rfl⟩ dX5_read_42 3 rfl rfl [3, 4] [0, 1, 2] rfl rfl rfl rfl (by decide) rfl (Nat.le_of_ble_eq_true rfl) ?_
    intro v396 w397 h398
    obtain ⟨rfl, rfl, hf399⟩ := h398
    show X 0 0 [(qc, .inl (cI, 160, .inl cd)), (qe, .inl (cI, 3, .inl en)), (q, .inr (2, [.ref qc, .ref qs, .ref qe, .int (nI 0)])), (rd, .inr (4, [.ref rta, .int (nI n), .int (nI (p_nx tp n 0)), .int (p_tk tp n 0), .int (nI (p_pl tp n 0)), .int v_11, .int (nI (p_pl tp n 0)), .ref q])), (rta, .inl (cI, 160, .inl tp))] [(2, .int 0), (0, .ref rd), (1, .ref q)] 45 []
    refine x_aload_n C dX5_read_45 1 rfl ?_
    refine x_get C inlX5 rfl 7 (by decide) gw_6_23 dX5_read_46 3 rfl rfl ?_
    refine x_iload_n C dX5_read_49 0 rfl ?_
    refine x_callV C (As := [.int (nI 0)]) (st := []) (wc := [(q, .inr (2, [.ref qc, .ref qs, .ref qe, .int (nI 0)])), (qe, .inl (cI, 3, .inl en))]) (wr := [(qc, .inl (cI, 160, .inl cd)), (rd, .inr (4, [.ref rta, .int (nI n), .int (nI (p_nx tp n 0)), .int (p_tk tp n 0), .int (nI (p_pl tp n 0)), .int v_11, .int (nI (p_pl tp n 0)), .ref q])), (rta, .inl (cI, 160, .inl tp))]) (c_X3_endPart l dG cI cM cW cS q qc qs qe 0 0 en (by first | assumption | omega | decide)) rZ0_ok (fun _ _ _ _ => trivial) kV_X5_44 ⟨rfl, hy_X3_endPart⟩ ⟨Nat.le_of_ble_eq_true rfl, Nat.le_of_ble_eq_true rfl⟩ ⟨Nat.le_of_ble_eq_true rfl, Nat.le_of_ble_eq_true rfl⟩ dX5_read_50 2 rfl rfl [2, 1] [0, 3, 4] rfl rfl rfl rfl (by decide) rfl (Nat.le_of_ble_eq_true rfl) ?_
    intro v400 w401 h402
    obtain ⟨rfl, rfl, hf403⟩ := h402
    show X 0 0 [(qc, .inl (cI, 160, .inl cd)), (rd, .inr (4, [.ref rta, .int (nI n), .int (nI (p_nx tp n 0)), .int (p_tk tp n 0), .int (nI (p_pl tp n 0)), .int v_11, .int (nI (p_pl tp n 0)), .ref q])), (rta, .inl (cI, 160, .inl tp)), (q, .inr (2, [.ref qc, .ref qs, .ref qe, .int (nI 0)])), (qe, .inl (cI, 3, .inl (upd en 0 (nI 0))))] [(2, .int 0), (0, .ref rd), (1, .ref q)] 53 []
    refine x_aload_n C dX5_read_53 1 rfl ?_
    refine x_bipush C dX5_read_54 (v := 59) rfl ?_
    refine x_callV C (As := [.int 59]) (st := []) (wc := [(rd, .inr (4, [.ref rta, .int (nI n), .int (nI (p_nx tp n 0)), .int (p_tk tp n 0), .int (nI (p_pl tp n 0)), .int v_11, .int (nI (p_pl tp n 0)), .ref q])), (rta, .inl (cI, 160, .inl tp))]) (wr := [(qc, .inl (cI, 160, .inl cd)), (q, .inr (2, [.ref qc, .ref qs, .ref qe, .int (nI 0)])), (qe, .inl (cI, 3, .inl (upd en 0 (nI 0))))]) (c_X5_expect_f l dG cI cM cW cS adK adV fm rd rta q n tp (nI (p_nx tp n 0)) (p_tk tp n 0) (nI (p_pl tp n 0)) v_11 (p_pl tp n 0) 59 (by omega)) (rZs_ok adK adV fm) (fun _ _ _ h9 => h9) kV_X5_37 ⟨rfl, hy_X5_expect⟩ ⟨Nat.le_of_ble_eq_true rfl, Nat.le_of_ble_eq_true rfl⟩ ⟨Nat.le_of_ble_eq_true rfl, Nat.le_of_ble_eq_true rfl⟩ dX5_read_56 1 rfl rfl [1, 2] [0, 3, 4] rfl rfl rfl rfl (by decide) rfl (Nat.le_of_ble_eq_true rfl) ?_
    intro v404 w405 h406
    obtain ⟨rfl, rfl, hf407⟩ := h406
    show X 0 0 [(qc, .inl (cI, 160, .inl cd)), (q, .inr (2, [.ref qc, .ref qs, .ref qe, .int (nI 0)])), (qe, .inl (cI, 3, .inl (upd en 0 (nI 0)))), (rd, .inr (4, [.ref rta, .int (nI n), .int (nI (p_nx tp n 0)), .int (p_tk tp n 0), .int (nI (p_pl tp n 0)), .int v_11, .int (nI (p_pl tp n 0)), .ref q])), (rta, .inl (cI, 160, .inl tp))] [(2, .int 0), (0, .ref rd), (1, .ref q)] 59 []
    show X _ _ _ _ 59 _
    refine x_iinc C dX5_read_59 0 rfl (v := 1) (rfl) (by decide) (lv' := [(2, .int 1), (0, .ref rd), (1, .ref q)]) rfl ?_
    refine x_goto C dX5_read_62 (tgt := 28) rfl ?_
    refine x_iload_n C dX5_read_28 0 rfl ?_
    refine x_iconst C dX5_read_29 (v := 3) rfl ?_
    refine x_icmp_ge C dX5_read_30 (tgt := 65) rfl (fun q9 => absurd q9 (by decide)) (fun _ => ?_)
    refine x_aload_n C dX5_read_33 1 rfl ?_
    refine x_iconst C dX5_read_34 (v := 4) rfl ?_
    refine x_iload_n C dX5_read_35 0 rfl ?_
    refine x_iadd C dX5_read_36 ?_
    refine x_topi C 5 (by decide) ?_
    refine x_callV C (As := [.int 5]) (st := []) (wc := [(rd, .inr (4, [.ref rta, .int (nI n), .int (nI (p_nx tp n 0)), .int (p_tk tp n 0), .int (nI (p_pl tp n 0)), .int v_11, .int (nI (p_pl tp n 0)), .ref q])), (rta, .inl (cI, 160, .inl tp))]) (wr := [(qc, .inl (cI, 160, .inl cd)), (q, .inr (2, [.ref qc, .ref qs, .ref qe, .int (nI 0)])), (qe, .inl (cI, 3, .inl (upd en 0 (nI 0))))]) (c_X5_expect_f l dG cI cM cW cS adK adV fm rd rta q n tp (nI (p_nx tp n 0)) (p_tk tp n 0) (nI (p_pl tp n 0)) v_11 (p_pl tp n 0) 5 (by omega)) (rZs_ok adK adV fm) (fun _ _ _ h9 => h9) kV_X5_37 ⟨rfl, hy_X5_expect⟩ ⟨Nat.le_of_ble_eq_true rfl, Nat.le_of_ble_eq_true rfl⟩ ⟨Nat.le_of_ble_eq_true rfl, Nat.le_of_ble_eq_true rfl⟩ dX5_read_37 3 rfl rfl [3, 4] [0, 1, 2] rfl rfl rfl rfl (by decide) rfl (Nat.le_of_ble_eq_true rfl) ?_
    intro v408 w409 h410
    obtain ⟨rfl, rfl, hf411⟩ := h410
    show X 0 0 [(qc, .inl (cI, 160, .inl cd)), (q, .inr (2, [.ref qc, .ref qs, .ref qe, .int (nI 0)])), (qe, .inl (cI, 3, .inl (upd en 0 (nI 0)))), (rd, .inr (4, [.ref rta, .int (nI n), .int (nI (p_nx tp n 0)), .int (p_tk tp n 0), .int (nI (p_pl tp n 0)), .int v_11, .int (nI (p_pl tp n 0)), .ref q])), (rta, .inl (cI, 160, .inl tp))] [(2, .int 1), (0, .ref rd), (1, .ref q)] 40 []
    show X _ _ _ _ 40 _
    refine x_aload_n C dX5_read_40 1 rfl ?_
    refine x_iconst C dX5_read_41 (v := 0) rfl ?_
    refine x_callV C (As := [.int 0]) (st := []) (wc := [(rd, .inr (4, [.ref rta, .int (nI n), .int (nI (p_nx tp n 0)), .int (p_tk tp n 0), .int (nI (p_pl tp n 0)), .int v_11, .int (nI (p_pl tp n 0)), .ref q])), (rta, .inl (cI, 160, .inl tp))]) (wr := [(qc, .inl (cI, 160, .inl cd)), (q, .inr (2, [.ref qc, .ref qs, .ref qe, .int (nI 0)])), (qe, .inl (cI, 3, .inl (upd en 0 (nI 0))))]) (c_X5_readOr_f l dG cI cM cW cS adK adV fm rd rta q n tp (nI (p_nx tp n 0)) (p_tk tp n 0) (nI (p_pl tp n 0)) v_11 (p_pl tp n 0) 0 (by omega)) (rZs_ok adK adV fm) (fun _ _ _ h9 => h9) kV_X5_41 ⟨rfl, hy_X5_readOr⟩ ⟨Nat.le_of_ble_eq_true rfl, Nat.le_of_ble_eq_true rfl⟩ ⟨Nat.le_of_ble_eq_true rfl, Nat.le_of_ble_eq_true rfl⟩ dX5_read_42 3 rfl rfl [3, 4] [0, 1, 2] rfl rfl rfl rfl (by decide) rfl (Nat.le_of_ble_eq_true rfl) ?_
    intro v412 w413 h414
    obtain ⟨rfl, rfl, hf415⟩ := h414
    show X 0 0 [(qc, .inl (cI, 160, .inl cd)), (q, .inr (2, [.ref qc, .ref qs, .ref qe, .int (nI 0)])), (qe, .inl (cI, 3, .inl (upd en 0 (nI 0)))), (rd, .inr (4, [.ref rta, .int (nI n), .int (nI (p_nx tp n 0)), .int (p_tk tp n 0), .int (nI (p_pl tp n 0)), .int v_11, .int (nI (p_pl tp n 0)), .ref q])), (rta, .inl (cI, 160, .inl tp))] [(2, .int 1), (0, .ref rd), (1, .ref q)] 45 []
    refine x_aload_n C dX5_read_45 1 rfl ?_
    refine x_get C inlX5 rfl 7 (by decide) gw_6_23 dX5_read_46 3 rfl rfl ?_
    refine x_iload_n C dX5_read_49 0 rfl ?_
    refine x_callV C (As := [.int (nI 1)]) (st := []) (wc := [(q, .inr (2, [.ref qc, .ref qs, .ref qe, .int (nI 0)])), (qe, .inl (cI, 3, .inl (upd en 0 (nI 0))))]) (wr := [(qc, .inl (cI, 160, .inl cd)), (rd, .inr (4, [.ref rta, .int (nI n), .int (nI (p_nx tp n 0)), .int (p_tk tp n 0), .int (nI (p_pl tp n 0)), .int v_11, .int (nI (p_pl tp n 0)), .ref q])), (rta, .inl (cI, 160, .inl tp))]) (c_X3_endPart l dG cI cM cW cS q qc qs qe 0 1 (upd en 0 (nI 0)) (by first | assumption | omega | decide)) rZ0_ok (fun _ _ _ _ => trivial) kV_X5_44 ⟨rfl, hy_X3_endPart⟩ ⟨Nat.le_of_ble_eq_true rfl, Nat.le_of_ble_eq_true rfl⟩ ⟨Nat.le_of_ble_eq_true rfl, Nat.le_of_ble_eq_true rfl⟩ dX5_read_50 1 rfl rfl [1, 2] [0, 3, 4] rfl rfl rfl rfl (by decide) rfl (Nat.le_of_ble_eq_true rfl) ?_
    intro v416 w417 h418
    obtain ⟨rfl, rfl, hf419⟩ := h418
    show X 0 0 [(qc, .inl (cI, 160, .inl cd)), (rd, .inr (4, [.ref rta, .int (nI n), .int (nI (p_nx tp n 0)), .int (p_tk tp n 0), .int (nI (p_pl tp n 0)), .int v_11, .int (nI (p_pl tp n 0)), .ref q])), (rta, .inl (cI, 160, .inl tp)), (q, .inr (2, [.ref qc, .ref qs, .ref qe, .int (nI 0)])), (qe, .inl (cI, 3, .inl (upd (upd en 0 (nI 0)) 1 (nI 0))))] [(2, .int 1), (0, .ref rd), (1, .ref q)] 53 []
    refine x_aload_n C dX5_read_53 1 rfl ?_
    refine x_bipush C dX5_read_54 (v := 59) rfl ?_
    refine x_callV C (As := [.int 59]) (st := []) (wc := [(rd, .inr (4, [.ref rta, .int (nI n), .int (nI (p_nx tp n 0)), .int (p_tk tp n 0), .int (nI (p_pl tp n 0)), .int v_11, .int (nI (p_pl tp n 0)), .ref q])), (rta, .inl (cI, 160, .inl tp))]) (wr := [(qc, .inl (cI, 160, .inl cd)), (q, .inr (2, [.ref qc, .ref qs, .ref qe, .int (nI 0)])), (qe, .inl (cI, 3, .inl (upd (upd en 0 (nI 0)) 1 (nI 0))))]) (c_X5_expect_f l dG cI cM cW cS adK adV fm rd rta q n tp (nI (p_nx tp n 0)) (p_tk tp n 0) (nI (p_pl tp n 0)) v_11 (p_pl tp n 0) 59 (by omega)) (rZs_ok adK adV fm) (fun _ _ _ h9 => h9) kV_X5_37 ⟨rfl, hy_X5_expect⟩ ⟨Nat.le_of_ble_eq_true rfl, Nat.le_of_ble_eq_true rfl⟩ ⟨Nat.le_of_ble_eq_true rfl, Nat.le_of_ble_eq_true rfl⟩ dX5_read_56 1 rfl rfl [1, 2] [0, 3, 4] rfl rfl rfl rfl (by decide) rfl (Nat.le_of_ble_eq_true rfl) ?_
    intro v420 w421 h422
    obtain ⟨rfl, rfl, hf423⟩ := h422
    show X 0 0 [(qc, .inl (cI, 160, .inl cd)), (q, .inr (2, [.ref qc, .ref qs, .ref qe, .int (nI 0)])), (qe, .inl (cI, 3, .inl (upd (upd en 0 (nI 0)) 1 (nI 0)))), (rd, .inr (4, [.ref rta, .int (nI n), .int (nI (p_nx tp n 0)), .int (p_tk tp n 0), .int (nI (p_pl tp n 0)), .int v_11, .int (nI (p_pl tp n 0)), .ref q])), (rta, .inl (cI, 160, .inl tp))] [(2, .int 1), (0, .ref rd), (1, .ref q)] 59 []
    show X _ _ _ _ 59 _
    refine x_iinc C dX5_read_59 0 rfl (v := 2) (rfl) (by decide) (lv' := [(2, .int 2), (0, .ref rd), (1, .ref q)]) rfl ?_
    refine x_goto C dX5_read_62 (tgt := 28) rfl ?_
    refine x_iload_n C dX5_read_28 0 rfl ?_
    refine x_iconst C dX5_read_29 (v := 3) rfl ?_
    refine x_icmp_ge C dX5_read_30 (tgt := 65) rfl (fun q9 => absurd q9 (by decide)) (fun _ => ?_)
    refine x_aload_n C dX5_read_33 1 rfl ?_
    refine x_iconst C dX5_read_34 (v := 4) rfl ?_
    refine x_iload_n C dX5_read_35 0 rfl ?_
    refine x_iadd C dX5_read_36 ?_
    refine x_topi C 6 (by decide) ?_
    refine x_callV C (As := [.int 6]) (st := []) (wc := [(rd, .inr (4, [.ref rta, .int (nI n), .int (nI (p_nx tp n 0)), .int (p_tk tp n 0), .int (nI (p_pl tp n 0)), .int v_11, .int (nI (p_pl tp n 0)), .ref q])), (rta, .inl (cI, 160, .inl tp))]) (wr := [(qc, .inl (cI, 160, .inl cd)), (q, .inr (2, [.ref qc, .ref qs, .ref qe, .int (nI 0)])), (qe, .inl (cI, 3, .inl (upd (upd en 0 (nI 0)) 1 (nI 0))))]) (c_X5_expect_f l dG cI cM cW cS adK adV fm rd rta q n tp (nI (p_nx tp n 0)) (p_tk tp n 0) (nI (p_pl tp n 0)) v_11 (p_pl tp n 0) 6 (by omega)) (rZs_ok adK adV fm) (fun _ _ _ h9 => h9) kV_X5_37 ⟨rfl, hy_X5_expect⟩ ⟨Nat.le_of_ble_eq_true rfl, Nat.le_of_ble_eq_true rfl⟩ ⟨Nat.le_of_ble_eq_true rfl, Nat.le_of_ble_eq_true rfl⟩ dX5_read_37 3 rfl rfl [3, 4] [0, 1, 2] rfl rfl rfl rfl (by decide) rfl (Nat.le_of_ble_eq_true rfl) ?_
    intro v424 w425 h426
    obtain ⟨rfl, rfl, hf427⟩ := h426
    show X 0 0 [(qc, .inl (cI, 160, .inl cd)), (q, .inr (2, [.ref qc, .ref qs, .ref qe, .int (nI 0)])), (qe, .inl (cI, 3, .inl (upd (upd en 0 (nI 0)) 1 (nI 0)))), (rd, .inr (4, [.ref rta, .int (nI n), .int (nI (p_nx tp n 0)), .int (p_tk tp n 0), .int (nI (p_pl tp n 0)), .int v_11, .int (nI (p_pl tp n 0)), .ref q])), (rta, .inl (cI, 160, .inl tp))] [(2, .int 2), (0, .ref rd), (1, .ref q)] 40 []
    show X _ _ _ _ 40 _
    refine x_aload_n C dX5_read_40 1 rfl ?_
    refine x_iconst C dX5_read_41 (v := 0) rfl ?_
    refine x_callV C (As := [.int 0]) (st := []) (wc := [(rd, .inr (4, [.ref rta, .int (nI n), .int (nI (p_nx tp n 0)), .int (p_tk tp n 0), .int (nI (p_pl tp n 0)), .int v_11, .int (nI (p_pl tp n 0)), .ref q])), (rta, .inl (cI, 160, .inl tp))]) (wr := [(qc, .inl (cI, 160, .inl cd)), (q, .inr (2, [.ref qc, .ref qs, .ref qe, .int (nI 0)])), (qe, .inl (cI, 3, .inl (upd (upd en 0 (nI 0)) 1 (nI 0))))]) (c_X5_readOr_f l dG cI cM cW cS adK adV fm rd rta q n tp (nI (p_nx tp n 0)) (p_tk tp n 0) (nI (p_pl tp n 0)) v_11 (p_pl tp n 0) 0 (by omega)) (rZs_ok adK adV fm) (fun _ _ _ h9 => h9) kV_X5_41 ⟨rfl, hy_X5_readOr⟩ ⟨Nat.le_of_ble_eq_true rfl, Nat.le_of_ble_eq_true rfl⟩ ⟨Nat.le_of_ble_eq_true rfl, Nat.le_of_ble_eq_true rfl⟩ dX5_read_42 3 rfl rfl [3, 4] [0, 1, 2] rfl rfl rfl rfl (by decide) rfl (Nat.le_of_ble_eq_true rfl) ?_
    intro v428 w429 h430
    obtain ⟨rfl, rfl, hf431⟩ := h430
    show X 0 0 [(qc, .inl (cI, 160, .inl cd)), (q, .inr (2, [.ref qc, .ref qs, .ref qe, .int (nI 0)])), (qe, .inl (cI, 3, .inl (upd (upd en 0 (nI 0)) 1 (nI 0)))), (rd, .inr (4, [.ref rta, .int (nI n), .int (nI (p_nx tp n 0)), .int (p_tk tp n 0), .int (nI (p_pl tp n 0)), .int v_11, .int (nI (p_pl tp n 0)), .ref q])), (rta, .inl (cI, 160, .inl tp))] [(2, .int 2), (0, .ref rd), (1, .ref q)] 45 []
    refine x_aload_n C dX5_read_45 1 rfl ?_
    refine x_get C inlX5 rfl 7 (by decide) gw_6_23 dX5_read_46 3 rfl rfl ?_
    refine x_iload_n C dX5_read_49 0 rfl ?_
    refine x_callV C (As := [.int (nI 2)]) (st := []) (wc := [(q, .inr (2, [.ref qc, .ref qs, .ref qe, .int (nI 0)])), (qe, .inl (cI, 3, .inl (upd (upd en 0 (nI 0)) 1 (nI 0))))]) (wr := [(qc, .inl (cI, 160, .inl cd)), (rd, .inr (4, [.ref rta, .int (nI n), .int (nI (p_nx tp n 0)), .int (p_tk tp n 0), .int (nI (p_pl tp n 0)), .int v_11, .int (nI (p_pl tp n 0)), .ref q])), (rta, .inl (cI, 160, .inl tp))]) (c_X3_endPart l dG cI cM cW cS q qc qs qe 0 2 (upd (upd en 0 (nI 0)) 1 (nI 0)) (by first | assumption | omega | decide)) rZ0_ok (fun _ _ _ _ => trivial) kV_X5_44 ⟨rfl, hy_X3_endPart⟩ ⟨Nat.le_of_ble_eq_true rfl, Nat.le_of_ble_eq_true rfl⟩ ⟨Nat.le_of_ble_eq_true rfl, Nat.le_of_ble_eq_true rfl⟩ dX5_read_50 1 rfl rfl [1, 2] [0, 3, 4] rfl rfl rfl rfl (by decide) rfl (Nat.le_of_ble_eq_true rfl) ?_
    intro v432 w433 h434
    obtain ⟨rfl, rfl, hf435⟩ := h434
    show X 0 0 [(qc, .inl (cI, 160, .inl cd)), (rd, .inr (4, [.ref rta, .int (nI n), .int (nI (p_nx tp n 0)), .int (p_tk tp n 0), .int (nI (p_pl tp n 0)), .int v_11, .int (nI (p_pl tp n 0)), .ref q])), (rta, .inl (cI, 160, .inl tp)), (q, .inr (2, [.ref qc, .ref qs, .ref qe, .int (nI 0)])), (qe, .inl (cI, 3, .inl (upd (upd (upd en 0 (nI 0)) 1 (nI 0)) 2 (nI 0))))] [(2, .int 2), (0, .ref rd), (1, .ref q)] 53 []
    refine x_aload_n C dX5_read_53 1 rfl ?_
    refine x_bipush C dX5_read_54 (v := 59) rfl ?_
    refine x_callV C (As := [.int 59]) (st := []) (wc := [(rd, .inr (4, [.ref rta, .int (nI n), .int (nI (p_nx tp n 0)), .int (p_tk tp n 0), .int (nI (p_pl tp n 0)), .int v_11, .int (nI (p_pl tp n 0)), .ref q])), (rta, .inl (cI, 160, .inl tp))]) (wr := [(qc, .inl (cI, 160, .inl cd)), (q, .inr (2, [.ref qc, .ref qs, .ref qe, .int (nI 0)])), (qe, .inl (cI, 3, .inl (upd (upd (upd en 0 (nI 0)) 1 (nI 0)) 2 (nI 0))))]) (c_X5_expect_f l dG cI cM cW cS adK adV fm rd rta q n tp (nI (p_nx tp n 0)) (p_tk tp n 0) (nI (p_pl tp n 0)) v_11 (p_pl tp n 0) 59 (by omega)) (rZs_ok adK adV fm) (fun _ _ _ h9 => h9) kV_X5_37 ⟨rfl, hy_X5_expect⟩ ⟨Nat.le_of_ble_eq_true rfl, Nat.le_of_ble_eq_true rfl⟩ ⟨Nat.le_of_ble_eq_true rfl, Nat.le_of_ble_eq_true rfl⟩ dX5_read_56 1 rfl rfl [1, 2] [0, 3, 4] rfl rfl rfl rfl (by decide) rfl (Nat.le_of_ble_eq_true rfl) ?_
    intro v436 w437 h438
    obtain ⟨rfl, rfl, hf439⟩ := h438
    show X 0 0 [(qc, .inl (cI, 160, .inl cd)), (q, .inr (2, [.ref qc, .ref qs, .ref qe, .int (nI 0)])), (qe, .inl (cI, 3, .inl (upd (upd (upd en 0 (nI 0)) 1 (nI 0)) 2 (nI 0)))), (rd, .inr (4, [.ref rta, .int (nI n), .int (nI (p_nx tp n 0)), .int (p_tk tp n 0), .int (nI (p_pl tp n 0)), .int v_11, .int (nI (p_pl tp n 0)), .ref q])), (rta, .inl (cI, 160, .inl tp))] [(2, .int 2), (0, .ref rd), (1, .ref q)] 59 []
    show X _ _ _ _ 59 _
    refine x_iinc C dX5_read_59 0 rfl (v := 3) (rfl) (by decide) (lv' := [(2, .int 3), (0, .ref rd), (1, .ref q)]) rfl ?_
    refine x_goto C dX5_read_62 (tgt := 28) rfl ?_
    refine x_iload_n C dX5_read_28 0 rfl ?_
    refine x_iconst C dX5_read_29 (v := 3) rfl ?_
    refine x_icmp_ge C dX5_read_30 (tgt := 65) rfl (fun _ => ?_) (fun q9 => by first | exact absurd q9 (by decide) | exact absurd (by decide) q9)
    refine x_aload_n C dX5_read_65 1 rfl ?_
    refine x_iconst C dX5_read_66 (v := 0) rfl ?_
    refine x_callV C (As := [.int 0]) (st := []) (wc := [(rd, .inr (4, [.ref rta, .int (nI n), .int (nI (p_nx tp n 0)), .int (p_tk tp n 0), .int (nI (p_pl tp n 0)), .int v_11, .int (nI (p_pl tp n 0)), .ref q]))]) (wr := [(qc, .inl (cI, 160, .inl cd)), (q, .inr (2, [.ref qc, .ref qs, .ref qe, .int (nI 0)])), (qe, .inl (cI, 3, .inl (upd (upd (upd en 0 (nI 0)) 1 (nI 0)) 2 (nI 0)))), (rta, .inl (cI, 160, .inl tp))]) (c_X5_has l dG cI cM cW cS rd rta q n tp (nI (p_nx tp n 0)) (p_tk tp n 0) (nI (p_pl tp n 0)) v_11 (nI (p_pl tp n 0)) 0 ) rZ0_ok (fun _ _ _ _ => trivial) kV_X5_47 ⟨rfl, hy_X5_has⟩ ⟨Nat.le_of_ble_eq_true rfl, Nat.le_of_ble_eq_true rfl⟩ ⟨Nat.le_of_ble_eq_true rfl, Nat.le_of_ble_eq_true rfl⟩ dX5_read_67 3 rfl rfl [3] [0, 1, 2, 4] rfl rfl rfl rfl (by decide) rfl (Nat.le_of_ble_eq_true rfl) ?_
    intro v440 w441 h442
    rcases h442 with h442 | h442
    ·
      obtain ⟨rfl, rfl, hf443⟩ := h442
      show X 0 0 [(qc, .inl (cI, 160, .inl cd)), (q, .inr (2, [.ref qc, .ref qs, .ref qe, .int (nI 0)])), (qe, .inl (cI, 3, .inl (upd (upd (upd en 0 (nI 0)) 1 (nI 0)) 2 (nI 0)))), (rta, .inl (cI, 160, .inl tp)), (rd, .inr (4, [.ref rta, .int (nI n), .int (nI (p_nx tp n 0)), .int (p_tk tp n 0), .int (nI (p_pl tp n 0)), .int v_11, .int (nI (p_pl tp n 0)), .ref q]))] [(2, .int 3), (0, .ref rd), (1, .ref q)] 70 [.int 1]
      exact absurd hf443.1 (nI_nm1 (by omega))
    ·
      obtain ⟨rfl, rfl, hf444⟩ := h442
      show X 0 0 [(qc, .inl (cI, 160, .inl cd)), (q, .inr (2, [.ref qc, .ref qs, .ref qe, .int (nI 0)])), (qe, .inl (cI, 3, .inl (upd (upd (upd en 0 (nI 0)) 1 (nI 0)) 2 (nI 0)))), (rta, .inl (cI, 160, .inl tp)), (rd, .inr (4, [.ref rta, .int (nI n), .int (nI (p_nx tp n 0)), .int (p_tk tp n 0), .int (nI (p_pl tp n 0)), .int v_11, .int (nI (p_pl tp n 0)), .ref q]))] [(2, .int 3), (0, .ref rd), (1, .ref q)] 70 [.int 0]
      refine x_if_ne C dX5_read_70 (tgt := 77) rfl (fun q9 => absurd q9 (by decide)) (fun _ => ?_)
      refine x_aload_n C dX5_read_73 1 rfl ?_
      refine x_callV C (As := []) (st := []) (wc := [(rd, .inr (4, [.ref rta, .int (nI n), .int (nI (p_nx tp n 0)), .int (p_tk tp n 0), .int (nI (p_pl tp n 0)), .int v_11, .int (nI (p_pl tp n 0)), .ref q]))]) (wr := [(qc, .inl (cI, 160, .inl cd)), (q, .inr (2, [.ref qc, .ref qs, .ref qe, .int (nI 0)])), (qe, .inl (cI, 3, .inl (upd (upd (upd en 0 (nI 0)) 1 (nI 0)) 2 (nI 0)))), (rta, .inl (cI, 160, .inl tp))]) (c_X5_faultHere_f l dG cI cM cW cS rd rta q n tp (nI (p_nx tp n 0)) (p_tk tp n 0) (nI (p_pl tp n 0)) v_11 (p_pl tp n 0) (by omega)) rZ0_ok (fun _ _ _ _ => trivial) kV_X5_51 ⟨rfl, hy_X5_faultHere⟩ ⟨Nat.le_of_ble_eq_true rfl, Nat.le_of_ble_eq_true rfl⟩ ⟨Nat.le_of_ble_eq_true rfl, Nat.le_of_ble_eq_true rfl⟩ dX5_read_74 4 rfl rfl [4] [0, 1, 2, 3] rfl rfl rfl rfl (by decide) rfl (Nat.le_of_ble_eq_true rfl) ?_
      intro v445 w446 h447
      obtain ⟨rfl, rfl, hf448⟩ := h447
      show X 0 0 [(qc, .inl (cI, 160, .inl cd)), (q, .inr (2, [.ref qc, .ref qs, .ref qe, .int (nI 0)])), (qe, .inl (cI, 3, .inl (upd (upd (upd en 0 (nI 0)) 1 (nI 0)) 2 (nI 0)))), (rta, .inl (cI, 160, .inl tp)), (rd, .inr (4, [.ref rta, .int (nI n), .int (nI (p_nx tp n 0)), .int (p_tk tp n 0), .int (nI (p_pl tp n 0)), .int v_11, .int (nI (p_pl tp n 0)), .ref q]))] [(2, .int 3), (0, .ref rd), (1, .ref q)] 77 []
      refine x_aload_n C dX5_read_77 1 rfl ?_
      refine x_iconst C dX5_read_78 (v := 0) rfl ?_
      refine x_put C inlX5 rfl tyX5 tyX5_ok nmX5 1 (by decide) gw_6_18 rfl dX5_read_79 4 rfl (rfl) rfl (Nat.le_of_ble_eq_true rfl) ?_
      show X _ _ [(qc, .inl (cI, 160, .inl cd)), (q, .inr (2, [.ref qc, .ref qs, .ref qe, .int (nI 0)])), (qe, .inl (cI, 3, .inl (upd (upd (upd en 0 (nI 0)) 1 (nI 0)) 2 (nI 0)))), (rta, .inl (cI, 160, .inl tp)), (rd, .inr (4, [.ref rta, .int 0, .int (nI (p_nx tp n 0)), .int (p_tk tp n 0), .int (nI (p_pl tp n 0)), .int v_11, .int (nI (p_pl tp n 0)), .ref q]))] _ _ _
      refine x_aload_n C dX5_read_82 1 rfl ?_
      refine x_get C inlX5 rfl 6 (by decide) gw_7_1 dX5_read_83 4 rfl rfl ?_
      refine x_sub C [4, 3, 1, 0, 2] (ws' := [(rd, .inr (4, [.ref rta, .int 0, .int (nI (p_nx tp n 0)), .int (p_tk tp n 0), .int (nI (p_pl tp n 0)), .int v_11, .int (nI (p_pl tp n 0)), .ref q])), (rta, .inl (cI, 160, .inl tp)), (q, .inr (2, [.ref qc, .ref qs, .ref qe, .int (nI 0)])), (qc, .inl (cI, 160, .inl cd)), (qe, .inl (cI, 3, .inl (upd (upd (upd en 0 (nI 0)) 1 (nI 0)) 2 (nI 0))))]) rfl rfl ?_
      refine E dX5_read_86 (rfl) ?_
      exact Or.inr (⟨(nI (p_nx tp n 0)), (p_tk tp n 0), (nI (p_pl tp n 0)), v_11, (nI (p_pl tp n 0)), (nI 0), cd, (upd (upd (upd en 0 (nI 0)) 1 (nI 0)) 2 (nI 0)), (p_pl tp n 0), rfl, rfl, ⟨(p_txt_0 hp395).1, by rw [(p_txt_0 hp395).2], hfb9⟩⟩)
theorem kg7_len : GoodIn GW (wsV RX7 66 yJ0_length_8abf5.cls yJ0_length_8abf5 (Cond.code yJ0_length_8abf5 cJ0_length_8abf5 1 (some .int) :: GW)) := r_gV gw_4_13 gw_4_14 gw_4_15 gw_4_16 gw_4_17
theorem kg7_chr : GoodIn GW (wsV RX7 72 yJ0_charAt_5068e.cls yJ0_charAt_5068e (Cond.code yJ0_charAt_5068e cJ0_charAt_5068e 2 (some .char) :: GW)) := r_gV gw_5_1 gw_5_2 gw_5_3 gw_4_16 gw_5_4
