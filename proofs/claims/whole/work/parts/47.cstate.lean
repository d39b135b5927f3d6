theorem kS_X7_88 : GoodIn GW (va_wsS RX7 88 yX7_isDay (Cond.code yX7_isDay cX7_isDay 1 (some .boolean) :: GW)) := r_gS gw_14_20 gw_14_21 gw_1_2 gw_14_22
theorem hy_X7_isDay : yX7_isDay.cls ≠ "java/lang/invoke/MethodHandle" ∧ yX7_isDay.cls ≠ "java/lang/invoke/VarHandle" ∧ (parseMethodDescriptor yX7_isDay.desc).map (fun d => d.parameters.length) = some 1 := ⟨by decide +kernel, by decide +kernel, by decide +kernel⟩
theorem kS_X7_96 : GoodIn GW (va_wsS RX7 96 yX7_mostOfSky (Cond.code yX7_mostOfSky cX7_mostOfSky 1 (some .int) :: GW)) := r_gS gw_15_2 gw_15_3 gw_1_2 gw_15_4
theorem hy_X7_mostOfSky : yX7_mostOfSky.cls ≠ "java/lang/invoke/MethodHandle" ∧ yX7_mostOfSky.cls ≠ "java/lang/invoke/VarHandle" ∧ (parseMethodDescriptor yX7_mostOfSky.desc).map (fun d => d.parameters.length) = some 1 := ⟨by decide +kernel, by decide +kernel, by decide +kernel⟩
theorem nw_X7_100 : (RX7, 100, "LeavesBeforeWind$Lawn", "sky", "[[I", "LeavesBeforeWind") ∈ NWF := List.mem_of_getElem? (i := 0) rfl
set_option maxHeartbeats 4000000 in
set_option maxRecDepth 100000 in
theorem c_X7_sky (l : Launch) (dG : va_G) (cI cM cW cS : ClassId) (x pw uw o hh rd bk pl asd fd : Nat) (wr : Nat) (hi9 : Int32) (tw tsk tkd tmo tlv ttc tts ttl ts0 ts1 ts2 ts3 : Nat) (ttn tlw : Nat) (trg : Int32) (thp : Int64) (tR0 tR1 tR2 tR3 tkf tmf tlf tcf tsf ttf : Nat → Int32) (d wh v : Int32) : rM l yX7_sky cX7_sky 5 (some .int) ({ frames := 2, cells := 0, slots := 0, locals := 42 } : Room) dG (tY cI cM cW cS) rZ0 [.ref x, .int d, .int wh, .int v] [(x, .inr (6, [.ref tw, .ref pw, .ref uw, .ref o, .ref hh, .ref rd, .ref bk, .ref pl, .ref asd, .ref fd, .int (nI wr), .int hi9])), (tw, .inr (3, [.ref tsk, .ref tkd, .ref tmo, .ref tlv, .ref ttc, .ref tts, .ref ttl, .int (nI ttn), .int trg, .long thp, .int (nI tlw)])), (tsk, .inl (cM, 4, .inr (.inr (.inr (.inr (rr4 ts0 ts1 ts2 ts3)))))), (ts0, .inl (cI, 14, .inl tR0)), (ts1, .inl (cI, 14, .inl tR1)), (ts2, .inl (cI, 14, .inl tR2)), (ts3, .inl (cI, 14, .inl tR3))] (fun ov oz => ∃ (r : Int32) (tR0' : Nat → Int32) (tR1' : Nat → Int32) (tR2' : Nat → Int32) (tR3' : Nat → Int32), ov = some (.int r) ∧ oz = [(x, .inr (6, [.ref tw, .ref pw, .ref uw, .ref o, .ref hh, .ref rd, .ref bk, .ref pl, .ref asd, .ref fd, .int (nI wr), .int hi9])), (tw, .inr (3, [.ref tsk, .ref tkd, .ref tmo, .ref tlv, .ref ttc, .ref tts, .ref ttl, .int (nI ttn), .int trg, .long thp, .int (nI tlw)])), (tsk, .inl (cM, 4, .inr (.inr (.inr (.inr (rr4 ts0 ts1 ts2 ts3)))))), (ts0, .inl (cI, 14, .inl tR0')), (ts1, .inl (cI, 14, .inl tR1')), (ts2, .inl (cI, 14, .inl tR2')), (ts3, .inl (cI, 14, .inl tR3'))] ∧ (r, tR0', tR1', tR2', tR3') = (o_sky tR0 tR1 tR2 tR3 d wh v, o_sky_k 0 tR0 d wh v, o_sky_k 1 tR1 d wh v, o_sky_k 2 tR2 d wh v, o_sky_k 3 tR3 d wh v)) := by
  refine rM_ofI rfl (Nat.le_of_ble_eq_true rfl) rfl (fun X C E => ?_)
  show X 0 0 [(x, .inr (6, [.ref tw, .ref pw, .ref uw, .ref o, .ref hh, .ref rd, .ref bk, .ref pl, .ref asd, .ref fd, .int (nI wr), .int hi9])), (tw, .inr (3, [.ref tsk, .ref tkd, .ref tmo, .ref tlv, .ref ttc, .ref tts, .ref ttl, .int (nI ttn), .int trg, .long thp, .int (nI tlw)])), (tsk, .inl (cM, 4, .inr (.inr (.inr (.inr (rr4 ts0 ts1 ts2 ts3)))))), (ts0, .inl (cI, 14, .inl tR0)), (ts1, .inl (cI, 14, .inl tR1)), (ts2, .inl (cI, 14, .inl tR2)), (ts3, .inl (cI, 14, .inl tR3))] [(0, .ref x), (1, .int d), (2, .int wh), (3, .int v)] 0 []
  refine x_iload_n C dX7_sky_0 1 rfl ?_
  refine x_callS C (As := [.int d]) (st := []) (wc := []) (wr := [(x, .inr (6, [.ref tw, .ref pw, .ref uw, .ref o, .ref hh, .ref rd, .ref bk, .ref pl, .ref asd, .ref fd, .int (nI wr), .int hi9])), (tw, .inr (3, [.ref tsk, .ref tkd, .ref tmo, .ref tlv, .ref ttc, .ref tts, .ref ttl, .int (nI ttn), .int trg, .long thp, .int (nI tlw)])), (tsk, .inl (cM, 4, .inr (.inr (.inr (.inr (rr4 ts0 ts1 ts2 ts3)))))), (ts0, .inl (cI, 14, .inl tR0)), (ts1, .inl (cI, 14, .inl tR1)), (ts2, .inl (cI, 14, .inl tR2)), (ts3, .inl (cI, 14, .inl tR3))]) (c_X7_isDay l dG cI cM cW cS d ) rZ0_ok (fun _ _ _ _ => trivial) kS_X7_88 hy_X7_isDay ⟨Nat.le_of_ble_eq_true rfl, Nat.le_of_ble_eq_true rfl⟩ ⟨Nat.le_of_ble_eq_true rfl, Nat.le_of_ble_eq_true rfl⟩ dX7_sky_1 [] [0, 1, 2, 3, 4, 5, 6] rfl rfl rfl rfl (by decide) rfl (Nat.le_of_ble_eq_true rfl) ?_
  intro v1 w2 h3
  rcases h3 with h3 | h3
  ·
    obtain ⟨rfl, rfl, hf4⟩ := h3
    show X 0 0 [(x, .inr (6, [.ref tw, .ref pw, .ref uw, .ref o, .ref hh, .ref rd, .ref bk, .ref pl, .ref asd, .ref fd, .int (nI wr), .int hi9])), (tw, .inr (3, [.ref tsk, .ref tkd, .ref tmo, .ref tlv, .ref ttc, .ref tts, .ref ttl, .int (nI ttn), .int trg, .long thp, .int (nI tlw)])), (tsk, .inl (cM, 4, .inr (.inr (.inr (.inr (rr4 ts0 ts1 ts2 ts3)))))), (ts0, .inl (cI, 14, .inl tR0)), (ts1, .inl (cI, 14, .inl tR1)), (ts2, .inl (cI, 14, .inl tR2)), (ts3, .inl (cI, 14, .inl tR3))] [(0, .ref x), (1, .int d), (2, .int wh), (3, .int v)] 4 [.int 1]
    have hr5 := hf4
    obtain ⟨j, hj, rfl⟩ := q_w (n := 13) rfl (by decide) hf4
    have hnj : o_n (nI j) = j := o_n_nI (by omega)
    refine x_if_ne C dX7_sky_4 (tgt := 10) rfl (fun _ => ?_) (fun q9 => by first | exact absurd q9 (by decide) | exact absurd (by decide) q9)
    refine x_iload_n C dX7_sky_10 2 rfl ?_
    refine x_iconst C dX7_sky_11 (v := 0) rfl ?_
    refine x_iconst C dX7_sky_12 (v := 3) rfl ?_
    refine x_callS C (As := [.int wh, .int 0, .int 3]) (st := []) (wc := []) (wr := [(x, .inr (6, [.ref tw, .ref pw, .ref uw, .ref o, .ref hh, .ref rd, .ref bk, .ref pl, .ref asd, .ref fd, .int (nI wr), .int hi9])), (tw, .inr (3, [.ref tsk, .ref tkd, .ref tmo, .ref tlv, .ref ttc, .ref tts, .ref ttl, .int (nI ttn), .int trg, .long thp, .int (nI tlw)])), (tsk, .inl (cM, 4, .inr (.inr (.inr (.inr (rr4 ts0 ts1 ts2 ts3)))))), (ts0, .inl (cI, 14, .inl tR0)), (ts1, .inl (cI, 14, .inl tR1)), (ts2, .inl (cI, 14, .inl tR2)), (ts3, .inl (cI, 14, .inl tR3))]) (c_X7_within l dG cI cM cW cS wh 0 3 ) rZ0_ok (fun _ _ _ _ => trivial) kS_X7_92 hy_X7_within ⟨Nat.le_of_ble_eq_true rfl, Nat.le_of_ble_eq_true rfl⟩ ⟨Nat.le_of_ble_eq_true rfl, Nat.le_of_ble_eq_true rfl⟩ dX7_sky_13 [] [0, 1, 2, 3, 4, 5, 6] rfl rfl rfl rfl (by decide) rfl (Nat.le_of_ble_eq_true rfl) ?_
    intro v6 w7 h8
    rcases h8 with h8 | h8
    ·
      obtain ⟨rfl, rfl, hf9⟩ := h8
      show X 0 0 [(x, .inr (6, [.ref tw, .ref pw, .ref uw, .ref o, .ref hh, .ref rd, .ref bk, .ref pl, .ref asd, .ref fd, .int (nI wr), .int hi9])), (tw, .inr (3, [.ref tsk, .ref tkd, .ref tmo, .ref tlv, .ref ttc, .ref tts, .ref ttl, .int (nI ttn), .int trg, .long thp, .int (nI tlw)])), (tsk, .inl (cM, 4, .inr (.inr (.inr (.inr (rr4 ts0 ts1 ts2 ts3)))))), (ts0, .inl (cI, 14, .inl tR0)), (ts1, .inl (cI, 14, .inl tR1)), (ts2, .inl (cI, 14, .inl tR2)), (ts3, .inl (cI, 14, .inl tR3))] [(0, .ref x), (1, .int (nI j)), (2, .int wh), (3, .int v)] 16 [.int 1]
      have hr10 := hf9
      rcases q_in4 hf9 with rfl | rfl | rfl | rfl
      ·
        refine x_if_eq C dX7_sky_16 (tgt := 31) rfl (fun q9 => absurd q9 (by decide)) (fun _ => ?_)
        refine x_iload_n C dX7_sky_19 3 rfl ?_
        refine x_iconst C dX7_sky_20 (v := 0) rfl ?_
        refine x_iload_n C dX7_sky_21 2 rfl ?_
        refine x_callS C (As := [.int 0]) (st := [.int 0, .int v]) (wc := []) (wr := [(x, .inr (6, [.ref tw, .ref pw, .ref uw, .ref o, .ref hh, .ref rd, .ref bk, .ref pl, .ref asd, .ref fd, .int (nI wr), .int hi9])), (tw, .inr (3, [.ref tsk, .ref tkd, .ref tmo, .ref tlv, .ref ttc, .ref tts, .ref ttl, .int (nI ttn), .int trg, .long thp, .int (nI tlw)])), (tsk, .inl (cM, 4, .inr (.inr (.inr (.inr (rr4 ts0 ts1 ts2 ts3)))))), (ts0, .inl (cI, 14, .inl tR0)), (ts1, .inl (cI, 14, .inl tR1)), (ts2, .inl (cI, 14, .inl tR2)), (ts3, .inl (cI, 14, .inl tR3))]) (c_X7_mostOfSky l dG cI cM cW cS 0 ) rZ0_ok (fun _ _ _ _ => trivial) kS_X7_96 hy_X7_mostOfSky ⟨Nat.le_of_ble_eq_true rfl, Nat.le_of_ble_eq_true rfl⟩ ⟨Nat.le_of_ble_eq_true rfl, Nat.le_of_ble_eq_true rfl⟩ dX7_sky_22 [] [0, 1, 2, 3, 4, 5, 6] rfl rfl rfl rfl (by decide) rfl (Nat.le_of_ble_eq_true rfl) ?_
        intro v11 w12 h13
        obtain ⟨_, rfl, rfl, rfl⟩ := h13
        show X 0 0 [(x, .inr (6, [.ref tw, .ref pw, .ref uw, .ref o, .ref hh, .ref rd, .ref bk, .ref pl, .ref asd, .ref fd, .int (nI wr), .int hi9])), (tw, .inr (3, [.ref tsk, .ref tkd, .ref tmo, .ref tlv, .ref ttc, .ref tts, .ref ttl, .int (nI ttn), .int trg, .long thp, .int (nI tlw)])), (tsk, .inl (cM, 4, .inr (.inr (.inr (.inr (rr4 ts0 ts1 ts2 ts3)))))), (ts0, .inl (cI, 14, .inl tR0)), (ts1, .inl (cI, 14, .inl tR1)), (ts2, .inl (cI, 14, .inl tR2)), (ts3, .inl (cI, 14, .inl tR3))] [(0, .ref x), (1, .int (nI j)), (2, .int 0), (3, .int v)] 25 [.int (if 0 = 0 then 3 else if 0 = 1 then 9 else 1), .int 0, .int v]
        refine x_callS C (As := [.int v, .int 0, .int (if 0 = 0 then 3 else if 0 = 1 then 9 else 1)]) (st := []) (wc := []) (wr := [(x, .inr (6, [.ref tw, .ref pw, .ref uw, .ref o, .ref hh, .ref rd, .ref bk, .ref pl, .ref asd, .ref fd, .int (nI wr), .int hi9])), (tw, .inr (3, [.ref tsk, .ref tkd, .ref tmo, .ref tlv, .ref ttc, .ref tts, .ref ttl, .int (nI ttn), .int trg, .long thp, .int (nI tlw)])), (tsk, .inl (cM, 4, .inr (.inr (.inr (.inr (rr4 ts0 ts1 ts2 ts3)))))), (ts0, .inl (cI, 14, .inl tR0)), (ts1, .inl (cI, 14, .inl tR1)), (ts2, .inl (cI, 14, .inl tR2)), (ts3, .inl (cI, 14, .inl tR3))]) (c_X7_within l dG cI cM cW cS v 0 (if 0 = 0 then 3 else if 0 = 1 then 9 else 1) ) rZ0_ok (fun _ _ _ _ => trivial) kS_X7_92 hy_X7_within ⟨Nat.le_of_ble_eq_true rfl, Nat.le_of_ble_eq_true rfl⟩ ⟨Nat.le_of_ble_eq_true rfl, Nat.le_of_ble_eq_true rfl⟩ dX7_sky_25 [] [0, 1, 2, 3, 4, 5, 6] rfl rfl rfl rfl (by decide) rfl (Nat.le_of_ble_eq_true rfl) ?_
        intro v16 w17 h18
        rcases h18 with h18 | h18
        ·
          obtain ⟨rfl, rfl, hf19⟩ := h18
          show X 0 0 [(x, .inr (6, [.ref tw, .ref pw, .ref uw, .ref o, .ref hh, .ref rd, .ref bk, .ref pl, .ref asd, .ref fd, .int (nI wr), .int hi9])), (tw, .inr (3, [.ref tsk, .ref tkd, .ref tmo, .ref tlv, .ref ttc, .ref tts, .ref ttl, .int (nI ttn), .int trg, .long thp, .int (nI tlw)])), (tsk, .inl (cM, 4, .inr (.inr (.inr (.inr (rr4 ts0 ts1 ts2 ts3)))))), (ts0, .inl (cI, 14, .inl tR0)), (ts1, .inl (cI, 14, .inl tR1)), (ts2, .inl (cI, 14, .inl tR2)), (ts3, .inl (cI, 14, .inl tR3))] [(0, .ref x), (1, .int (nI j)), (2, .int 0), (3, .int v)] 28 [.int 1]
          refine x_if_ne C dX7_sky_28 (tgt := 34) rfl (fun _ => ?_) (fun q9 => by first | exact absurd q9 (by decide) | exact absurd (by decide) q9)
          refine x_aload_n C dX7_sky_34 0 rfl ?_
          refine x_get C inlX7 rfl 0 (by decide) gw_1_16 dX7_sky_35 0 rfl rfl ?_
          refine x_getN C inlX4 rfl 0 (by decide) nw_X7_100 dX7_sky_38 1 rfl rfl ?_
          refine x_iload_n C dX7_sky_41 2 rfl ?_
          refine x_aaloadA C 1 rfl dX7_sky_42 0 rfl (q_ix (rfl : (0 : Int32) = nI 0) (by decide) (by decide)) 2 rfl rfl ?_
          refine x_iload_n C dX7_sky_43 1 rfl ?_
          refine x_iaload C 0 rfl dX7_sky_44 j (q_cl rfl (by omega)) (q_ix rfl (by omega) (by omega)) 3 rfl ?_
          refine x_istore C dX7_sky_45 (by decide) (lv' := [(4, .int (tR0 j)), (0, .ref x), (1, .int (nI j)), (2, .int 0), (3, .int v)]) rfl ?_
          refine x_aload_n C dX7_sky_47 1 rfl ?_
          show X _ _ _ _ 48 _
          refine x_get C inlX7 rfl 0 (by decide) gw_1_16 dX7_sky_48 0 rfl rfl ?_
          refine x_getN C inlX4 rfl 0 (by decide) nw_X7_100 dX7_sky_51 1 rfl rfl ?_
          refine x_iload_n C dX7_sky_54 3 rfl ?_
          refine x_aaloadA C 1 rfl dX7_sky_55 0 rfl (q_ix (rfl : (0 : Int32) = nI 0) (by decide) (by decide)) 2 rfl rfl ?_
          refine x_iload_n C dX7_sky_56 2 rfl ?_
          refine x_iload_n C dX7_sky_57 4 rfl ?_
          refine x_iastore C 0 rfl dX7_sky_58 j (q_cl rfl (by omega)) (q_ix rfl (by omega) (by omega)) 3 rfl ?_
          show X _ _ [(x, .inr (6, [.ref tw, .ref pw, .ref uw, .ref o, .ref hh, .ref rd, .ref bk, .ref pl, .ref asd, .ref fd, .int (nI wr), .int hi9])), (tw, .inr (3, [.ref tsk, .ref tkd, .ref tmo, .ref tlv, .ref ttc, .ref tts, .ref ttl, .int (nI ttn), .int trg, .long thp, .int (nI tlw)])), (tsk, .inl (cM, 4, .inr (.inr (.inr (.inr (rr4 ts0 ts1 ts2 ts3)))))), (ts0, .inl (cI, 14, .inl (upd tR0 j v))), (ts1, .inl (cI, 14, .inl tR1)), (ts2, .inl (cI, 14, .inl tR2)), (ts3, .inl (cI, 14, .inl tR3))] _ _ _
          refine x_iload C dX7_sky_59 0 rfl ?_
          refine E dX7_sky_61 (rfl) ?_
          exact ⟨(tR0 j), (upd tR0 j v), tR1, tR2, tR3, rfl, rfl, by (unfold o_sky o_sky_k o_pick); (try simp only [hnj]); (repeat (first | rw [if_pos (by first | (rw [if_pos (by decide)]; assumption) | (rw [if_neg (by decide), if_pos (by decide)]; assumption) | (rw [if_neg (by decide), if_neg (by decide)]; assumption) | assumption | decide | omega | exact o_one_t (by assumption) | (rw [o_one_f (by assumption)]; decide) | exact ⟨by assumption, by assumption⟩ | exact fun h9 => absurd h9.1 (by assumption) | exact fun h9 => absurd h9.2 (by assumption))] | rw [if_neg (by first | (rw [if_pos (by decide)]; assumption) | (rw [if_neg (by decide), if_pos (by decide)]; assumption) | (rw [if_neg (by decide), if_neg (by decide)]; assumption) | assumption | decide | omega | exact o_one_t (by assumption) | (rw [o_one_f (by assumption)]; decide) | exact ⟨by assumption, by assumption⟩ | exact fun h9 => absurd h9.1 (by assumption) | exact fun h9 => absurd h9.2 (by assumption))])); all_goals (first | rfl)⟩
        ·
          obtain ⟨rfl, rfl, hf20⟩ := h18
          show X 0 0 [(x, .inr (6, [.ref tw, .ref pw, .ref uw, .ref o, .ref hh, .ref rd, .ref bk, .ref pl, .ref asd, .ref fd, .int (nI wr), .int hi9])), (tw, .inr (3, [.ref tsk, .ref tkd, .ref tmo, .ref tlv, .ref ttc, .ref tts, .ref ttl, .int (nI ttn), .int trg, .long thp, .int (nI tlw)])), (tsk, .inl (cM, 4, .inr (.inr (.inr (.inr (rr4 ts0 ts1 ts2 ts3)))))), (ts0, .inl (cI, 14, .inl tR0)), (ts1, .inl (cI, 14, .inl tR1)), (ts2, .inl (cI, 14, .inl tR2)), (ts3, .inl (cI, 14, .inl tR3))] [(0, .ref x), (1, .int (nI j)), (2, .int 0), (3, .int v)] 28 [.int 0]
          refine x_if_ne C dX7_sky_28 (tgt := 34) rfl (fun q9 => absurd q9 (by decide)) (fun _ => ?_)
          refine x_bipush C dX7_sky_31 (v := (-7)) rfl ?_
          refine E dX7_sky_33 (rfl) ?_
          exact ⟨(-7), tR0, tR1, tR2, tR3, rfl, rfl, by (unfold o_sky o_sky_k o_pick); (try simp only [hnj]); (repeat (first | rw [if_pos (by first | (rw [if_pos (by decide)]; assumption) | (rw [if_neg (by decide), if_pos (by decide)]; assumption) | (rw [if_neg (by decide), if_neg (by decide)]; assumption) | assumption | decide | omega | exact o_one_t (by assumption) | (rw [o_one_f (by assumption)]; decide) | exact ⟨by assumption, by assumption⟩ | exact fun h9 => absurd h9.1 (by assumption) | exact fun h9 => absurd h9.2 (by assumption))] | rw [if_neg (by first | (rw [if_pos (by decide)]; assumption) | (rw [if_neg (by decide), if_pos (by decide)]; assumption) | (rw [if_neg (by decide), if_neg (by decide)]; assumption) | assumption | decide | omega | exact o_one_t (by assumption) | (rw [o_one_f (by assumption)]; decide) | exact ⟨by assumption, by assumption⟩ | exact fun h9 => absurd h9.1 (by assumption) | exact fun h9 => absurd h9.2 (by assumption))])); all_goals (first | rfl)⟩
      ·
        refine x_if_eq C dX7_sky_16 (tgt := 31) rfl (fun q9 => absurd q9 (by decide)) (fun _ => ?_)
        refine x_iload_n C dX7_sky_19 3 rfl ?_
        refine x_iconst C dX7_sky_20 (v := 0) rfl ?_
        refine x_iload_n C dX7_sky_21 2 rfl ?_
        refine x_callS C (As := [.int 1]) (st := [.int 0, .int v]) (wc := []) (wr := [(x, .inr (6, [.ref tw, .ref pw, .ref uw, .ref o, .ref hh, .ref rd, .ref bk, .ref pl, .ref asd, .ref fd, .int (nI wr), .int hi9])), (tw, .inr (3, [.ref tsk, .ref tkd, .ref tmo, .ref tlv, .ref ttc, .ref tts, .ref ttl, .int (nI ttn), .int trg, .long thp, .int (nI tlw)])), (tsk, .inl (cM, 4, .inr (.inr (.inr (.inr (rr4 ts0 ts1 ts2 ts3)))))), (ts0, .inl (cI, 14, .inl tR0)), (ts1, .inl (cI, 14, .inl tR1)), (ts2, .inl (cI, 14, .inl tR2)), (ts3, .inl (cI, 14, .inl tR3))]) (c_X7_mostOfSky l dG cI cM cW cS 1 ) rZ0_ok (fun _ _ _ _ => trivial) kS_X7_96 hy_X7_mostOfSky ⟨Nat.le_of_ble_eq_true rfl, Nat.le_of_ble_eq_true rfl⟩ ⟨Nat.le_of_ble_eq_true rfl, Nat.le_of_ble_eq_true rfl⟩ dX7_sky_22 [] [0, 1, 2, 3, 4, 5, 6] rfl rfl rfl rfl (by decide) rfl (Nat.le_of_ble_eq_true rfl) ?_
        intro v21 w22 h23
        obtain ⟨_, rfl, rfl, rfl⟩ := h23
        show X 0 0 [(x, .inr (6, [.ref tw, .ref pw, .ref uw, .ref o, .ref hh, .ref rd, .ref bk, .ref pl, .ref asd, .ref fd, .int (nI wr), .int hi9])), (tw, .inr (3, [.ref tsk, .ref tkd, .ref tmo, .ref tlv, .ref ttc, .ref tts, .ref ttl, .int (nI ttn), .int trg, .long thp, .int (nI tlw)])), (tsk, .inl (cM, 4, .inr (.inr (.inr (.inr (rr4 ts0 ts1 ts2 ts3)))))), (ts0, .inl (cI, 14, .inl tR0)), (ts1, .inl (cI, 14, .inl tR1)), (ts2, .inl (cI, 14, .inl tR2)), (ts3, .inl (cI, 14, .inl tR3))] [(0, .ref x), (1, .int (nI j)), (2, .int 1), (3, .int v)] 25 [.int (if 1 = 0 then 3 else if 1 = 1 then 9 else 1), .int 0, .int v]
        refine x_callS C (As := [.int v, .int 0, .int (if 1 = 0 then 3 else if 1 = 1 then 9 else 1)]) (st := []) (wc := []) (wr := [(x, .inr (6, [.ref tw, .ref pw, .ref uw, .ref o, .ref hh, .ref rd, .ref bk, .ref pl, .ref asd, .ref fd, .int (nI wr), .int hi9])), (tw, .inr (3, [.ref tsk, .ref tkd, .ref tmo, .ref tlv, .ref ttc, .ref tts, .ref ttl, .int (nI ttn), .int trg, .long thp, .int (nI tlw)])), (tsk, .inl (cM, 4, .inr (.inr (.inr (.inr (rr4 ts0 ts1 ts2 ts3)))))), (ts0, .inl (cI, 14, .inl tR0)), (ts1, .inl (cI, 14, .inl tR1)), (ts2, .inl (cI, 14, .inl tR2)), (ts3, .inl (cI, 14, .inl tR3))]) (c_X7_within l dG cI cM cW cS v 0 (if 1 = 0 then 3 else if 1 = 1 then 9 else 1) ) rZ0_ok (fun _ _ _ _ => trivial) kS_X7_92 hy_X7_within ⟨Nat.le_of_ble_eq_true rfl, Nat.le_of_ble_eq_true rfl⟩ ⟨Nat.le_of_ble_eq_true rfl, Nat.le_of_ble_eq_true rfl⟩ dX7_sky_25 [] [0, 1, 2, 3, 4, 5, 6] rfl rfl rfl rfl (by decide) rfl (Nat.le_of_ble_eq_true rfl) ?_
        intro v26 w27 h28
        rcases h28 with h28 | h28
        ·
          obtain ⟨rfl, rfl, hf29⟩ := h28
          show X 0 0 [(x, .inr (6, [.ref tw, .ref pw, .ref uw, .ref o, .ref hh, .ref rd, .ref bk, .ref pl, .ref asd, .ref fd, .int (nI wr), .int hi9])), (tw, .inr (3, [.ref tsk, .ref tkd, .ref tmo, .ref tlv, .ref ttc, .ref tts, .ref ttl, .int (nI ttn), .int trg, .long thp, .int (nI tlw)])), (tsk, .inl (cM, 4, .inr (.inr (.inr (.inr (rr4 ts0 ts1 ts2 ts3)))))), (ts0, .inl (cI, 14, .inl tR0)), (ts1, .inl (cI, 14, .inl tR1)), (ts2, .inl (cI, 14, .inl tR2)), (ts3, .inl (cI, 14, .inl tR3))] [(0, .ref x), (1, .int (nI j)), (2, .int 1), (3, .int v)] 28 [.int 1]
          refine x_if_ne C dX7_sky_28 (tgt := 34) rfl (fun _ => ?_) (fun q9 => by first | exact absurd q9 (by decide) | exact absurd (by decide) q9)
          refine x_aload_n C dX7_sky_34 0 rfl ?_
          refine x_get C inlX7 rfl 0 (by decide) gw_1_16 dX7_sky_35 0 rfl rfl ?_
          refine x_getN C inlX4 rfl 0 (by decide) nw_X7_100 dX7_sky_38 1 rfl rfl ?_
          refine x_iload_n C dX7_sky_41 2 rfl ?_
          refine x_aaloadA C 1 rfl dX7_sky_42 1 rfl (q_ix (rfl : (1 : Int32) = nI 1) (by decide) (by decide)) 2 rfl rfl ?_
          refine x_iload_n C dX7_sky_43 1 rfl ?_
          refine x_iaload C 0 rfl dX7_sky_44 j (q_cl rfl (by omega)) (q_ix rfl (by omega) (by omega)) 4 rfl ?_
          refine x_istore C dX7_sky_45 (by decide) (lv' := [(4, .int (tR1 j)), (0, .ref x), (1, .int (nI j)), (2, .int 1), (3, .int v)]) rfl ?_
          refine x_aload_n C dX7_sky_47 1 rfl ?_
          show X _ _ _ _ 48 _
          refine x_get C inlX7 rfl 0 (by decide) gw_1_16 dX7_sky_48 0 rfl rfl ?_
          refine x_getN C inlX4 rfl 0 (by decide) nw_X7_100 dX7_sky_51 1 rfl rfl ?_
          refine x_iload_n C dX7_sky_54 3 rfl ?_
          refine x_aaloadA C 1 rfl dX7_sky_55 1 rfl (q_ix (rfl : (1 : Int32) = nI 1) (by decide) (by decide)) 2 rfl rfl ?_
          refine x_iload_n C dX7_sky_56 2 rfl ?_
          refine x_iload_n C dX7_sky_57 4 rfl ?_
          refine x_iastore C 0 rfl dX7_sky_58 j (q_cl rfl (by omega)) (q_ix rfl (by omega) (by omega)) 4 rfl ?_
          show X _ _ [(x, .inr (6, [.ref tw, .ref pw, .ref uw, .ref o, .ref hh, .ref rd, .ref bk, .ref pl, .ref asd, .ref fd, .int (nI wr), .int hi9])), (tw, .inr (3, [.ref tsk, .ref tkd, .ref tmo, .ref tlv, .ref ttc, .ref tts, .ref ttl, .int (nI ttn), .int trg, .long thp, .int (nI tlw)])), (tsk, .inl (cM, 4, .inr (.inr (.inr (.inr (rr4 ts0 ts1 ts2 ts3)))))), (ts0, .inl (cI, 14, .inl tR0)), (ts1, .inl (cI, 14, .inl (upd tR1 j v))), (ts2, .inl (cI, 14, .inl tR2)), (ts3, .inl (cI, 14, .inl tR3))] _ _ _
          refine x_iload C dX7_sky_59 0 rfl ?_
          refine E dX7_sky_61 (rfl) ?_
          exact ⟨(tR1 j), tR0, (upd tR1 j v), tR2, tR3, rfl, rfl, by (unfold o_sky o_sky_k o_pick); (try simp only [hnj]); (repeat (first | rw [if_pos (by first | (rw [if_pos (by decide)]; assumption) | (rw [if_neg (by decide), if_pos (by decide)]; assumption) | (rw [if_neg (by decide), if_neg (by decide)]; assumption) | assumption | decide | omega | exact o_one_t (by assumption) | (rw [o_one_f (by assumption)]; decide) | exact ⟨by assumption, by assumption⟩ | exact fun h9 => absurd h9.1 (by assumption) | exact fun h9 => absurd h9.2 (by assumption))] | rw [if_neg (by first | (rw [if_pos (by decide)]; assumption) | (rw [if_neg (by decide), if_pos (by decide)]; assumption) | (rw [if_neg (by decide), if_neg (by decide)]; assumption) | assumption | decide | omega | exact o_one_t (by assumption) | (rw [o_one_f (by assumption)]; decide) | exact ⟨by assumption, by assumption⟩ | exact fun h9 => absurd h9.1 (by assumption) | exact fun h9 => absurd h9.2 (by assumption))])); all_goals (first | rfl)⟩
        ·
          obtain ⟨rfl, rfl, hf30⟩ := h28
          show X 0 0 [(x, .inr (6, [.ref tw, .ref pw, .ref uw, .ref o, .ref hh, .ref rd, .ref bk, .ref pl, .ref asd, .ref fd, .int (nI wr), .int hi9])), (tw, .inr (3, [.ref tsk, .ref tkd, .ref tmo, .ref tlv, .ref ttc, .ref tts, .ref ttl, .int (nI ttn), .int trg, .long thp, .int (nI tlw)])), (tsk, .inl (cM, 4, .inr (.inr (.inr (.inr (rr4 ts0 ts1 ts2 ts3)))))), (ts0, .inl (cI, 14, .inl tR0)), (ts1, .inl (cI, 14, .inl tR1)), (ts2, .inl (cI, 14, .inl tR2)), (ts3, .inl (cI, 14, .inl tR3))] [(0, .ref x), (1, .int (nI j)), (2, .int 1), (3, .int v)] 28 [.int 0]
          refine x_if_ne C dX7_sky_28 (tgt := 34) rfl (fun q9 => absurd q9 (by decide)) (fun _ => ?_)
          refine x_bipush C dX7_sky_31 (v := (-7)) rfl ?_
          refine E dX7_sky_33 (rfl) ?_
          exact ⟨(-7), tR0, tR1, tR2, tR3, rfl, rfl, by (unfold o_sky o_sky_k o_pick); (try simp only [hnj]); (repeat (first | rw [if_pos (by first | (rw [if_pos (by decide)]; assumption) | (rw [if_neg (by decide), if_pos (by decide)]; assumption) | (rw [if_neg (by decide), if_neg (by decide)]; assumption) | assumption | decide | omega | exact o_one_t (by assumption) | (rw [o_one_f (by assumption)]; decide) | exact ⟨by assumption, by assumption⟩ | exact fun h9 => absurd h9.1 (by assumption) | exact fun h9 => absurd h9.2 (by assumption))] | rw [if_neg (by first | (rw [if_pos (by decide)]; assumption) | (rw [if_neg (by decide), if_pos (by decide)]; assumption) | (rw [if_neg (by decide), if_neg (by decide)]; assumption) | assumption | decide | omega | exact o_one_t (by assumption) | (rw [o_one_f (by assumption)]; decide) | exact ⟨by assumption, by assumption⟩ | exact fun h9 => absurd h9.1 (by assumption) | exact fun h9 => absurd h9.2 (by assumption))])); all_goals (first | rfl)⟩
      ·
        refine x_if_eq C dX7_sky_16 (tgt := 31) rfl (fun q9 => absurd q9 (by decide)) (fun _ => ?_)
        refine x_iload_n C dX7_sky_19 3 rfl ?_
        refine x_iconst C dX7_sky_20 (v := 0) rfl ?_
        refine x_iload_n C dX7_sky_21 2 rfl ?_
        refine x_callS C (As := [.int 2]) (st := [.int 0, .int v]) (wc := []) (wr := [(x, .inr (6, [.ref tw, .ref pw, .ref uw, .ref o, .ref hh, .ref rd, .ref bk, .ref pl, .ref asd, .ref fd, .int (nI wr), .int hi9])), (tw, .inr (3, [.ref tsk, .ref tkd, .ref tmo, .ref tlv, .ref ttc, .ref tts, .ref ttl, .int (nI ttn), .int trg, .long thp, .int (nI tlw)])), (tsk, .inl (cM, 4, .inr (.inr (.inr (.inr (rr4 ts0 ts1 ts2 ts3)))))), (ts0, .inl (cI, 14, .inl tR0)), (ts1, .inl (cI, 14, .inl tR1)), (ts2, .inl (cI, 14, .inl tR2)), (ts3, .inl (cI, 14, .inl tR3))]) (c_X7_mostOfSky l dG cI cM cW cS 2 ) rZ0_ok (fun _ _ _ _ => trivial) kS_X7_96 hy_X7_mostOfSky ⟨Nat.le_of_ble_eq_true rfl, Nat.le_of_ble_eq_true rfl⟩ ⟨Nat.le_of_ble_eq_true rfl, Nat.le_of_ble_eq_true rfl⟩ dX7_sky_22 [] [0, 1, 2, 3, 4, 5, 6] rfl rfl rfl rfl (by decide) rfl (Nat.le_of_ble_eq_true rfl) ?_
        intro v31 w32 h33
        obtain ⟨_, rfl, rfl, rfl⟩ := h33
        show X 0 0 [(x, .inr (6, [.ref tw, .ref pw, .ref uw, .ref o, .ref hh, .ref rd, .ref bk, .ref pl, .ref asd, .ref fd, .int (nI wr), .int hi9])), (tw, .inr (3, [.ref tsk, .ref tkd, .ref tmo, .ref tlv, .ref ttc, .ref tts, .ref ttl, .int (nI ttn), .int trg, .long thp, .int (nI tlw)])), (tsk, .inl (cM, 4, .inr (.inr (.inr (.inr (rr4 ts0 ts1 ts2 ts3)))))), (ts0, .inl (cI, 14, .inl tR0)), (ts1, .inl (cI, 14, .inl tR1)), (ts2, .inl (cI, 14, .inl tR2)), (ts3, .inl (cI, 14, .inl tR3))] [(0, .ref x), (1, .int (nI j)), (2, .int 2), (3, .int v)] 25 [.int (if 2 = 0 then 3 else if 2 = 1 then 9 else 1), .int 0, .int v]
        refine x_callS C (As := [.int v, .int 0, .int (if 2 = 0 then 3 else if 2 = 1 then 9 else 1)]) (st := []) (wc := []) (wr := [(x, .inr (6, [.ref tw, .ref pw, .ref uw, .ref o, .ref hh, .ref rd, .ref bk, .ref pl, .ref asd, .ref fd, .int (nI wr), .int hi9])), (tw, .inr (3, [.ref tsk, .ref tkd, .ref tmo, .ref tlv, .ref ttc, .ref tts, .ref ttl, .int (nI ttn), .int trg, .long thp, .int (nI tlw)])), (tsk, .inl (cM, 4, .inr (.inr (.inr (.inr (rr4 ts0 ts1 ts2 ts3)))))), (ts0, .inl (cI, 14, .inl tR0)), (ts1, .inl (cI, 14, .inl tR1)), (ts2, .inl (cI, 14, .inl tR2)), (ts3, .inl (cI, 14, .inl tR3))]) (c_X7_within l dG cI cM cW cS v 0 (if 2 = 0 then 3 else if 2 = 1 then 9 else 1) ) rZ0_ok (fun _ _ _ _ => trivial) kS_X7_92 hy_X7_within ⟨Nat.le_of_ble_eq_true rfl, Nat.le_of_ble_eq_true rfl⟩ ⟨Nat.le_of_ble_eq_true rfl, Nat.le_of_ble_eq_true rfl⟩ dX7_sky_25 [] [0, 1, 2, 3, 4, 5, 6] rfl rfl rfl rfl (by decide) rfl (Nat.le_of_ble_eq_true rfl) ?_
        intro v36 w37 h38
        rcases h38 with h38 | h38
        ·
          obtain ⟨rfl, rfl, hf39⟩ := h38
          show X 0 0 [(x, .inr (6, [.ref tw, .ref pw, .ref uw, .ref o, .ref hh, .ref rd, .ref bk, .ref pl, .ref asd, .ref fd, .int (nI wr), .int hi9])), (tw, .inr (3, [.ref tsk, .ref tkd, .ref tmo, .ref tlv, .ref ttc, .ref tts, .ref ttl, .int (nI ttn), .int trg, .long thp, .int (nI tlw)])), (tsk, .inl (cM, 4, .inr (.inr (.inr (.inr (rr4 ts0 ts1 ts2 ts3)))))), (ts0, .inl (cI, 14, .inl tR0)), (ts1, .inl (cI, 14, .inl tR1)), (ts2, .inl (cI, 14, .inl tR2)), (ts3, .inl (cI, 14, .inl tR3))] [(0, .ref x), (1, .int (nI j)), (2, .int 2), (3, .int v)] 28 [.int 1]
          refine x_if_ne C dX7_sky_28 (tgt := 34) rfl (fun _ => ?_) (fun q9 => by first | exact absurd q9 (by decide) | exact absurd (by decide) q9)
          refine x_aload_n C dX7_sky_34 0 rfl ?_
          refine x_get C inlX7 rfl 0 (by decide) gw_1_16 dX7_sky_35 0 rfl rfl ?_
          refine x_getN C inlX4 rfl 0 (by decide) nw_X7_100 dX7_sky_38 1 rfl rfl ?_
          refine x_iload_n C dX7_sky_41 2 rfl ?_
          refine x_aaloadA C 1 rfl dX7_sky_42 2 rfl (q_ix (rfl : (2 : Int32) = nI 2) (by decide) (by decide)) 2 rfl rfl ?_
          refine x_iload_n C dX7_sky_43 1 rfl ?_
          refine x_iaload C 0 rfl dX7_sky_44 j (q_cl rfl (by omega)) (q_ix rfl (by omega) (by omega)) 5 rfl ?_
          refine x_istore C dX7_sky_45 (by decide) (lv' := [(4, .int (tR2 j)), (0, .ref x), (1, .int (nI j)), (2, .int 2), (3, .int v)]) rfl ?_
          refine x_aload_n C dX7_sky_47 1 rfl ?_
          show X _ _ _ _ 48 _
          refine x_get C inlX7 rfl 0 (by decide) gw_1_16 dX7_sky_48 0 rfl rfl ?_
          refine x_getN C inlX4 rfl 0 (by decide) nw_X7_100 dX7_sky_51 1 rfl rfl ?_
          refine x_iload_n C dX7_sky_54 3 rfl ?_
          refine x_aaloadA C 1 rfl dX7_sky_55 2 rfl (q_ix (rfl : (2 : Int32) = nI 2) (by decide) (by decide)) 2 rfl rfl ?_
          refine x_iload_n C dX7_sky_56 2 rfl ?_
          refine x_iload_n C dX7_sky_57 4 rfl ?_
          refine x_iastore C 0 rfl dX7_sky_58 j (q_cl rfl (by omega)) (q_ix rfl (by omega) (by omega)) 5 rfl ?_
          show X _ _ [(x, .inr (6, [.ref tw, .ref pw, .ref uw, .ref o, .ref hh, .ref rd, .ref bk, .ref pl, .ref asd, .ref fd, .int (nI wr), .int hi9])), (tw, .inr (3, [.ref tsk, .ref tkd, .ref tmo, .ref tlv, .ref ttc, .ref tts, .ref ttl, .int (nI ttn), .int trg, .long thp, .int (nI tlw)])), (tsk, .inl (cM, 4, .inr (.inr (.inr (.inr (rr4 ts0 ts1 ts2 ts3)))))), (ts0, .inl (cI, 14, .inl tR0)), (ts1, .inl (cI, 14, .inl tR1)), (ts2, .inl (cI, 14, .inl (upd tR2 j v))), (ts3, .inl (cI, 14, .inl tR3))] _ _ _
          refine x_iload C dX7_sky_59 0 rfl ?_
          refine E dX7_sky_61 (rfl) ?_
          exact ⟨(tR2 j), tR0, tR1, (upd tR2 j v), tR3, rfl, rfl, by (unfold o_sky o_sky_k o_pick); (try simp only [hnj]); (repeat (first | rw [if_pos (by first | (rw [if_pos (by decide)]; assumption) | (rw [if_neg (by decide), if_pos (by decide)]; assumption) | (rw [if_neg (by decide), if_neg (by decide)]; assumption) | assumption | decide | omega | exact o_one_t (by assumption) | (rw [o_one_f (by assumption)]; decide) | exact ⟨by assumption, by assumption⟩ | exact fun h9 => absurd h9.1 (by assumption) | exact fun h9 => absurd h9.2 (by assumption))] | rw [if_neg (by first | (rw [if_pos (by decide)]; assumption) | (rw [if_neg (by decide), if_pos (by decide)]; assumption) | (rw [if_neg (by decide), if_neg (by decide)]; assumption) | assumption | decide | omega | exact o_one_t (by assumption) | (rw [o_one_f (by assumption)]; decide) | exact ⟨by assumption, by assumption⟩ | exact fun h9 => absurd h9.1 (by assumption) | exact fun h9 => absurd h9.2 (by assumption))])); all_goals (first | rfl)⟩
        ·
          obtain ⟨rfl, rfl, hf40⟩ := h38
          show X 0 0 [(x, .inr (6, [.ref tw, .ref pw, .ref uw, .ref o, .ref hh, .ref rd, .ref bk, .ref pl, .ref asd, .ref fd, .int (nI wr), .int hi9])), (tw, .inr (3, [.ref tsk, .ref tkd, .ref tmo, .ref tlv, .ref ttc, .ref tts, .ref ttl, .int (nI ttn), .int trg, .long thp, .int (nI tlw)])), (tsk, .inl (cM, 4, .inr (.inr (.inr (.inr (rr4 ts0 ts1 ts2 ts3)))))), (ts0, .inl (cI, 14, .inl tR0)), (ts1, .inl (cI, 14, .inl tR1)), (ts2, .inl (cI, 14, .inl tR2)), (ts3, .inl (cI, 14, .inl tR3))] [(0, .ref x), (1, .int (nI j)), (2, .int 2), (3, .int v)] 28 [.int 0]
          refine x_if_ne C dX7_sky_28 (tgt := 34) rfl (fun q9 => absurd q9 (by decide)) (fun _ => ?_)
          refine x_bipush C dX7_sky_31 (v := (-7)) rfl ?_
          refine E dX7_sky_33 (rfl) ?_
          exact ⟨(-7), tR0, tR1, tR2, tR3, rfl, rfl, by (unfold o_sky o_sky_k o_pick); (try simp only [hnj]); (repeat (first | rw [if_pos (by first | (rw [if_pos (by decide)]; assumption) | (rw [if_neg (by decide), if_pos (by decide)]; assumption) | (rw [if_neg (by decide), if_neg (by decide)]; assumption) | assumption | decide | omega | exact o_one_t (by assumption) | (rw [o_one_f (by assumption)]; decide) | exact ⟨by assumption, by assumption⟩ | exact fun h9 => absurd h9.1 (by assumption) | exact fun h9 => absurd h9.2 (by assumption))] | rw [if_neg (by first | (rw [if_pos (by decide)]; assumption) | (rw [if_neg (by decide), if_pos (by decide)]; assumption) | (rw [if_neg (by decide), if_neg (by decide)]; assumption) | assumption | decide | omega | exact o_one_t (by assumption) | (rw [o_one_f (by assumption)]; decide) | exact ⟨by assumption, by assumption⟩ | exact fun h9 => absurd h9.1 (by assumption) | exact fun h9 => absurd h9.2 (by assumption))])); all_goals (first | rfl)⟩
      ·
        refine x_if_eq C dX7_sky_16 (tgt := 31) rfl (fun q9 => absurd q9 (by decide)) (fun _ => ?_)
        refine x_iload_n C dX7_sky_19 3 rfl ?_
        refine x_iconst C dX7_sky_20 (v := 0) rfl ?_
        refine x_iload_n C dX7_sky_21 2 rfl ?_
        refine x_callS C (As := [.int 3]) (st := [.int 0, .int v]) (wc := []) (wr := [(x, .inr (6, [.ref tw, .ref pw, .ref uw, .ref o, .ref hh, .ref rd, .ref bk, .ref pl, .ref asd, .ref fd, .int (nI wr), .int hi9])), (tw, .inr (3, [.ref tsk, .ref tkd, .ref tmo, .ref tlv, .ref ttc, .ref tts, .ref ttl, .int (nI ttn), .int trg, .long thp, .int (nI tlw)])), (tsk, .inl (cM, 4, .inr (.inr (.inr (.inr (rr4 ts0 ts1 ts2 ts3)))))), (ts0, .inl (cI, 14, .inl tR0)), (ts1, .inl (cI, 14, .inl tR1)), (ts2, .inl (cI, 14, .inl tR2)), (ts3, .inl (cI, 14, .inl tR3))]) (c_X7_mostOfSky l dG cI cM cW cS 3 ) rZ0_ok (fun _ _ _ _ => trivial) kS_X7_96 hy_X7_mostOfSky ⟨Nat.le_of_ble_eq_true rfl, Nat.le_of_ble_eq_true rfl⟩ ⟨Nat.le_of_ble_eq_true rfl, Nat.le_of_ble_eq_true rfl⟩ dX7_sky_22 [] [0, 1, 2, 3, 4, 5, 6] rfl rfl rfl rfl (by decide) rfl (Nat.le_of_ble_eq_true rfl) ?_
        intro v41 w42 h43
        obtain ⟨_, rfl, rfl, rfl⟩ := h43
        show X 0 0 [(x, .inr (6, [.ref tw, .ref pw, .ref uw, .ref o, .ref hh, .ref rd, .ref bk, .ref pl, .ref asd, .ref fd, .int (nI wr), .int hi9])), (tw, .inr (3, [.ref tsk, .ref tkd, .ref tmo, .ref tlv, .ref ttc, .ref tts, .ref ttl, .int (nI ttn), .int trg, .long thp, .int (nI tlw)])), (tsk, .inl (cM, 4, .inr (.inr (.inr (.inr (rr4 ts0 ts1 ts2 ts3)))))), (ts0, .inl (cI, 14, .inl tR0)), (ts1, .inl (cI, 14, .inl tR1)), (ts2, .inl (cI, 14, .inl tR2)), (ts3, .inl (cI, 14, .inl tR3))] [(0, .ref x), (1, .int (nI j)), (2, .int 3), (3, .int v)] 25 [.int (if 3 = 0 then 3 else if 3 = 1 then 9 else 1), .int 0, .int v]
        refine x_callS C (As := [.int v, .int 0, .int (if 3 = 0 then 3 else if 3 = 1 then 9 else 1)]) (st := []) (wc := []) (wr := [(x, .inr (6, [.ref tw, .ref pw, .ref uw, .ref o, .ref hh, .ref rd, .ref bk, .ref pl, .ref asd, .ref fd, .int (nI wr), .int hi9])), (tw, .inr (3, [.ref tsk, .ref tkd, .ref tmo, .ref tlv, .ref ttc, .ref tts, .ref ttl, .int (nI ttn), .int trg, .long thp, .int (nI tlw)])), (tsk, .inl (cM, 4, .inr (.inr (.inr (.inr (rr4 ts0 ts1 ts2 ts3)))))), (ts0, .inl (cI, 14, .inl tR0)), (ts1, .inl (cI, 14, .inl tR1)), (ts2, .inl (cI, 14, .inl tR2)), (ts3, .inl (cI, 14, .inl tR3))]) (c_X7_within l dG cI cM cW cS v 0 (if 3 = 0 then 3 else if 3 = 1 then 9 else 1) ) rZ0_ok (fun _ _ _ _ => trivial) kS_X7_92 hy_X7_within ⟨Nat.le_of_ble_eq_true rfl, Nat.le_of_ble_eq_true rfl⟩ ⟨Nat.le_of_ble_eq_true rfl, Nat.le_of_ble_eq_true rfl⟩ dX7_sky_25 [] [0, 1, 2, 3, 4, 5, 6] rfl rfl rfl rfl (by decide) rfl (Nat.le_of_ble_eq_true rfl) ?_
        intro v46 w47 h48
        rcases h48 with h48 | h48
        ·
          obtain ⟨rfl, rfl, hf49⟩ := h48
          show X 0 0 [(x, .inr (6, [.ref tw, .ref pw, .ref uw, .ref o, .ref hh, .ref rd, .ref bk, .ref pl, .ref asd, .ref fd, .int (nI wr), .int hi9])), (tw, .inr (3, [.ref tsk, .ref tkd, .ref tmo, .ref tlv, .ref ttc, .ref tts, .ref ttl, .int (nI ttn), .int trg, .long thp, .int (nI tlw)])), (tsk, .inl (cM, 4, .inr (.inr (.inr (.inr (rr4 ts0 ts1 ts2 ts3)))))), (ts0, .inl (cI, 14, .inl tR0)), (ts1, .inl (cI, 14, .inl tR1)), (ts2, .inl (cI, 14, .inl tR2)), (ts3, .inl (cI, 14, .inl tR3))] [(0, .ref x), (1, .int (nI j)), (2, .int 3), (3, .int v)] 28 [.int 1]
          refine x_if_ne C dX7_sky_28 (tgt := 34) rfl (fun _ => ?_) (fun q9 => by first | exact absurd q9 (by decide) | exact absurd (by decide) q9)
          refine x_aload_n C dX7_sky_34 0 rfl ?_
          refine x_get C inlX7 rfl 0 (by decide) gw_1_16 dX7_sky_35 0 rfl rfl ?_
          refine x_getN C inlX4 rfl 0 (by decide) nw_X7_100 dX7_sky_38 1 rfl rfl ?_
          refine x_iload_n C dX7_sky_41 2 rfl ?_
          refine x_aaloadA C 1 rfl dX7_sky_42 3 rfl (q_ix (rfl : (3 : Int32) = nI 3) (by decide) (by decide)) 2 rfl rfl ?_
          refine x_iload_n C dX7_sky_43 1 rfl ?_
          refine x_iaload C 0 rfl dX7_sky_44 j (q_cl rfl (by omega)) (q_ix rfl (by omega) (by omega)) 6 rfl ?_
          refine x_istore C dX7_sky_45 (by decide) (lv' := [(4, .int (tR3 j)), (0, .ref x), (1, .int (nI j)), (2, .int 3), (3, .int v)]) rfl ?_
          refine x_aload_n C dX7_sky_47 1 rfl ?_
          show X _ _ _ _ 48 _
          refine x_get C inlX7 rfl 0 (by decide) gw_1_16 dX7_sky_48 0 rfl rfl ?_
          refine x_getN C inlX4 rfl 0 (by decide) nw_X7_100 dX7_sky_51 1 rfl rfl ?_
          refine x_iload_n C dX7_sky_54 3 rfl ?_
          refine x_aaloadA C 1 rfl dX7_sky_55 3 rfl (q_ix (rfl : (3 : Int32) = nI 3) (by decide) (by decide)) 2 rfl rfl ?_
          refine x_iload_n C dX7_sky_56 2 rfl ?_
          refine x_iload_n C dX7_sky_57 4 rfl ?_
          refine x_iastore C 0 rfl dX7_sky_58 j (q_cl rfl (by omega)) (q_ix rfl (by omega) (by omega)) 6 rfl ?_
          show X _ _ [(x, .inr (6, [.ref tw, .ref pw, .ref uw, .ref o, .ref hh, .ref rd, .ref bk, .ref pl, .ref asd, .ref fd, .int (nI wr), .int hi9])), (tw, .inr (3, [.ref tsk, .ref tkd, .ref tmo, .ref tlv, .ref ttc, .ref tts, .ref ttl, .int (nI ttn), .int trg, .long thp, .int (nI tlw)])), (tsk, .inl (cM, 4, .inr (.inr (.inr (.inr (rr4 ts0 ts1 ts2 ts3)))))), (ts0, .inl (cI, 14, .inl tR0)), (ts1, .inl (cI, 14, .inl tR1)), (ts2, .inl (cI, 14, .inl tR2)), (ts3, .inl (cI, 14, .inl (upd tR3 j v)))] _ _ _
          refine x_iload C dX7_sky_59 0 rfl ?_
          refine E dX7_sky_61 (rfl) ?_
          exact ⟨(tR3 j), tR0, tR1, tR2, (upd tR3 j v), rfl, rfl, by (unfold o_sky o_sky_k o_pick); (try simp only [hnj]); (repeat (first | rw [if_pos (by first | (rw [if_pos (by decide)]; assumption) | (rw [if_neg (by decide), if_pos (by decide)]; assumption) | (rw [if_neg (by decide), if_neg (by decide)]; assumption) | assumption | decide | omega | exact o_one_t (by assumption) | (rw [o_one_f (by assumption)]; decide) | exact ⟨by assumption, by assumption⟩ | exact fun h9 => absurd h9.1 (by assumption) | exact fun h9 => absurd h9.2 (by assumption))] | rw [if_neg (by first | (rw [if_pos (by decide)]; assumption) | (rw [if_neg (by decide), if_pos (by decide)]; assumption) | (rw [if_neg (by decide), if_neg (by decide)]; assumption) | assumption | decide | omega | exact o_one_t (by assumption) | (rw [o_one_f (by assumption)]; decide) | exact ⟨by assumption, by assumption⟩ | exact fun h9 => absurd h9.1 (by assumption) | exact fun h9 => absurd h9.2 (by assumption))])); all_goals (first | rfl)⟩
        ·
          obtain ⟨rfl, rfl, hf50⟩ := h48
          show X 0 0 [(x, .inr (6, [.ref tw, .ref pw, .ref uw, .ref o, .ref hh, .ref rd, .ref bk, .ref pl, .ref asd, .ref fd, .int (nI wr), .int hi9])), (tw, .inr (3, [.ref tsk, .ref tkd, .ref tmo, .ref tlv, .ref ttc, .ref tts, .ref ttl, .int (nI ttn), .int trg, .long thp, .int (nI tlw)])), (tsk, .inl (cM, 4, .inr (.inr (.inr (.inr (rr4 ts0 ts1 ts2 ts3)))))), (ts0, .inl (cI, 14, .inl tR0)), (ts1, .inl (cI, 14, .inl tR1)), (ts2, .inl (cI, 14, .inl tR2)), (ts3, .inl (cI, 14, .inl tR3))] [(0, .ref x), (1, .int (nI j)), (2, .int 3), (3, .int v)] 28 [.int 0]
          refine x_if_ne C dX7_sky_28 (tgt := 34) rfl (fun q9 => absurd q9 (by decide)) (fun _ => ?_)
          refine x_bipush C dX7_sky_31 (v := (-7)) rfl ?_
          refine E dX7_sky_33 (rfl) ?_
          exact ⟨(-7), tR0, tR1, tR2, tR3, rfl, rfl, by (unfold o_sky o_sky_k o_pick); (try simp only [hnj]); (repeat (first | rw [if_pos (by first | (rw [if_pos (by decide)]; assumption) | (rw [if_neg (by decide), if_pos (by decide)]; assumption) | (rw [if_neg (by decide), if_neg (by decide)]; assumption) | assumption | decide | omega | exact o_one_t (by assumption) | (rw [o_one_f (by assumption)]; decide) | exact ⟨by assumption, by assumption⟩ | exact fun h9 => absurd h9.1 (by assumption) | exact fun h9 => absurd h9.2 (by assumption))] | rw [if_neg (by first | (rw [if_pos (by decide)]; assumption) | (rw [if_neg (by decide), if_pos (by decide)]; assumption) | (rw [if_neg (by decide), if_neg (by decide)]; assumption) | assumption | decide | omega | exact o_one_t (by assumption) | (rw [o_one_f (by assumption)]; decide) | exact ⟨by assumption, by assumption⟩ | exact fun h9 => absurd h9.1 (by assumption) | exact fun h9 => absurd h9.2 (by assumption))])); all_goals (first | rfl)⟩
    ·
      obtain ⟨rfl, rfl, hf51⟩ := h8
      show X 0 0 [(x, .inr (6, [.ref tw, .ref pw, .ref uw, .ref o, .ref hh, .ref rd, .ref bk, .ref pl, .ref asd, .ref fd, .int (nI wr), .int hi9])), (tw, .inr (3, [.ref tsk, .ref tkd, .ref tmo, .ref tlv, .ref ttc, .ref tts, .ref ttl, .int (nI ttn), .int trg, .long thp, .int (nI tlw)])), (tsk, .inl (cM, 4, .inr (.inr (.inr (.inr (rr4 ts0 ts1 ts2 ts3)))))), (ts0, .inl (cI, 14, .inl tR0)), (ts1, .inl (cI, 14, .inl tR1)), (ts2, .inl (cI, 14, .inl tR2)), (ts3, .inl (cI, 14, .inl tR3))] [(0, .ref x), (1, .int (nI j)), (2, .int wh), (3, .int v)] 16 [.int 0]
      refine x_if_eq C dX7_sky_16 (tgt := 31) rfl (fun _ => ?_) (fun q9 => by first | exact absurd q9 (by decide) | exact absurd (by decide) q9)
      refine x_bipush C dX7_sky_31 (v := (-7)) rfl ?_
      refine E dX7_sky_33 (rfl) ?_
      exact ⟨(-7), tR0, tR1, tR2, tR3, rfl, rfl, by (unfold o_sky o_sky_k o_pick); (try simp only [hnj]); (repeat (first | rw [if_pos (by first | (rw [if_pos (by decide)]; assumption) | (rw [if_neg (by decide), if_pos (by decide)]; assumption) | (rw [if_neg (by decide), if_neg (by decide)]; assumption) | assumption | decide | omega | exact o_one_t (by assumption) | (rw [o_one_f (by assumption)]; decide) | exact ⟨by assumption, by assumption⟩ | exact fun h9 => absurd h9.1 (by assumption) | exact fun h9 => absurd h9.2 (by assumption))] | rw [if_neg (by first | (rw [if_pos (by decide)]; assumption) | (rw [if_neg (by decide), if_pos (by decide)]; assumption) | (rw [if_neg (by decide), if_neg (by decide)]; assumption) | assumption | decide | omega | exact o_one_t (by assumption) | (rw [o_one_f (by assumption)]; decide) | exact ⟨by assumption, by assumption⟩ | exact fun h9 => absurd h9.1 (by assumption) | exact fun h9 => absurd h9.2 (by assumption))])); all_goals (first | rfl)⟩
  ·
    obtain ⟨rfl, rfl, hf52⟩ := h3
    show X 0 0 [(x, .inr (6, [.ref tw, .ref pw, .ref uw, .ref o, .ref hh, .ref rd, .ref bk, .ref pl, .ref asd, .ref fd, .int (nI wr), .int hi9])), (tw, .inr (3, [.ref tsk, .ref tkd, .ref tmo, .ref tlv, .ref ttc, .ref tts, .ref ttl, .int (nI ttn), .int trg, .long thp, .int (nI tlw)])), (tsk, .inl (cM, 4, .inr (.inr (.inr (.inr (rr4 ts0 ts1 ts2 ts3)))))), (ts0, .inl (cI, 14, .inl tR0)), (ts1, .inl (cI, 14, .inl tR1)), (ts2, .inl (cI, 14, .inl tR2)), (ts3, .inl (cI, 14, .inl tR3))] [(0, .ref x), (1, .int d), (2, .int wh), (3, .int v)] 4 [.int 0]
    refine x_if_ne C dX7_sky_4 (tgt := 10) rfl (fun q9 => absurd q9 (by decide)) (fun _ => ?_)
    refine x_bipush C dX7_sky_7 (v := (-5)) rfl ?_
    refine E dX7_sky_9 (rfl) ?_
    exact ⟨(-5), tR0, tR1, tR2, tR3, rfl, rfl, by (unfold o_sky o_sky_k o_pick); (repeat (first | rw [if_pos (by first | (rw [if_pos (by decide)]; assumption) | (rw [if_neg (by decide), if_pos (by decide)]; assumption) | (rw [if_neg (by decide), if_neg (by decide)]; assumption) | assumption | decide | omega | exact o_one_t (by assumption) | (rw [o_one_f (by assumption)]; decide) | exact ⟨by assumption, by assumption⟩ | exact fun h9 => absurd h9.1 (by assumption) | exact fun h9 => absurd h9.2 (by assumption))] | rw [if_neg (by first | (rw [if_pos (by decide)]; assumption) | (rw [if_neg (by decide), if_pos (by decide)]; assumption) | (rw [if_neg (by decide), if_neg (by decide)]; assumption) | assumption | decide | omega | exact o_one_t (by assumption) | (rw [o_one_f (by assumption)]; decide) | exact ⟨by assumption, by assumption⟩ | exact fun h9 => absurd h9.1 (by assumption) | exact fun h9 => absurd h9.2 (by assumption))])); all_goals (first | rfl)⟩
set_option maxHeartbeats 4000000 in
set_option maxRecDepth 100000 in
theorem c_X7_skyTold (l : Launch) (dG : va_G) (cI cM cW cS : ClassId) (x pw uw o hh rd bk pl asd fd : Nat) (wr : Nat) (hi9 : Int32) (tw tsk tkd tmo tlv ttc tts ttl ts0 ts1 ts2 ts3 : Nat) (ttn tlw : Nat) (trg : Int32) (thp : Int64) (tR0 tR1 tR2 tR3 tkf tmf tlf tcf tsf ttf : Nat → Int32) (d wh : Int32) : rM l yX7_skyTold cX7_skyTold 3 (some .int) ({ frames := 2, cells := 0, slots := 0, locals := 42 } : Room) dG (tY cI cM cW cS) rZ0 [.ref x, .int d, .int wh] [(x, .inr (6, [.ref tw, .ref pw, .ref uw, .ref o, .ref hh, .ref rd, .ref bk, .ref pl, .ref asd, .ref fd, .int (nI wr), .int hi9])), (tw, .inr (3, [.ref tsk, .ref tkd, .ref tmo, .ref tlv, .ref ttc, .ref tts, .ref ttl, .int (nI ttn), .int trg, .long thp, .int (nI tlw)])), (tsk, .inl (cM, 4, .inr (.inr (.inr (.inr (rr4 ts0 ts1 ts2 ts3)))))), (ts0, .inl (cI, 14, .inl tR0)), (ts1, .inl (cI, 14, .inl tR1)), (ts2, .inl (cI, 14, .inl tR2)), (ts3, .inl (cI, 14, .inl tR3))] (fun ov oz => ∃ (r : Int32), ov = some (.int r) ∧ oz = [(x, .inr (6, [.ref tw, .ref pw, .ref uw, .ref o, .ref hh, .ref rd, .ref bk, .ref pl, .ref asd, .ref fd, .int (nI wr), .int hi9])), (tw, .inr (3, [.ref tsk, .ref tkd, .ref tmo, .ref tlv, .ref ttc, .ref tts, .ref ttl, .int (nI ttn), .int trg, .long thp, .int (nI tlw)])), (tsk, .inl (cM, 4, .inr (.inr (.inr (.inr (rr4 ts0 ts1 ts2 ts3)))))), (ts0, .inl (cI, 14, .inl tR0)), (ts1, .inl (cI, 14, .inl tR1)), (ts2, .inl (cI, 14, .inl tR2)), (ts3, .inl (cI, 14, .inl tR3))] ∧ r = o_skyTold tR0 tR1 tR2 tR3 d wh) := by
  refine rM_ofI rfl (Nat.le_of_ble_eq_true rfl) rfl (fun X C E => ?_)
  show X 0 0 [(x, .inr (6, [.ref tw, .ref pw, .ref uw, .ref o, .ref hh, .ref rd, .ref bk, .ref pl, .ref asd, .ref fd, .int (nI wr), .int hi9])), (tw, .inr (3, [.ref tsk, .ref tkd, .ref tmo, .ref tlv, .ref ttc, .ref tts, .ref ttl, .int (nI ttn), .int trg, .long thp, .int (nI tlw)])), (tsk, .inl (cM, 4, .inr (.inr (.inr (.inr (rr4 ts0 ts1 ts2 ts3)))))), (ts0, .inl (cI, 14, .inl tR0)), (ts1, .inl (cI, 14, .inl tR1)), (ts2, .inl (cI, 14, .inl tR2)), (ts3, .inl (cI, 14, .inl tR3))] [(0, .ref x), (1, .int d), (2, .int wh)] 0 []
  refine x_iload_n C dX7_skyTold_0 1 rfl ?_
  refine x_callS C (As := [.int d]) (st := []) (wc := []) (wr := [(x, .inr (6, [.ref tw, .ref pw, .ref uw, .ref o, .ref hh, .ref rd, .ref bk, .ref pl, .ref asd, .ref fd, .int (nI wr), .int hi9])), (tw, .inr (3, [.ref tsk, .ref tkd, .ref tmo, .ref tlv, .ref ttc, .ref tts, .ref ttl, .int (nI ttn), .int trg, .long thp, .int (nI tlw)])), (tsk, .inl (cM, 4, .inr (.inr (.inr (.inr (rr4 ts0 ts1 ts2 ts3)))))), (ts0, .inl (cI, 14, .inl tR0)), (ts1, .inl (cI, 14, .inl tR1)), (ts2, .inl (cI, 14, .inl tR2)), (ts3, .inl (cI, 14, .inl tR3))]) (c_X7_isDay l dG cI cM cW cS d ) rZ0_ok (fun _ _ _ _ => trivial) kS_X7_88 hy_X7_isDay ⟨Nat.le_of_ble_eq_true rfl, Nat.le_of_ble_eq_true rfl⟩ ⟨Nat.le_of_ble_eq_true rfl, Nat.le_of_ble_eq_true rfl⟩ dX7_skyTold_1 [] [0, 1, 2, 3, 4, 5, 6] rfl rfl rfl rfl (by decide) rfl (Nat.le_of_ble_eq_true rfl) ?_
  intro v1 w2 h3
  rcases h3 with h3 | h3
  ·
    obtain ⟨rfl, rfl, hf4⟩ := h3
    show X 0 0 [(x, .inr (6, [.ref tw, .ref pw, .ref uw, .ref o, .ref hh, .ref rd, .ref bk, .ref pl, .ref asd, .ref fd, .int (nI wr), .int hi9])), (tw, .inr (3, [.ref tsk, .ref tkd, .ref tmo, .ref tlv, .ref ttc, .ref tts, .ref ttl, .int (nI ttn), .int trg, .long thp, .int (nI tlw)])), (tsk, .inl (cM, 4, .inr (.inr (.inr (.inr (rr4 ts0 ts1 ts2 ts3)))))), (ts0, .inl (cI, 14, .inl tR0)), (ts1, .inl (cI, 14, .inl tR1)), (ts2, .inl (cI, 14, .inl tR2)), (ts3, .inl (cI, 14, .inl tR3))] [(0, .ref x), (1, .int d), (2, .int wh)] 4 [.int 1]
    have hr5 := hf4
    obtain ⟨j, hj, rfl⟩ := q_w (n := 13) rfl (by decide) hf4
    have hnj : o_n (nI j) = j := o_n_nI (by omega)
    refine x_if_ne C dX7_skyTold_4 (tgt := 10) rfl (fun _ => ?_) (fun q9 => by first | exact absurd q9 (by decide) | exact absurd (by decide) q9)
    refine x_iload_n C dX7_skyTold_10 2 rfl ?_
    refine x_iconst C dX7_skyTold_11 (v := 0) rfl ?_
    refine x_iconst C dX7_skyTold_12 (v := 3) rfl ?_
    refine x_callS C (As := [.int wh, .int 0, .int 3]) (st := []) (wc := []) (wr := [(x, .inr (6, [.ref tw, .ref pw, .ref uw, .ref o, .ref hh, .ref rd, .ref bk, .ref pl, .ref asd, .ref fd, .int (nI wr), .int hi9])), (tw, .inr (3, [.ref tsk, .ref tkd, .ref tmo, .ref tlv, .ref ttc, .ref tts, .ref ttl, .int (nI ttn), .int trg, .long thp, .int (nI tlw)])), (tsk, .inl (cM, 4, .inr (.inr (.inr (.inr (rr4 ts0 ts1 ts2 ts3)))))), (ts0, .inl (cI, 14, .inl tR0)), (ts1, .inl (cI, 14, .inl tR1)), (ts2, .inl (cI, 14, .inl tR2)), (ts3, .inl (cI, 14, .inl tR3))]) (c_X7_within l dG cI cM cW cS wh 0 3 ) rZ0_ok (fun _ _ _ _ => trivial) kS_X7_92 hy_X7_within ⟨Nat.le_of_ble_eq_true rfl, Nat.le_of_ble_eq_true rfl⟩ ⟨Nat.le_of_ble_eq_true rfl, Nat.le_of_ble_eq_true rfl⟩ dX7_skyTold_13 [] [0, 1, 2, 3, 4, 5, 6] rfl rfl rfl rfl (by decide) rfl (Nat.le_of_ble_eq_true rfl) ?_
    intro v6 w7 h8
    rcases h8 with h8 | h8
    ·
      obtain ⟨rfl, rfl, hf9⟩ := h8
      show X 0 0 [(x, .inr (6, [.ref tw, .ref pw, .ref uw, .ref o, .ref hh, .ref rd, .ref bk, .ref pl, .ref asd, .ref fd, .int (nI wr), .int hi9])), (tw, .inr (3, [.ref tsk, .ref tkd, .ref tmo, .ref tlv, .ref ttc, .ref tts, .ref ttl, .int (nI ttn), .int trg, .long thp, .int (nI tlw)])), (tsk, .inl (cM, 4, .inr (.inr (.inr (.inr (rr4 ts0 ts1 ts2 ts3)))))), (ts0, .inl (cI, 14, .inl tR0)), (ts1, .inl (cI, 14, .inl tR1)), (ts2, .inl (cI, 14, .inl tR2)), (ts3, .inl (cI, 14, .inl tR3))] [(0, .ref x), (1, .int (nI j)), (2, .int wh)] 16 [.int 1]
      have hr10 := hf9
      rcases q_in4 hf9 with rfl | rfl | rfl | rfl
      ·
        refine x_if_ne C dX7_skyTold_16 (tgt := 22) rfl (fun _ => ?_) (fun q9 => by first | exact absurd q9 (by decide) | exact absurd (by decide) q9)
        refine x_aload_n C dX7_skyTold_22 0 rfl ?_
        refine x_get C inlX7 rfl 0 (by decide) gw_1_16 dX7_skyTold_23 0 rfl rfl ?_
        refine x_getN C inlX4 rfl 0 (by decide) nw_X7_100 dX7_skyTold_26 1 rfl rfl ?_
        refine x_iload_n C dX7_skyTold_29 2 rfl ?_
        refine x_aaloadA C 1 rfl dX7_skyTold_30 0 rfl (q_ix (rfl : (0 : Int32) = nI 0) (by decide) (by decide)) 2 rfl rfl ?_
        refine x_iload_n C dX7_skyTold_31 1 rfl ?_
        refine x_iaload C 0 rfl dX7_skyTold_32 j (q_cl rfl (by omega)) (q_ix rfl (by omega) (by omega)) 3 rfl ?_
        refine E dX7_skyTold_33 (rfl) ?_
        exact ⟨(tR0 j), rfl, rfl, by (unfold o_skyTold o_pick); (try simp only [hnj]); (repeat (first | rw [if_pos (by first | (rw [if_pos (by decide)]; assumption) | (rw [if_neg (by decide), if_pos (by decide)]; assumption) | (rw [if_neg (by decide), if_neg (by decide)]; assumption) | assumption | decide | omega | exact o_one_t (by assumption) | (rw [o_one_f (by assumption)]; decide) | exact ⟨by assumption, by assumption⟩ | exact fun h9 => absurd h9.1 (by assumption) | exact fun h9 => absurd h9.2 (by assumption))] | rw [if_neg (by first | (rw [if_pos (by decide)]; assumption) | (rw [if_neg (by decide), if_pos (by decide)]; assumption) | (rw [if_neg (by decide), if_neg (by decide)]; assumption) | assumption | decide | omega | exact o_one_t (by assumption) | (rw [o_one_f (by assumption)]; decide) | exact ⟨by assumption, by assumption⟩ | exact fun h9 => absurd h9.1 (by assumption) | exact fun h9 => absurd h9.2 (by assumption))])); all_goals (first | rfl)⟩
      ·
        refine x_if_ne C dX7_skyTold_16 (tgt := 22) rfl (fun _ => ?_) (fun q9 => by first | exact absurd q9 (by decide) | exact absurd (by decide) q9)
        refine x_aload_n C dX7_skyTold_22 0 rfl ?_
        refine x_get C inlX7 rfl 0 (by decide) gw_1_16 dX7_skyTold_23 0 rfl rfl ?_
        refine x_getN C inlX4 rfl 0 (by decide) nw_X7_100 dX7_skyTold_26 1 rfl rfl ?_
        refine x_iload_n C dX7_skyTold_29 2 rfl ?_
        refine x_aaloadA C 1 rfl dX7_skyTold_30 1 rfl (q_ix (rfl : (1 : Int32) = nI 1) (by decide) (by decide)) 2 rfl rfl ?_
        refine x_iload_n C dX7_skyTold_31 1 rfl ?_
        refine x_iaload C 0 rfl dX7_skyTold_32 j (q_cl rfl (by omega)) (q_ix rfl (by omega) (by omega)) 4 rfl ?_
        refine E dX7_skyTold_33 (rfl) ?_
        exact ⟨(tR1 j), rfl, rfl, by (unfold o_skyTold o_pick); (try simp only [hnj]); (repeat (first | rw [if_pos (by first | (rw [if_pos (by decide)]; assumption) | (rw [if_neg (by decide), if_pos (by decide)]; assumption) | (rw [if_neg (by decide), if_neg (by decide)]; assumption) | assumption | decide | omega | exact o_one_t (by assumption) | (rw [o_one_f (by assumption)]; decide) | exact ⟨by assumption, by assumption⟩ | exact fun h9 => absurd h9.1 (by assumption) | exact fun h9 => absurd h9.2 (by assumption))] | rw [if_neg (by first | (rw [if_pos (by decide)]; assumption) | (rw [if_neg (by decide), if_pos (by decide)]; assumption) | (rw [if_neg (by decide), if_neg (by decide)]; assumption) | assumption | decide | omega | exact o_one_t (by assumption) | (rw [o_one_f (by assumption)]; decide) | exact ⟨by assumption, by assumption⟩ | exact fun h9 => absurd h9.1 (by assumption) | exact fun h9 => absurd h9.2 (by assumption))])); all_goals (first | rfl)⟩
      ·
        refine x_if_ne C dX7_skyTold_16 (tgt := 22) rfl (fun _ => ?_) (fun q9 => by first | exact absurd q9 (by decide) | exact absurd (by decide) q9)
        refine x_aload_n C dX7_skyTold_22 0 rfl ?_
        refine x_get C inlX7 rfl 0 (by decide) gw_1_16 dX7_skyTold_23 0 rfl rfl ?_
        refine x_getN C inlX4 rfl 0 (by decide) nw_X7_100 dX7_skyTold_26 1 rfl rfl ?_
        refine x_iload_n C dX7_skyTold_29 2 rfl ?_
        refine x_aaloadA C 1 rfl dX7_skyTold_30 2 rfl (q_ix (rfl : (2 : Int32) = nI 2) (by decide) (by decide)) 2 rfl rfl ?_
        refine x_iload_n C dX7_skyTold_31 1 rfl ?_
        refine x_iaload C 0 rfl dX7_skyTold_32 j (q_cl rfl (by omega)) (q_ix rfl (by omega) (by omega)) 5 rfl ?_
        refine E dX7_skyTold_33 (rfl) ?_
        exact ⟨(tR2 j), rfl, rfl, by (unfold o_skyTold o_pick); (try simp only [hnj]); (repeat (first | rw [if_pos (by first | (rw [if_pos (by decide)]; assumption) | (rw [if_neg (by decide), if_pos (by decide)]; assumption) | (rw [if_neg (by decide), if_neg (by decide)]; assumption) | assumption | decide | omega | exact o_one_t (by assumption) | (rw [o_one_f (by assumption)]; decide) | exact ⟨by assumption, by assumption⟩ | exact fun h9 => absurd h9.1 (by assumption) | exact fun h9 => absurd h9.2 (by assumption))] | rw [if_neg (by first | (rw [if_pos (by decide)]; assumption) | (rw [if_neg (by decide), if_pos (by decide)]; assumption) | (rw [if_neg (by decide), if_neg (by decide)]; assumption) | assumption | decide | omega | exact o_one_t (by assumption) | (rw [o_one_f (by assumption)]; decide) | exact ⟨by assumption, by assumption⟩ | exact fun h9 => absurd h9.1 (by assumption) | exact fun h9 => absurd h9.2 (by assumption))])); all_goals (first | rfl)⟩
      ·
        refine x_if_ne C dX7_skyTold_16 (tgt := 22) rfl (fun _ => ?_) (fun q9 => by first | exact absurd q9 (by decide) | exact absurd (by decide) q9)
        refine x_aload_n C dX7_skyTold_22 0 rfl ?_
        refine x_get C inlX7 rfl 0 (by decide) gw_1_16 dX7_skyTold_23 0 rfl rfl ?_
        refine x_getN C inlX4 rfl 0 (by decide) nw_X7_100 dX7_skyTold_26 1 rfl rfl ?_
        refine x_iload_n C dX7_skyTold_29 2 rfl ?_
        refine x_aaloadA C 1 rfl dX7_skyTold_30 3 rfl (q_ix (rfl : (3 : Int32) = nI 3) (by decide) (by decide)) 2 rfl rfl ?_
        refine x_iload_n C dX7_skyTold_31 1 rfl ?_
        refine x_iaload C 0 rfl dX7_skyTold_32 j (q_cl rfl (by omega)) (q_ix rfl (by omega) (by omega)) 6 rfl ?_
        refine E dX7_skyTold_33 (rfl) ?_
        exact ⟨(tR3 j), rfl, rfl, by (unfold o_skyTold o_pick); (try simp only [hnj]); (repeat (first | rw [if_pos (by first | (rw [if_pos (by decide)]; assumption) | (rw [if_neg (by decide), if_pos (by decide)]; assumption) | (rw [if_neg (by decide), if_neg (by decide)]; assumption) | assumption | decide | omega | exact o_one_t (by assumption) | (rw [o_one_f (by assumption)]; decide) | exact ⟨by assumption, by assumption⟩ | exact fun h9 => absurd h9.1 (by assumption) | exact fun h9 => absurd h9.2 (by assumption))] | rw [if_neg (by first | (rw [if_pos (by decide)]; assumption) | (rw [if_neg (by decide), if_pos (by decide)]; assumption) | (rw [if_neg (by decide), if_neg (by decide)]; assumption) | assumption | decide | omega | exact o_one_t (by assumption) | (rw [o_one_f (by assumption)]; decide) | exact ⟨by assumption, by assumption⟩ | exact fun h9 => absurd h9.1 (by assumption) | exact fun h9 => absurd h9.2 (by assumption))])); all_goals (first | rfl)⟩
    ·
      obtain ⟨rfl, rfl, hf11⟩ := h8
      show X 0 0 [(x, .inr (6, [.ref tw, .ref pw, .ref uw, .ref o, .ref hh, .ref rd, .ref bk, .ref pl, .ref asd, .ref fd, .int (nI wr), .int hi9])), (tw, .inr (3, [.ref tsk, .ref tkd, .ref tmo, .ref tlv, .ref ttc, .ref tts, .ref ttl, .int (nI ttn), .int trg, .long thp, .int (nI tlw)])), (tsk, .inl (cM, 4, .inr (.inr (.inr (.inr (rr4 ts0 ts1 ts2 ts3)))))), (ts0, .inl (cI, 14, .inl tR0)), (ts1, .inl (cI, 14, .inl tR1)), (ts2, .inl (cI, 14, .inl tR2)), (ts3, .inl (cI, 14, .inl tR3))] [(0, .ref x), (1, .int (nI j)), (2, .int wh)] 16 [.int 0]
      refine x_if_ne C dX7_skyTold_16 (tgt := 22) rfl (fun q9 => absurd q9 (by decide)) (fun _ => ?_)
      refine x_bipush C dX7_skyTold_19 (v := (-7)) rfl ?_
      refine E dX7_skyTold_21 (rfl) ?_
      exact ⟨(-7), rfl, rfl, by (unfold o_skyTold o_pick); (try simp only [hnj]); (repeat (first | rw [if_pos (by first | (rw [if_pos (by decide)]; assumption) | (rw [if_neg (by decide), if_pos (by decide)]; assumption) | (rw [if_neg (by decide), if_neg (by decide)]; assumption) | assumption | decide | omega | exact o_one_t (by assumption) | (rw [o_one_f (by assumption)]; decide) | exact ⟨by assumption, by assumption⟩ | exact fun h9 => absurd h9.1 (by assumption) | exact fun h9 => absurd h9.2 (by assumption))] | rw [if_neg (by first | (rw [if_pos (by decide)]; assumption) | (rw [if_neg (by decide), if_pos (by decide)]; assumption) | (rw [if_neg (by decide), if_neg (by decide)]; assumption) | assumption | decide | omega | exact o_one_t (by assumption) | (rw [o_one_f (by assumption)]; decide) | exact ⟨by assumption, by assumption⟩ | exact fun h9 => absurd h9.1 (by assumption) | exact fun h9 => absurd h9.2 (by assumption))])); all_goals (first | rfl)⟩
  ·
    obtain ⟨rfl, rfl, hf12⟩ := h3
    show X 0 0 [(x, .inr (6, [.ref tw, .ref pw, .ref uw, .ref o, .ref hh, .ref rd, .ref bk, .ref pl, .ref asd, .ref fd, .int (nI wr), .int hi9])), (tw, .inr (3, [.ref tsk, .ref tkd, .ref tmo, .ref tlv, .ref ttc, .ref tts, .ref ttl, .int (nI ttn), .int trg, .long thp, .int (nI tlw)])), (tsk, .inl (cM, 4, .inr (.inr (.inr (.inr (rr4 ts0 ts1 ts2 ts3)))))), (ts0, .inl (cI, 14, .inl tR0)), (ts1, .inl (cI, 14, .inl tR1)), (ts2, .inl (cI, 14, .inl tR2)), (ts3, .inl (cI, 14, .inl tR3))] [(0, .ref x), (1, .int d), (2, .int wh)] 4 [.int 0]
    refine x_if_ne C dX7_skyTold_4 (tgt := 10) rfl (fun q9 => absurd q9 (by decide)) (fun _ => ?_)
    refine x_bipush C dX7_skyTold_7 (v := (-5)) rfl ?_
    refine E dX7_skyTold_9 (rfl) ?_
    exact ⟨(-5), rfl, rfl, by (unfold o_skyTold o_pick); (repeat (first | rw [if_pos (by first | (rw [if_pos (by decide)]; assumption) | (rw [if_neg (by decide), if_pos (by decide)]; assumption) | (rw [if_neg (by decide), if_neg (by decide)]; assumption) | assumption | decide | omega | exact o_one_t (by assumption) | (rw [o_one_f (by assumption)]; decide) | exact ⟨by assumption, by assumption⟩ | exact fun h9 => absurd h9.1 (by assumption) | exact fun h9 => absurd h9.2 (by assumption))] | rw [if_neg (by first | (rw [if_pos (by decide)]; assumption) | (rw [if_neg (by decide), if_pos (by decide)]; assumption) | (rw [if_neg (by decide), if_neg (by decide)]; assumption) | assumption | decide | omega | exact o_one_t (by assumption) | (rw [o_one_f (by assumption)]; decide) | exact ⟨by assumption, by assumption⟩ | exact fun h9 => absurd h9.1 (by assumption) | exact fun h9 => absurd h9.2 (by assumption))])); all_goals (first | rfl)⟩
theorem nw_X7_107 : (RX7, 107, "LeavesBeforeWind$Lawn", "raking", "I", "LeavesBeforeWind") ∈ NWF := List.mem_of_getElem? (i := 2) rfl
theorem nw_X7_113 : (RX7, 113, "LeavesBeforeWind$Reader", "size", "I", "LeavesBeforeWind") ∈ NWF := List.mem_of_getElem? (i := 4) rfl
set_option maxHeartbeats 4000000 in
set_option maxRecDepth 100000 in
theorem c_X7_count (l : Launch) (dG : va_G) (cI cM cW cS : ClassId) (x pw uw o hh rd bk pl asd fd : Nat) (wr : Nat) (hi9 : Int32) (tw tsk tkd tmo tlv ttc tts ttl ts0 ts1 ts2 ts3 : Nat) (ttn tlw : Nat) (trg : Int32) (thp : Int64) (tR0 tR1 tR2 tR3 tkf tmf tlf tcf tsf ttf : Nat → Int32) (rta rlw rsz : Nat) (rat rtk rpl rva rfa : Int32) (wh : Int32) : rM l yX7_count cX7_count 2 (some .int) ({ frames := 0, cells := 0, slots := 0, locals := 0 } : Room) dG (tY cI cM cW cS) rZ0 [.ref x, .int wh] [(x, .inr (6, [.ref tw, .ref pw, .ref uw, .ref o, .ref hh, .ref rd, .ref bk, .ref pl, .ref asd, .ref fd, .int (nI wr), .int hi9])), (tw, .inr (3, [.ref tsk, .ref tkd, .ref tmo, .ref tlv, .ref ttc, .ref tts, .ref ttl, .int (nI ttn), .int trg, .long thp, .int (nI tlw)])), (rd, .inr (4, [.ref rta, .int (nI rsz), .int rat, .int rtk, .int rpl, .int rva, .int rfa, .ref rlw]))] (fun ov oz => ∃ (r : Int32), ov = some (.int r) ∧ oz = [(x, .inr (6, [.ref tw, .ref pw, .ref uw, .ref o, .ref hh, .ref rd, .ref bk, .ref pl, .ref asd, .ref fd, .int (nI wr), .int hi9])), (tw, .inr (3, [.ref tsk, .ref tkd, .ref tmo, .ref tlv, .ref ttc, .ref tts, .ref ttl, .int (nI ttn), .int trg, .long thp, .int (nI tlw)])), (rd, .inr (4, [.ref rta, .int (nI rsz), .int rat, .int rtk, .int rpl, .int rva, .int rfa, .ref rlw]))] ∧ r = o_count wh (nI ttn) trg (nI wr) (nI tlw) (nI rsz)) := by
  refine rM_ofI rfl (Nat.le_of_ble_eq_true rfl) rfl (fun X C E => ?_)
  show X 0 0 [(x, .inr (6, [.ref tw, .ref pw, .ref uw, .ref o, .ref hh, .ref rd, .ref bk, .ref pl, .ref asd, .ref fd, .int (nI wr), .int hi9])), (tw, .inr (3, [.ref tsk, .ref tkd, .ref tmo, .ref tlv, .ref ttc, .ref tts, .ref ttl, .int (nI ttn), .int trg, .long thp, .int (nI tlw)])), (rd, .inr (4, [.ref rta, .int (nI rsz), .int rat, .int rtk, .int rpl, .int rva, .int rfa, .ref rlw]))] [(0, .ref x), (1, .int wh)] 0 []
  refine x_iload_n C dX7_count_0 1 rfl ?_
  rcases q_sw wh (0) (4) with q1 | q1
  ·
    refine x_tableOut C dX7_count_1 q1 (tgt := 73) rfl ?_
    have hk9 : ¬ wh = 0 ∧ ¬ wh = 1 ∧ ¬ wh = 2 ∧ ¬ wh = 3 ∧ ¬ wh = 4 := by refine ⟨?_, ?_, ?_, ?_, ?_⟩ <;> (intro h; rw [h] at q1; revert q1; decide)
    obtain ⟨hk0, hk1, hk2, hk3, hk4⟩ := hk9
    refine x_bipush C dX7_count_73 (v := (-2)) rfl ?_
    refine E dX7_count_75 (rfl) ?_
    exact ⟨(-2), rfl, rfl, by (unfold o_count); (repeat (first | rw [if_pos (by first | (rw [if_pos (by decide)]; assumption) | (rw [if_neg (by decide), if_pos (by decide)]; assumption) | (rw [if_neg (by decide), if_neg (by decide)]; assumption) | assumption | decide | omega | exact o_one_t (by assumption) | (rw [o_one_f (by assumption)]; decide) | exact ⟨by assumption, by assumption⟩ | exact fun h9 => absurd h9.1 (by assumption) | exact fun h9 => absurd h9.2 (by assumption))] | rw [if_neg (by first | (rw [if_pos (by decide)]; assumption) | (rw [if_neg (by decide), if_pos (by decide)]; assumption) | (rw [if_neg (by decide), if_neg (by decide)]; assumption) | assumption | decide | omega | exact o_one_t (by assumption) | (rw [o_one_f (by assumption)]; decide) | exact ⟨by assumption, by assumption⟩ | exact fun h9 => absurd h9.1 (by assumption) | exact fun h9 => absurd h9.2 (by assumption))])); all_goals (first | rfl)⟩
  ·
    rcases q_sw_0_4 q1 with q1 | q1 | q1 | q1 | q1
    ·
      have q1 : wh = 0 := q1
      refine x_tableIn C dX7_count_1 (by rw [q1]; decide) (by rw [q1]; decide) (off := 35) (tgt := 36) (by rw [q1]; rfl) rfl ?_
      refine x_aload_n C dX7_count_36 0 rfl ?_
      refine x_get C inlX7 rfl 0 (by decide) gw_1_16 dX7_count_37 0 rfl rfl ?_
      refine x_getN C inlX4 rfl 7 (by decide) nw_X7_104 dX7_count_40 1 rfl rfl ?_
      refine E dX7_count_43 (rfl) ?_
      exact ⟨(nI ttn), rfl, rfl, by (unfold o_count); (repeat (first | rw [if_pos (by first | (rw [if_pos (by decide)]; assumption) | (rw [if_neg (by decide), if_pos (by decide)]; assumption) | (rw [if_neg (by decide), if_neg (by decide)]; assumption) | assumption | decide | omega | exact o_one_t (by assumption) | (rw [o_one_f (by assumption)]; decide) | exact ⟨by assumption, by assumption⟩ | exact fun h9 => absurd h9.1 (by assumption) | exact fun h9 => absurd h9.2 (by assumption))] | rw [if_neg (by first | (rw [if_pos (by decide)]; assumption) | (rw [if_neg (by decide), if_pos (by decide)]; assumption) | (rw [if_neg (by decide), if_neg (by decide)]; assumption) | assumption | decide | omega | exact o_one_t (by assumption) | (rw [o_one_f (by assumption)]; decide) | exact ⟨by assumption, by assumption⟩ | exact fun h9 => absurd h9.1 (by assumption) | exact fun h9 => absurd h9.2 (by assumption))])); all_goals (first | rfl)⟩
    ·
      have q1 : wh = 1 := q1
      refine x_tableIn C dX7_count_1 (by rw [q1]; decide) (by rw [q1]; decide) (off := 43) (tgt := 44) (by rw [q1]; rfl) rfl ?_
      have hk0 : ¬ wh = 0 := by rw [q1]; decide
      refine x_aload_n C dX7_count_44 0 rfl ?_
      refine x_get C inlX7 rfl 0 (by decide) gw_1_16 dX7_count_45 0 rfl rfl ?_
      refine x_getN C inlX4 rfl 8 (by decide) nw_X7_107 dX7_count_48 1 rfl rfl ?_
      refine E dX7_count_51 (rfl) ?_
      exact ⟨trg, rfl, rfl, by (unfold o_count); (repeat (first | rw [if_pos (by first | (rw [if_pos (by decide)]; assumption) | (rw [if_neg (by decide), if_pos (by decide)]; assumption) | (rw [if_neg (by decide), if_neg (by decide)]; assumption) | assumption | decide | omega | exact o_one_t (by assumption) | (rw [o_one_f (by assumption)]; decide) | exact ⟨by assumption, by assumption⟩ | exact fun h9 => absurd h9.1 (by assumption) | exact fun h9 => absurd h9.2 (by assumption))] | rw [if_neg (by first | (rw [if_pos (by decide)]; assumption) | (rw [if_neg (by decide), if_pos (by decide)]; assumption) | (rw [if_neg (by decide), if_neg (by decide)]; assumption) | assumption | decide | omega | exact o_one_t (by assumption) | (rw [o_one_f (by assumption)]; decide) | exact ⟨by assumption, by assumption⟩ | exact fun h9 => absurd h9.1 (by assumption) | exact fun h9 => absurd h9.2 (by assumption))])); all_goals (first | rfl)⟩
    ·
      have q1 : wh = 2 := q1
      refine x_tableIn C dX7_count_1 (by rw [q1]; decide) (by rw [q1]; decide) (off := 51) (tgt := 52) (by rw [q1]; rfl) rfl ?_
      have hk0 : ¬ wh = 0 := by rw [q1]; decide
      have hk1 : ¬ wh = 1 := by rw [q1]; decide
      refine x_aload_n C dX7_count_52 0 rfl ?_
      refine x_get C inlX7 rfl 10 (by decide) gw_2_18 dX7_count_53 0 rfl rfl ?_
      refine E dX7_count_56 (rfl) ?_
      exact ⟨(nI wr), rfl, rfl, by (unfold o_count); (repeat (first | rw [if_pos (by first | (rw [if_pos (by decide)]; assumption) | (rw [if_neg (by decide), if_pos (by decide)]; assumption) | (rw [if_neg (by decide), if_neg (by decide)]; assumption) | assumption | decide | omega | exact o_one_t (by assumption) | (rw [o_one_f (by assumption)]; decide) | exact ⟨by assumption, by assumption⟩ | exact fun h9 => absurd h9.1 (by assumption) | exact fun h9 => absurd h9.2 (by assumption))] | rw [if_neg (by first | (rw [if_pos (by decide)]; assumption) | (rw [if_neg (by decide), if_pos (by decide)]; assumption) | (rw [if_neg (by decide), if_neg (by decide)]; assumption) | assumption | decide | omega | exact o_one_t (by assumption) | (rw [o_one_f (by assumption)]; decide) | exact ⟨by assumption, by assumption⟩ | exact fun h9 => absurd h9.1 (by assumption) | exact fun h9 => absurd h9.2 (by assumption))])); all_goals (first | rfl)⟩
    ·
      have q1 : wh = 3 := q1
      refine x_tableIn C dX7_count_1 (by rw [q1]; decide) (by rw [q1]; decide) (off := 56) (tgt := 57) (by rw [q1]; rfl) rfl ?_
      have hk0 : ¬ wh = 0 := by rw [q1]; decide
      have hk1 : ¬ wh = 1 := by rw [q1]; decide
      have hk2 : ¬ wh = 2 := by rw [q1]; decide
      refine x_aload_n C dX7_count_57 0 rfl ?_
      refine x_get C inlX7 rfl 0 (by decide) gw_1_16 dX7_count_58 0 rfl rfl ?_
      refine x_getN C inlX4 rfl 10 (by decide) nw_X7_110 dX7_count_61 1 rfl rfl ?_
      refine E dX7_count_64 (rfl) ?_
      exact ⟨(nI tlw), rfl, rfl, by (unfold o_count); (repeat (first | rw [if_pos (by first | (rw [if_pos (by decide)]; assumption) | (rw [if_neg (by decide), if_pos (by decide)]; assumption) | (rw [if_neg (by decide), if_neg (by decide)]; assumption) | assumption | decide | omega | exact o_one_t (by assumption) | (rw [o_one_f (by assumption)]; decide) | exact ⟨by assumption, by assumption⟩ | exact fun h9 => absurd h9.1 (by assumption) | exact fun h9 => absurd h9.2 (by assumption))] | rw [if_neg (by first | (rw [if_pos (by decide)]; assumption) | (rw [if_neg (by decide), if_pos (by decide)]; assumption) | (rw [if_neg (by decide), if_neg (by decide)]; assumption) | assumption | decide | omega | exact o_one_t (by assumption) | (rw [o_one_f (by assumption)]; decide) | exact ⟨by assumption, by assumption⟩ | exact fun h9 => absurd h9.1 (by assumption) | exact fun h9 => absurd h9.2 (by assumption))])); all_goals (first | rfl)⟩
    ·
      have q1 : wh = 4 := q1
      refine x_tableIn C dX7_count_1 (by rw [q1]; decide) (by rw [q1]; decide) (off := 64) (tgt := 65) (by rw [q1]; rfl) rfl ?_
      have hk0 : ¬ wh = 0 := by rw [q1]; decide
      have hk1 : ¬ wh = 1 := by rw [q1]; decide
      have hk2 : ¬ wh = 2 := by rw [q1]; decide
      have hk3 : ¬ wh = 3 := by rw [q1]; decide
      refine x_aload_n C dX7_count_65 0 rfl ?_
      refine x_get C inlX7 rfl 5 (by decide) gw_2_6 dX7_count_66 0 rfl rfl ?_
      refine x_getN C inlX5 rfl 1 (by decide) nw_X7_113 dX7_count_69 2 rfl rfl ?_
      refine E dX7_count_72 (rfl) ?_
      exact ⟨(nI rsz), rfl, rfl, by (unfold o_count); (repeat (first | rw [if_pos (by first | (rw [if_pos (by decide)]; assumption) | (rw [if_neg (by decide), if_pos (by decide)]; assumption) | (rw [if_neg (by decide), if_neg (by decide)]; assumption) | assumption | decide | omega | exact o_one_t (by assumption) | (rw [o_one_f (by assumption)]; decide) | exact ⟨by assumption, by assumption⟩ | exact fun h9 => absurd h9.1 (by assumption) | exact fun h9 => absurd h9.2 (by assumption))] | rw [if_neg (by first | (rw [if_pos (by decide)]; assumption) | (rw [if_neg (by decide), if_pos (by decide)]; assumption) | (rw [if_neg (by decide), if_neg (by decide)]; assumption) | assumption | decide | omega | exact o_one_t (by assumption) | (rw [o_one_f (by assumption)]; decide) | exact ⟨by assumption, by assumption⟩ | exact fun h9 => absurd h9.1 (by assumption) | exact fun h9 => absurd h9.2 (by assumption))])); all_goals (first | rfl)⟩
set_option maxHeartbeats 4000000 in
set_option maxRecDepth 100000 in
theorem c_X7_force (l : Launch) (dG : va_G) (cI cM cW cS : ClassId) (x pw uw o hh rd bk pl asd fd : Nat) (wr : Nat) (hi9 : Int32) (tw tsk tkd tmo tlv ttc tts ttl ts0 ts1 ts2 ts3 : Nat) (ttn tlw : Nat) (trg : Int32) (thp : Int64) (tR0 tR1 tR2 tR3 tkf tmf tlf tcf tsf ttf : Nat → Int32) (v : Int32) (hwr : 1 ≤ wr) (hwr6 : wr ≤ 6) : rM l yX7_force cX7_force 3 (some .int) ({ frames := 1, cells := 0, slots := 0, locals := 22 } : Room) dG (tY cI cM cW cS) rZ0 [.ref x, .int v] [(x, .inr (6, [.ref tw, .ref pw, .ref uw, .ref o, .ref hh, .ref rd, .ref bk, .ref pl, .ref asd, .ref fd, .int (nI wr), .int hi9])), (tw, .inr (3, [.ref tsk, .ref tkd, .ref tmo, .ref tlv, .ref ttc, .ref tts, .ref ttl, .int (nI ttn), .int trg, .long thp, .int (nI tlw)]))] (fun ov oz => ∃ (r : Int32) (tlw' : Nat), ov = some (.int r) ∧ oz = [(x, .inr (6, [.ref tw, .ref pw, .ref uw, .ref o, .ref hh, .ref rd, .ref bk, .ref pl, .ref asd, .ref fd, .int (nI wr), .int hi9])), (tw, .inr (3, [.ref tsk, .ref tkd, .ref tmo, .ref tlv, .ref ttc, .ref tts, .ref ttl, .int (nI ttn), .int trg, .long thp, .int (nI tlw')]))] ∧ (r, tlw') = (o_force v (nI wr) (nI tlw), o_force_n v wr tlw)) := by
  refine rM_ofI rfl (Nat.le_of_ble_eq_true rfl) rfl (fun X C E => ?_)
  show X 0 0 [(x, .inr (6, [.ref tw, .ref pw, .ref uw, .ref o, .ref hh, .ref rd, .ref bk, .ref pl, .ref asd, .ref fd, .int (nI wr), .int hi9])), (tw, .inr (3, [.ref tsk, .ref tkd, .ref tmo, .ref tlv, .ref ttc, .ref tts, .ref ttl, .int (nI ttn), .int trg, .long thp, .int (nI tlw)]))] [(0, .ref x), (1, .int v)] 0 []
  refine x_iload_n C dX7_force_0 1 rfl ?_
  refine x_iconst C dX7_force_1 (v := 0) rfl ?_
  refine x_aload_n C dX7_force_2 0 rfl ?_
  refine x_get C inlX7 rfl 10 (by decide) gw_2_18 dX7_force_3 0 rfl rfl ?_
  refine x_iconst C dX7_force_6 (v := 1) rfl ?_
  refine x_isub C dX7_force_7 ?_
  refine x_callS C (As := [.int v, .int 0, .int ((nI wr) - 1)]) (st := []) (wc := []) (wr := [(x, .inr (6, [.ref tw, .ref pw, .ref uw, .ref o, .ref hh, .ref rd, .ref bk, .ref pl, .ref asd, .ref fd, .int (nI wr), .int hi9])), (tw, .inr (3, [.ref tsk, .ref tkd, .ref tmo, .ref tlv, .ref ttc, .ref tts, .ref ttl, .int (nI ttn), .int trg, .long thp, .int (nI tlw)]))]) (c_X7_within l dG cI cM cW cS v 0 ((nI wr) - 1) ) rZ0_ok (fun _ _ _ _ => trivial) kS_X7_92 hy_X7_within ⟨Nat.le_of_ble_eq_true rfl, Nat.le_of_ble_eq_true rfl⟩ ⟨Nat.le_of_ble_eq_true rfl, Nat.le_of_ble_eq_true rfl⟩ dX7_force_8 [] [0, 1] rfl rfl rfl rfl (by decide) rfl (Nat.le_of_ble_eq_true rfl) ?_
  intro v1 w2 h3
  rcases h3 with h3 | h3
  ·
    obtain ⟨rfl, rfl, hf4⟩ := h3
    show X 0 0 [(x, .inr (6, [.ref tw, .ref pw, .ref uw, .ref o, .ref hh, .ref rd, .ref bk, .ref pl, .ref asd, .ref fd, .int (nI wr), .int hi9])), (tw, .inr (3, [.ref tsk, .ref tkd, .ref tmo, .ref tlv, .ref ttc, .ref tts, .ref ttl, .int (nI ttn), .int trg, .long thp, .int (nI tlw)]))] [(0, .ref x), (1, .int v)] 11 [.int 1]
    have hr := hf4
    rw [show nI wr - 1 = nI (wr - 1) from q_isub rfl rfl (by omega)] at hr
    obtain ⟨j, hj, rfl⟩ := q_w (n := wr - 1) rfl (by omega) hr
    have hnj : o_n (nI j) = j := o_n_nI (by omega)
    refine x_if_ne C dX7_force_11 (tgt := 17) rfl (fun _ => ?_) (fun q9 => by first | exact absurd q9 (by decide) | exact absurd (by decide) q9)
    refine x_aload_n C dX7_force_17 0 rfl ?_
    refine x_get C inlX7 rfl 0 (by decide) gw_1_16 dX7_force_18 0 rfl rfl ?_
    refine x_getN C inlX4 rfl 10 (by decide) nw_X7_110 dX7_force_21 1 rfl rfl ?_
    refine x_istore_n C dX7_force_24 (by decide) (lv' := [(2, .int (nI tlw)), (0, .ref x), (1, .int (nI j))]) rfl ?_
    refine x_aload_n C dX7_force_25 1 rfl ?_
    refine x_get C inlX7 rfl 0 (by decide) gw_1_16 dX7_force_26 0 rfl rfl ?_
    refine x_iload_n C dX7_force_29 2 rfl ?_
    refine x_putN C inlX4 rfl tyX4 tyX4_ok nmX4 10 (by decide) nw_X7_110 rfl dX7_force_30 1 rfl (rfl) rfl (Nat.le_of_ble_eq_true rfl) ?_
    show X _ _ [(x, .inr (6, [.ref tw, .ref pw, .ref uw, .ref o, .ref hh, .ref rd, .ref bk, .ref pl, .ref asd, .ref fd, .int (nI wr), .int hi9])), (tw, .inr (3, [.ref tsk, .ref tkd, .ref tmo, .ref tlv, .ref ttc, .ref tts, .ref ttl, .int (nI ttn), .int trg, .long thp, .int (nI j)]))] _ _ _
    refine x_iload_n C dX7_force_33 0 rfl ?_
    show X _ _ _ _ 34 _
    refine E dX7_force_34 (rfl) ?_
    exact ⟨(nI tlw), j, rfl, rfl, by (unfold o_force o_force_n); (try simp only [hnj]); (repeat (first | rw [if_pos (by first | (rw [if_pos (by decide)]; assumption) | (rw [if_neg (by decide), if_pos (by decide)]; assumption) | (rw [if_neg (by decide), if_neg (by decide)]; assumption) | assumption | decide | omega | exact o_one_t (by assumption) | (rw [o_one_f (by assumption)]; decide) | exact ⟨by assumption, by assumption⟩ | exact fun h9 => absurd h9.1 (by assumption) | exact fun h9 => absurd h9.2 (by assumption))] | rw [if_neg (by first | (rw [if_pos (by decide)]; assumption) | (rw [if_neg (by decide), if_pos (by decide)]; assumption) | (rw [if_neg (by decide), if_neg (by decide)]; assumption) | assumption | decide | omega | exact o_one_t (by assumption) | (rw [o_one_f (by assumption)]; decide) | exact ⟨by assumption, by assumption⟩ | exact fun h9 => absurd h9.1 (by assumption) | exact fun h9 => absurd h9.2 (by assumption))])); all_goals (first | rfl)⟩
  ·
    obtain ⟨rfl, rfl, hf5⟩ := h3
    show X 0 0 [(x, .inr (6, [.ref tw, .ref pw, .ref uw, .ref o, .ref hh, .ref rd, .ref bk, .ref pl, .ref asd, .ref fd, .int (nI wr), .int hi9])), (tw, .inr (3, [.ref tsk, .ref tkd, .ref tmo, .ref tlv, .ref ttc, .ref tts, .ref ttl, .int (nI ttn), .int trg, .long thp, .int (nI tlw)]))] [(0, .ref x), (1, .int v)] 11 [.int 0]
    refine x_if_ne C dX7_force_11 (tgt := 17) rfl (fun q9 => absurd q9 (by decide)) (fun _ => ?_)
    refine x_bipush C dX7_force_14 (v := (-2)) rfl ?_
    refine E dX7_force_16 (rfl) ?_
    exact ⟨(-2), tlw, rfl, rfl, by (unfold o_force o_force_n); (repeat (first | rw [if_pos (by first | (rw [if_pos (by decide)]; assumption) | (rw [if_neg (by decide), if_pos (by decide)]; assumption) | (rw [if_neg (by decide), if_neg (by decide)]; assumption) | assumption | decide | omega | exact o_one_t (by assumption) | (rw [o_one_f (by assumption)]; decide) | exact ⟨by assumption, by assumption⟩ | exact fun h9 => absurd h9.1 (by assumption) | exact fun h9 => absurd h9.2 (by assumption))] | rw [if_neg (by first | (rw [if_pos (by decide)]; assumption) | (rw [if_neg (by decide), if_pos (by decide)]; assumption) | (rw [if_neg (by decide), if_neg (by decide)]; assumption) | assumption | decide | omega | exact o_one_t (by assumption) | (rw [o_one_f (by assumption)]; decide) | exact ⟨by assumption, by assumption⟩ | exact fun h9 => absurd h9.1 (by assumption) | exact fun h9 => absurd h9.2 (by assumption))])); all_goals (first | rfl)⟩
theorem kS_X7_123 : GoodIn GW (va_wsS RX7 123 yX7_isCell (Cond.code yX7_isCell cX7_isCell 1 (some .boolean) :: GW)) := r_gS gw_18_21 gw_18_22 gw_1_2 gw_18_23
theorem hy_X7_isCell : yX7_isCell.cls ≠ "java/lang/invoke/MethodHandle" ∧ yX7_isCell.cls ≠ "java/lang/invoke/VarHandle" ∧ (parseMethodDescriptor yX7_isCell.desc).map (fun d => d.parameters.length) = some 1 := ⟨by decide +kernel, by decide +kernel, by decide +kernel⟩
theorem kS_X7_126 : GoodIn GW (va_wsS RX7 126 yX7_isKind (Cond.code yX7_isKind cX7_isKind 2 (some .boolean) :: GW)) := r_gS gw_19_0 gw_19_1 gw_1_2 gw_19_2
theorem hy_X7_isKind : yX7_isKind.cls ≠ "java/lang/invoke/MethodHandle" ∧ yX7_isKind.cls ≠ "java/lang/invoke/VarHandle" ∧ (parseMethodDescriptor yX7_isKind.desc).map (fun d => d.parameters.length) = some 2 := ⟨by decide +kernel, by decide +kernel, by decide +kernel⟩
theorem nw_X7_130 : (RX7, 130, "LeavesBeforeWind$Lawn", "kind", "[I", "LeavesBeforeWind") ∈ NWF := List.mem_of_getElem? (i := 5) rfl
theorem kV_X7_133 : GoodIn GW (wsV RX7 133 yX4_layOut.cls yX4_layOut (Cond.code yX4_layOut cX4_layOut 4 none :: GW)) := r_gV gw_19_3 gw_19_4 gw_19_5 gw_1_15 gw_19_6
theorem hy_X4_layOut : yX4_layOut.cls ≠ "java/lang/invoke/MethodHandle" ∧ yX4_layOut.cls ≠ "java/lang/invoke/VarHandle" ∧ (parseMethodDescriptor yX4_layOut.desc).map (fun d => d.parameters.length) = some 3 := ⟨by decide +kernel, by decide +kernel, by decide +kernel⟩
set_option maxHeartbeats 4000000 in
set_option maxRecDepth 100000 in
theorem c_X7_lay (l : Launch) (dG : va_G) (cI cM cW cS : ClassId) (x pw uw o hh rd bk pl asd fd : Nat) (wr : Nat) (hi9 : Int32) (tw tsk tkd tmo tlv ttc tts ttl ts0 ts1 ts2 ts3 : Nat) (ttn tlw : Nat) (trg : Int32) (thp : Int64) (tR0 tR1 tR2 tR3 tkf tmf tlf tcf tsf ttf : Nat → Int32) (c k m : Int32) : rM l yX7_lay cX7_lay 5 (some .int) ({ frames := 2, cells := 0, slots := 0, locals := 43 } : Room) dG (tY cI cM cW cS) rZ0 [.ref x, .int c, .int k, .int m] [(x, .inr (6, [.ref tw, .ref pw, .ref uw, .ref o, .ref hh, .ref rd, .ref bk, .ref pl, .ref asd, .ref fd, .int (nI wr), .int hi9])), (tw, .inr (3, [.ref tsk, .ref tkd, .ref tmo, .ref tlv, .ref ttc, .ref tts, .ref ttl, .int (nI ttn), .int trg, .long thp, .int (nI tlw)])), (tkd, .inl (cI, 36, .inl tkf)), (tmo, .inl (cI, 36, .inl tmf))] (fun ov oz => ∃ (r : Int32) (k' : Nat → Int32) (m' : Nat → Int32), ov = some (.int r) ∧ oz = [(x, .inr (6, [.ref tw, .ref pw, .ref uw, .ref o, .ref hh, .ref rd, .ref bk, .ref pl, .ref asd, .ref fd, .int (nI wr), .int hi9])), (tw, .inr (3, [.ref tsk, .ref tkd, .ref tmo, .ref tlv, .ref ttc, .ref tts, .ref ttl, .int (nI ttn), .int trg, .long thp, .int (nI tlw)])), (tkd, .inl (cI, 36, .inl k')), (tmo, .inl (cI, 36, .inl m'))] ∧ (r, k', m') = (o_lay tkf c k m, o_lay_f tkf c k m k, o_lay_f tmf c k m m)) := by
  refine rM_ofI rfl (Nat.le_of_ble_eq_true rfl) rfl (fun X C E => ?_)
  show X 0 0 [(x, .inr (6, [.ref tw, .ref pw, .ref uw, .ref o, .ref hh, .ref rd, .ref bk, .ref pl, .ref asd, .ref fd, .int (nI wr), .int hi9])), (tw, .inr (3, [.ref tsk, .ref tkd, .ref tmo, .ref tlv, .ref ttc, .ref tts, .ref ttl, .int (nI ttn), .int trg, .long thp, .int (nI tlw)])), (tkd, .inl (cI, 36, .inl tkf)), (tmo, .inl (cI, 36, .inl tmf))] [(0, .ref x), (1, .int c), (2, .int k), (3, .int m)] 0 []
  refine x_iload_n C dX7_lay_0 1 rfl ?_
  refine x_callS C (As := [.int c]) (st := []) (wc := []) (wr := [(x, .inr (6, [.ref tw, .ref pw, .ref uw, .ref o, .ref hh, .ref rd, .ref bk, .ref pl, .ref asd, .ref fd, .int (nI wr), .int hi9])), (tw, .inr (3, [.ref tsk, .ref tkd, .ref tmo, .ref tlv, .ref ttc, .ref tts, .ref ttl, .int (nI ttn), .int trg, .long thp, .int (nI tlw)])), (tkd, .inl (cI, 36, .inl tkf)), (tmo, .inl (cI, 36, .inl tmf))]) (c_X7_isCell l dG cI cM cW cS c ) rZ0_ok (fun _ _ _ _ => trivial) kS_X7_123 hy_X7_isCell ⟨Nat.le_of_ble_eq_true rfl, Nat.le_of_ble_eq_true rfl⟩ ⟨Nat.le_of_ble_eq_true rfl, Nat.le_of_ble_eq_true rfl⟩ dX7_lay_1 [] [0, 1, 2, 3] rfl rfl rfl rfl (by decide) rfl (Nat.le_of_ble_eq_true rfl) ?_
  intro v1 w2 h3
  rcases h3 with h3 | h3
  ·
    obtain ⟨rfl, rfl, hf4⟩ := h3
    show X 0 0 [(x, .inr (6, [.ref tw, .ref pw, .ref uw, .ref o, .ref hh, .ref rd, .ref bk, .ref pl, .ref asd, .ref fd, .int (nI wr), .int hi9])), (tw, .inr (3, [.ref tsk, .ref tkd, .ref tmo, .ref tlv, .ref ttc, .ref tts, .ref ttl, .int (nI ttn), .int trg, .long thp, .int (nI tlw)])), (tkd, .inl (cI, 36, .inl tkf)), (tmo, .inl (cI, 36, .inl tmf))] [(0, .ref x), (1, .int c), (2, .int k), (3, .int m)] 4 [.int 1]
    have hr5 := hf4
    obtain ⟨j, hj, rfl⟩ := q_w (n := 35) rfl (by decide) hf4
    have hnj : o_n (nI j) = j := o_n_nI (by omega)
    refine x_if_ne C dX7_lay_4 (tgt := 10) rfl (fun _ => ?_) (fun q9 => by first | exact absurd q9 (by decide) | exact absurd (by decide) q9)
    refine x_iload_n C dX7_lay_10 2 rfl ?_
    refine x_iload_n C dX7_lay_11 3 rfl ?_
    refine x_callS C (As := [.int k, .int m]) (st := []) (wc := []) (wr := [(x, .inr (6, [.ref tw, .ref pw, .ref uw, .ref o, .ref hh, .ref rd, .ref bk, .ref pl, .ref asd, .ref fd, .int (nI wr), .int hi9])), (tw, .inr (3, [.ref tsk, .ref tkd, .ref tmo, .ref tlv, .ref ttc, .ref tts, .ref ttl, .int (nI ttn), .int trg, .long thp, .int (nI tlw)])), (tkd, .inl (cI, 36, .inl tkf)), (tmo, .inl (cI, 36, .inl tmf))]) (c_X7_isKind l dG cI cM cW cS k m ) rZ0_ok (fun _ _ _ _ => trivial) kS_X7_126 hy_X7_isKind ⟨Nat.le_of_ble_eq_true rfl, Nat.le_of_ble_eq_true rfl⟩ ⟨Nat.le_of_ble_eq_true rfl, Nat.le_of_ble_eq_true rfl⟩ dX7_lay_12 [] [0, 1, 2, 3] rfl rfl rfl rfl (by decide) rfl (Nat.le_of_ble_eq_true rfl) ?_
    intro v6 w7 h8
    rcases h8 with h8 | h8
    ·
      obtain ⟨rfl, rfl, hf9⟩ := h8
      show X 0 0 [(x, .inr (6, [.ref tw, .ref pw, .ref uw, .ref o, .ref hh, .ref rd, .ref bk, .ref pl, .ref asd, .ref fd, .int (nI wr), .int hi9])), (tw, .inr (3, [.ref tsk, .ref tkd, .ref tmo, .ref tlv, .ref ttc, .ref tts, .ref ttl, .int (nI ttn), .int trg, .long thp, .int (nI tlw)])), (tkd, .inl (cI, 36, .inl tkf)), (tmo, .inl (cI, 36, .inl tmf))] [(0, .ref x), (1, .int (nI j)), (2, .int k), (3, .int m)] 15 [.int 1]
      refine x_if_ne C dX7_lay_15 (tgt := 21) rfl (fun _ => ?_) (fun q9 => by first | exact absurd q9 (by decide) | exact absurd (by decide) q9)
      refine x_aload_n C dX7_lay_21 0 rfl ?_
      refine x_get C inlX7 rfl 0 (by decide) gw_1_16 dX7_lay_22 0 rfl rfl ?_
      refine x_getN C inlX4 rfl 1 (by decide) nw_X7_130 dX7_lay_25 1 rfl rfl ?_
      refine x_iload_n C dX7_lay_28 1 rfl ?_
      refine x_iaload C 0 rfl dX7_lay_29 j (q_cl rfl (by omega)) (q_ix rfl (by omega) (by omega)) 2 rfl ?_
      refine x_istore C dX7_lay_30 (by decide) (lv' := [(4, .int (tkf j)), (0, .ref x), (1, .int (nI j)), (2, .int k), (3, .int m)]) rfl ?_
      refine x_aload_n C dX7_lay_32 1 rfl ?_
      refine x_get C inlX7 rfl 0 (by decide) gw_1_16 dX7_lay_33 0 rfl rfl ?_
      refine x_iload_n C dX7_lay_36 2 rfl ?_
      show X _ _ _ _ 37 _
      refine x_iload_n C dX7_lay_37 3 rfl ?_
      refine x_iload_n C dX7_lay_38 4 rfl ?_
      refine x_callV C (As := [.int (nI j), .int k, .int m]) (st := []) (wc := [(tw, .inr (3, [.ref tsk, .ref tkd, .ref tmo, .ref tlv, .ref ttc, .ref tts, .ref ttl, .int (nI ttn), .int trg, .long thp, .int (nI tlw)])), (tkd, .inl (cI, 36, .inl tkf)), (tmo, .inl (cI, 36, .inl tmf))]) (wr := [(x, .inr (6, [.ref tw, .ref pw, .ref uw, .ref o, .ref hh, .ref rd, .ref bk, .ref pl, .ref asd, .ref fd, .int (nI wr), .int hi9]))]) (c_X4_layOut l dG cI cM cW cS tw tsk tkd tmo tlv ttc tts ttl 0 0 0 0 ttn tlw trg thp tkf tmf j k m (by first | assumption | omega | decide)) rZ0_ok (fun _ _ _ _ => trivial) kV_X7_133 ⟨rfl, hy_X4_layOut⟩ ⟨Nat.le_of_ble_eq_true rfl, Nat.le_of_ble_eq_true rfl⟩ ⟨Nat.le_of_ble_eq_true rfl, Nat.le_of_ble_eq_true rfl⟩ dX7_lay_39 1 rfl rfl [1, 2, 3] [0] rfl rfl rfl rfl (by decide) rfl (Nat.le_of_ble_eq_true rfl) ?_
      intro v10 w11 h12
      obtain ⟨rfl, rfl, hf13⟩ := h12
      show X 0 0 [(x, .inr (6, [.ref tw, .ref pw, .ref uw, .ref o, .ref hh, .ref rd, .ref bk, .ref pl, .ref asd, .ref fd, .int (nI wr), .int hi9])), (tw, .inr (3, [.ref tsk, .ref tkd, .ref tmo, .ref tlv, .ref ttc, .ref tts, .ref ttl, .int (nI ttn), .int trg, .long thp, .int (nI tlw)])), (tkd, .inl (cI, 36, .inl (upd tkf j k))), (tmo, .inl (cI, 36, .inl (upd tmf j m)))] [(4, .int (tkf j)), (0, .ref x), (1, .int (nI j)), (2, .int k), (3, .int m)] 42 []
      refine x_iload C dX7_lay_42 0 rfl ?_
      refine E dX7_lay_44 (rfl) ?_
      exact ⟨(tkf j), (upd tkf j k), (upd tmf j m), rfl, rfl, by (unfold o_lay o_lay_f); (try simp only [hnj]); (repeat (first | rw [if_pos (by first | (rw [if_pos (by decide)]; assumption) | (rw [if_neg (by decide), if_pos (by decide)]; assumption) | (rw [if_neg (by decide), if_neg (by decide)]; assumption) | assumption | decide | omega | exact o_one_t (by assumption) | (rw [o_one_f (by assumption)]; decide) | exact ⟨by assumption, by assumption⟩ | exact fun h9 => absurd h9.1 (by assumption) | exact fun h9 => absurd h9.2 (by assumption))] | rw [if_neg (by first | (rw [if_pos (by decide)]; assumption) | (rw [if_neg (by decide), if_pos (by decide)]; assumption) | (rw [if_neg (by decide), if_neg (by decide)]; assumption) | assumption | decide | omega | exact o_one_t (by assumption) | (rw [o_one_f (by assumption)]; decide) | exact ⟨by assumption, by assumption⟩ | exact fun h9 => absurd h9.1 (by assumption) | exact fun h9 => absurd h9.2 (by assumption))])); all_goals (first | rfl)⟩
    ·
      obtain ⟨rfl, rfl, hf14⟩ := h8
      show X 0 0 [(x, .inr (6, [.ref tw, .ref pw, .ref uw, .ref o, .ref hh, .ref rd, .ref bk, .ref pl, .ref asd, .ref fd, .int (nI wr), .int hi9])), (tw, .inr (3, [.ref tsk, .ref tkd, .ref tmo, .ref tlv, .ref ttc, .ref tts, .ref ttl, .int (nI ttn), .int trg, .long thp, .int (nI tlw)])), (tkd, .inl (cI, 36, .inl tkf)), (tmo, .inl (cI, 36, .inl tmf))] [(0, .ref x), (1, .int (nI j)), (2, .int k), (3, .int m)] 15 [.int 0]
      refine x_if_ne C dX7_lay_15 (tgt := 21) rfl (fun q9 => absurd q9 (by decide)) (fun _ => ?_)
      refine x_bipush C dX7_lay_18 (v := (-7)) rfl ?_
      refine E dX7_lay_20 (rfl) ?_
      exact ⟨(-7), tkf, tmf, rfl, rfl, by (unfold o_lay o_lay_f); (try simp only [hnj]); (repeat (first | rw [if_pos (by first | (rw [if_pos (by decide)]; assumption) | (rw [if_neg (by decide), if_pos (by decide)]; assumption) | (rw [if_neg (by decide), if_neg (by decide)]; assumption) | assumption | decide | omega | exact o_one_t (by assumption) | (rw [o_one_f (by assumption)]; decide) | exact ⟨by assumption, by assumption⟩ | exact fun h9 => absurd h9.1 (by assumption) | exact fun h9 => absurd h9.2 (by assumption))] | rw [if_neg (by first | (rw [if_pos (by decide)]; assumption) | (rw [if_neg (by decide), if_pos (by decide)]; assumption) | (rw [if_neg (by decide), if_neg (by decide)]; assumption) | assumption | decide | omega | exact o_one_t (by assumption) | (rw [o_one_f (by assumption)]; decide) | exact ⟨by assumption, by assumption⟩ | exact fun h9 => absurd h9.1 (by assumption) | exact fun h9 => absurd h9.2 (by assumption))])); all_goals (first | rfl)⟩
  ·
    obtain ⟨rfl, rfl, hf15⟩ := h3
    show X 0 0 [(x, .inr (6, [.ref tw, .ref pw, .ref uw, .ref o, .ref hh, .ref rd, .ref bk, .ref pl, .ref asd, .ref fd, .int (nI wr), .int hi9])), (tw, .inr (3, [.ref tsk, .ref tkd, .ref tmo, .ref tlv, .ref ttc, .ref tts, .ref ttl, .int (nI ttn), .int trg, .long thp, .int (nI tlw)])), (tkd, .inl (cI, 36, .inl tkf)), (tmo, .inl (cI, 36, .inl tmf))] [(0, .ref x), (1, .int c), (2, .int k), (3, .int m)] 4 [.int 0]
    refine x_if_ne C dX7_lay_4 (tgt := 10) rfl (fun q9 => absurd q9 (by decide)) (fun _ => ?_)
    refine x_bipush C dX7_lay_7 (v := (-5)) rfl ?_
    refine E dX7_lay_9 (rfl) ?_
    exact ⟨(-5), tkf, tmf, rfl, rfl, by (unfold o_lay o_lay_f); (repeat (first | rw [if_pos (by first | (rw [if_pos (by decide)]; assumption) | (rw [if_neg (by decide), if_pos (by decide)]; assumption) | (rw [if_neg (by decide), if_neg (by decide)]; assumption) | assumption | decide | omega | exact o_one_t (by assumption) | (rw [o_one_f (by assumption)]; decide) | exact ⟨by assumption, by assumption⟩ | exact fun h9 => absurd h9.1 (by assumption) | exact fun h9 => absurd h9.2 (by assumption))] | rw [if_neg (by first | (rw [if_pos (by decide)]; assumption) | (rw [if_neg (by decide), if_pos (by decide)]; assumption) | (rw [if_neg (by decide), if_neg (by decide)]; assumption) | assumption | decide | omega | exact o_one_t (by assumption) | (rw [o_one_f (by assumption)]; decide) | exact ⟨by assumption, by assumption⟩ | exact fun h9 => absurd h9.1 (by assumption) | exact fun h9 => absurd h9.2 (by assumption))])); all_goals (first | rfl)⟩
theorem nw_X7_143 : (RX7, 143, "LeavesBeforeWind$Lawn", "more", "[I", "LeavesBeforeWind") ∈ NWF := List.mem_of_getElem? (i := 6) rfl
theorem nw_X7_146 : (RX7, 146, "LeavesBeforeWind$Lawn", "leaves", "[I", "LeavesBeforeWind") ∈ NWF := List.mem_of_getElem? (i := 7) rfl
set_option maxHeartbeats 4000000 in
set_option maxRecDepth 100000 in
theorem c_X7_cellTold (l : Launch) (dG : va_G) (cI cM cW cS : ClassId) (x pw uw o hh rd bk pl asd fd : Nat) (wr : Nat) (hi9 : Int32) (tw tsk tkd tmo tlv ttc tts ttl ts0 ts1 ts2 ts3 : Nat) (ttn tlw : Nat) (trg : Int32) (thp : Int64) (tR0 tR1 tR2 tR3 tkf tmf tlf tcf tsf ttf : Nat → Int32) (c wh : Int32) : rM l yX7_cellTold cX7_cellTold 3 (some .int) ({ frames := 2, cells := 0, slots := 0, locals := 42 } : Room) dG (tY cI cM cW cS) rZ0 [.ref x, .int c, .int wh] [(x, .inr (6, [.ref tw, .ref pw, .ref uw, .ref o, .ref hh, .ref rd, .ref bk, .ref pl, .ref asd, .ref fd, .int (nI wr), .int hi9])), (tw, .inr (3, [.ref tsk, .ref tkd, .ref tmo, .ref tlv, .ref ttc, .ref tts, .ref ttl, .int (nI ttn), .int trg, .long thp, .int (nI tlw)])), (tkd, .inl (cI, 36, .inl tkf)), (tmo, .inl (cI, 36, .inl tmf)), (tlv, .inl (cI, 36, .inl tlf))] (fun ov oz => ∃ (r : Int32), ov = some (.int r) ∧ oz = [(x, .inr (6, [.ref tw, .ref pw, .ref uw, .ref o, .ref hh, .ref rd, .ref bk, .ref pl, .ref asd, .ref fd, .int (nI wr), .int hi9])), (tw, .inr (3, [.ref tsk, .ref tkd, .ref tmo, .ref tlv, .ref ttc, .ref tts, .ref ttl, .int (nI ttn), .int trg, .long thp, .int (nI tlw)])), (tkd, .inl (cI, 36, .inl tkf)), (tmo, .inl (cI, 36, .inl tmf)), (tlv, .inl (cI, 36, .inl tlf))] ∧ r = o_cellTold tkf tmf tlf c wh) := by
  refine rM_ofI rfl (Nat.le_of_ble_eq_true rfl) rfl (fun X C E => ?_)
  show X 0 0 [(x, .inr (6, [.ref tw, .ref pw, .ref uw, .ref o, .ref hh, .ref rd, .ref bk, .ref pl, .ref asd, .ref fd, .int (nI wr), .int hi9])), (tw, .inr (3, [.ref tsk, .ref tkd, .ref tmo, .ref tlv, .ref ttc, .ref tts, .ref ttl, .int (nI ttn), .int trg, .long thp, .int (nI tlw)])), (tkd, .inl (cI, 36, .inl tkf)), (tmo, .inl (cI, 36, .inl tmf)), (tlv, .inl (cI, 36, .inl tlf))] [(0, .ref x), (1, .int c), (2, .int wh)] 0 []
  refine x_iload_n C dX7_cellTold_0 1 rfl ?_
  refine x_callS C (As := [.int c]) (st := []) (wc := []) (wr := [(x, .inr (6, [.ref tw, .ref pw, .ref uw, .ref o, .ref hh, .ref rd, .ref bk, .ref pl, .ref asd, .ref fd, .int (nI wr), .int hi9])), (tw, .inr (3, [.ref tsk, .ref tkd, .ref tmo, .ref tlv, .ref ttc, .ref tts, .ref ttl, .int (nI ttn), .int trg, .long thp, .int (nI tlw)])), (tkd, .inl (cI, 36, .inl tkf)), (tmo, .inl (cI, 36, .inl tmf)), (tlv, .inl (cI, 36, .inl tlf))]) (c_X7_isCell l dG cI cM cW cS c ) rZ0_ok (fun _ _ _ _ => trivial) kS_X7_123 hy_X7_isCell ⟨Nat.le_of_ble_eq_true rfl, Nat.le_of_ble_eq_true rfl⟩ ⟨Nat.le_of_ble_eq_true rfl, Nat.le_of_ble_eq_true rfl⟩ dX7_cellTold_1 [] [0, 1, 2, 3, 4] rfl rfl rfl rfl (by decide) rfl (Nat.le_of_ble_eq_true rfl) ?_
  intro v1 w2 h3
  rcases h3 with h3 | h3
  ·
    obtain ⟨rfl, rfl, hf4⟩ := h3
    show X 0 0 [(x, .inr (6, [.ref tw, .ref pw, .ref uw, .ref o, .ref hh, .ref rd, .ref bk, .ref pl, .ref asd, .ref fd, .int (nI wr), .int hi9])), (tw, .inr (3, [.ref tsk, .ref tkd, .ref tmo, .ref tlv, .ref ttc, .ref tts, .ref ttl, .int (nI ttn), .int trg, .long thp, .int (nI tlw)])), (tkd, .inl (cI, 36, .inl tkf)), (tmo, .inl (cI, 36, .inl tmf)), (tlv, .inl (cI, 36, .inl tlf))] [(0, .ref x), (1, .int c), (2, .int wh)] 4 [.int 1]
    have hr5 := hf4
    obtain ⟨j, hj, rfl⟩ := q_w (n := 35) rfl (by decide) hf4
    have hnj : o_n (nI j) = j := o_n_nI (by omega)
    refine x_if_ne C dX7_cellTold_4 (tgt := 10) rfl (fun _ => ?_) (fun q9 => by first | exact absurd q9 (by decide) | exact absurd (by decide) q9)
    refine x_iload_n C dX7_cellTold_10 2 rfl ?_
    rcases q_sw wh (0) (2) with q6 | q6
    ·
      refine x_tableOut C dX7_cellTold_11 q6 (tgt := 66) rfl ?_
      have hk9 : ¬ wh = 0 ∧ ¬ wh = 1 ∧ ¬ wh = 2 := by refine ⟨?_, ?_, ?_⟩ <;> (intro h; rw [h] at q6; revert q6; decide)
      obtain ⟨hk0, hk1, hk2⟩ := hk9
      refine x_bipush C dX7_cellTold_66 (v := (-7)) rfl ?_
      refine E dX7_cellTold_68 (rfl) ?_
      exact ⟨(-7), rfl, rfl, by (unfold o_cellTold); (try simp only [hnj]); (repeat (first | rw [if_pos (by first | (rw [if_pos (by decide)]; assumption) | (rw [if_neg (by decide), if_pos (by decide)]; assumption) | (rw [if_neg (by decide), if_neg (by decide)]; assumption) | assumption | decide | omega | exact o_one_t (by assumption) | (rw [o_one_f (by assumption)]; decide) | exact ⟨by assumption, by assumption⟩ | exact fun h9 => absurd h9.1 (by assumption) | exact fun h9 => absurd h9.2 (by assumption))] | rw [if_neg (by first | (rw [if_pos (by decide)]; assumption) | (rw [if_neg (by decide), if_pos (by decide)]; assumption) | (rw [if_neg (by decide), if_neg (by decide)]; assumption) | assumption | decide | omega | exact o_one_t (by assumption) | (rw [o_one_f (by assumption)]; decide) | exact ⟨by assumption, by assumption⟩ | exact fun h9 => absurd h9.1 (by assumption) | exact fun h9 => absurd h9.2 (by assumption))])); all_goals (first | rfl)⟩
    ·
      rcases q_sw_0_2 q6 with q6 | q6 | q6
      ·
        have q6 : wh = 0 := q6
        refine x_tableIn C dX7_cellTold_11 (by rw [q6]; decide) (by rw [q6]; decide) (off := 25) (tgt := 36) (by rw [q6]; rfl) rfl ?_
        refine x_aload_n C dX7_cellTold_36 0 rfl ?_
        refine x_get C inlX7 rfl 0 (by decide) gw_1_16 dX7_cellTold_37 0 rfl rfl ?_
        refine x_getN C inlX4 rfl 1 (by decide) nw_X7_130 dX7_cellTold_40 1 rfl rfl ?_
        refine x_iload_n C dX7_cellTold_43 1 rfl ?_
        refine x_iaload C 0 rfl dX7_cellTold_44 j (q_cl rfl (by omega)) (q_ix rfl (by omega) (by omega)) 2 rfl ?_
        refine E dX7_cellTold_45 (rfl) ?_
        exact ⟨(tkf j), rfl, rfl, by (unfold o_cellTold); (try simp only [hnj]); (repeat (first | rw [if_pos (by first | (rw [if_pos (by decide)]; assumption) | (rw [if_neg (by decide), if_pos (by decide)]; assumption) | (rw [if_neg (by decide), if_neg (by decide)]; assumption) | assumption | decide | omega | exact o_one_t (by assumption) | (rw [o_one_f (by assumption)]; decide) | exact ⟨by assumption, by assumption⟩ | exact fun h9 => absurd h9.1 (by assumption) | exact fun h9 => absurd h9.2 (by assumption))] | rw [if_neg (by first | (rw [if_pos (by decide)]; assumption) | (rw [if_neg (by decide), if_pos (by decide)]; assumption) | (rw [if_neg (by decide), if_neg (by decide)]; assumption) | assumption | decide | omega | exact o_one_t (by assumption) | (rw [o_one_f (by assumption)]; decide) | exact ⟨by assumption, by assumption⟩ | exact fun h9 => absurd h9.1 (by assumption) | exact fun h9 => absurd h9.2 (by assumption))])); all_goals (first | rfl)⟩
      ·
        have q6 : wh = 1 := q6
        refine x_tableIn C dX7_cellTold_11 (by rw [q6]; decide) (by rw [q6]; decide) (off := 35) (tgt := 46) (by rw [q6]; rfl) rfl ?_
        have hk0 : ¬ wh = 0 := by rw [q6]; decide
        refine x_aload_n C dX7_cellTold_46 0 rfl ?_
        refine x_get C inlX7 rfl 0 (by decide) gw_1_16 dX7_cellTold_47 0 rfl rfl ?_
        refine x_getN C inlX4 rfl 2 (by decide) nw_X7_143 dX7_cellTold_50 1 rfl rfl ?_
        refine x_iload_n C dX7_cellTold_53 1 rfl ?_
        refine x_iaload C 0 rfl dX7_cellTold_54 j (q_cl rfl (by omega)) (q_ix rfl (by omega) (by omega)) 3 rfl ?_
        refine E dX7_cellTold_55 (rfl) ?_
        exact ⟨(tmf j), rfl, rfl, by (unfold o_cellTold); (try simp only [hnj]); (repeat (first | rw [if_pos (by first | (rw [if_pos (by decide)]; assumption) | (rw [if_neg (by decide), if_pos (by decide)]; assumption) | (rw [if_neg (by decide), if_neg (by decide)]; assumption) | assumption | decide | omega | exact o_one_t (by assumption) | (rw [o_one_f (by assumption)]; decide) | exact ⟨by assumption, by assumption⟩ | exact fun h9 => absurd h9.1 (by assumption) | exact fun h9 => absurd h9.2 (by assumption))] | rw [if_neg (by first | (rw [if_pos (by decide)]; assumption) | (rw [if_neg (by decide), if_pos (by decide)]; assumption) | (rw [if_neg (by decide), if_neg (by decide)]; assumption) | assumption | decide | omega | exact o_one_t (by assumption) | (rw [o_one_f (by assumption)]; decide) | exact ⟨by assumption, by assumption⟩ | exact fun h9 => absurd h9.1 (by assumption) | exact fun h9 => absurd h9.2 (by assumption))])); all_goals (first | rfl)⟩
      ·
        have q6 : wh = 2 := q6
        refine x_tableIn C dX7_cellTold_11 (by rw [q6]; decide) (by rw [q6]; decide) (off := 45) (tgt := 56) (by rw [q6]; rfl) rfl ?_
        have hk0 : ¬ wh = 0 := by rw [q6]; decide
        have hk1 : ¬ wh = 1 := by rw [q6]; decide
        refine x_aload_n C dX7_cellTold_56 0 rfl ?_
        refine x_get C inlX7 rfl 0 (by decide) gw_1_16 dX7_cellTold_57 0 rfl rfl ?_
        refine x_getN C inlX4 rfl 3 (by decide) nw_X7_146 dX7_cellTold_60 1 rfl rfl ?_
        refine x_iload_n C dX7_cellTold_63 1 rfl ?_
        refine x_iaload C 0 rfl dX7_cellTold_64 j (q_cl rfl (by omega)) (q_ix rfl (by omega) (by omega)) 4 rfl ?_
        refine E dX7_cellTold_65 (rfl) ?_
        exact ⟨(tlf j), rfl, rfl, by (unfold o_cellTold); (try simp only [hnj]); (repeat (first | rw [if_pos (by first | (rw [if_pos (by decide)]; assumption) | (rw [if_neg (by decide), if_pos (by decide)]; assumption) | (rw [if_neg (by decide), if_neg (by decide)]; assumption) | assumption | decide | omega | exact o_one_t (by assumption) | (rw [o_one_f (by assumption)]; decide) | exact ⟨by assumption, by assumption⟩ | exact fun h9 => absurd h9.1 (by assumption) | exact fun h9 => absurd h9.2 (by assumption))] | rw [if_neg (by first | (rw [if_pos (by decide)]; assumption) | (rw [if_neg (by decide), if_pos (by decide)]; assumption) | (rw [if_neg (by decide), if_neg (by decide)]; assumption) | assumption | decide | omega | exact o_one_t (by assumption) | (rw [o_one_f (by assumption)]; decide) | exact ⟨by assumption, by assumption⟩ | exact fun h9 => absurd h9.1 (by assumption) | exact fun h9 => absurd h9.2 (by assumption))])); all_goals (first | rfl)⟩
  ·
    obtain ⟨rfl, rfl, hf7⟩ := h3
    show X 0 0 [(x, .inr (6, [.ref tw, .ref pw, .ref uw, .ref o, .ref hh, .ref rd, .ref bk, .ref pl, .ref asd, .ref fd, .int (nI wr), .int hi9])), (tw, .inr (3, [.ref tsk, .ref tkd, .ref tmo, .ref tlv, .ref ttc, .ref tts, .ref ttl, .int (nI ttn), .int trg, .long thp, .int (nI tlw)])), (tkd, .inl (cI, 36, .inl tkf)), (tmo, .inl (cI, 36, .inl tmf)), (tlv, .inl (cI, 36, .inl tlf))] [(0, .ref x), (1, .int c), (2, .int wh)] 4 [.int 0]
    refine x_if_ne C dX7_cellTold_4 (tgt := 10) rfl (fun q9 => absurd q9 (by decide)) (fun _ => ?_)
    refine x_bipush C dX7_cellTold_7 (v := (-5)) rfl ?_
    refine E dX7_cellTold_9 (rfl) ?_
    exact ⟨(-5), rfl, rfl, by (unfold o_cellTold); (repeat (first | rw [if_pos (by first | (rw [if_pos (by decide)]; assumption) | (rw [if_neg (by decide), if_pos (by decide)]; assumption) | (rw [if_neg (by decide), if_neg (by decide)]; assumption) | assumption | decide | omega | exact o_one_t (by assumption) | (rw [o_one_f (by assumption)]; decide) | exact ⟨by assumption, by assumption⟩ | exact fun h9 => absurd h9.1 (by assumption) | exact fun h9 => absurd h9.2 (by assumption))] | rw [if_neg (by first | (rw [if_pos (by decide)]; assumption) | (rw [if_neg (by decide), if_pos (by decide)]; assumption) | (rw [if_neg (by decide), if_neg (by decide)]; assumption) | assumption | decide | omega | exact o_one_t (by assumption) | (rw [o_one_f (by assumption)]; decide) | exact ⟨by assumption, by assumption⟩ | exact fun h9 => absurd h9.1 (by assumption) | exact fun h9 => absurd h9.2 (by assumption))])); all_goals (first | rfl)⟩
theorem nw_X7_149 : (RX7, 149, "LeavesBeforeWind$Lawn", "treeCell", "[I", "LeavesBeforeWind") ∈ NWF := List.mem_of_getElem? (i := 8) rfl
theorem nw_X7_152 : (RX7, 152, "LeavesBeforeWind$Lawn", "treeSort", "[I", "LeavesBeforeWind") ∈ NWF := List.mem_of_getElem? (i := 9) rfl
theorem nw_X7_155 : (RX7, 155, "LeavesBeforeWind$Lawn", "treeLeaves", "[I", "LeavesBeforeWind") ∈ NWF := List.mem_of_getElem? (i := 10) rfl
set_option maxHeartbeats 4000000 in
set_option maxRecDepth 100000 in
theorem c_X7_tree (l : Launch) (dG : va_G) (cI cM cW cS : ClassId) (x pw uw o hh rd bk pl asd fd : Nat) (wr : Nat) (hi9 : Int32) (tw tsk tkd tmo tlv ttc tts ttl ts0 ts1 ts2 ts3 : Nat) (ttn tlw : Nat) (trg : Int32) (thp : Int64) (tR0 tR1 tR2 tR3 tkf tmf tlf tcf tsf ttf : Nat → Int32) (c s l9 : Int32) (htn : ttn ≤ 4) : rM l yX7_tree cX7_tree 5 (some .int) ({ frames := 2, cells := 0, slots := 0, locals := 42 } : Room) dG (tY cI cM cW cS) rZ0 [.ref x, .int c, .int s, .int l9] [(x, .inr (6, [.ref tw, .ref pw, .ref uw, .ref o, .ref hh, .ref rd, .ref bk, .ref pl, .ref asd, .ref fd, .int (nI wr), .int hi9])), (tw, .inr (3, [.ref tsk, .ref tkd, .ref tmo, .ref tlv, .ref ttc, .ref tts, .ref ttl, .int (nI ttn), .int trg, .long thp, .int (nI tlw)])), (ttc, .inl (cI, 4, .inl tcf)), (tts, .inl (cI, 4, .inl tsf)), (ttl, .inl (cI, 4, .inl ttf))] (fun ov oz => ∃ (r : Int32) (n' : Nat) (a' : Nat → Int32) (b' : Nat → Int32) (c' : Nat → Int32), ov = some (.int r) ∧ oz = [(x, .inr (6, [.ref tw, .ref pw, .ref uw, .ref o, .ref hh, .ref rd, .ref bk, .ref pl, .ref asd, .ref fd, .int (nI wr), .int hi9])), (tw, .inr (3, [.ref tsk, .ref tkd, .ref tmo, .ref tlv, .ref ttc, .ref tts, .ref ttl, .int (nI n'), .int trg, .long thp, .int (nI tlw)])), (ttc, .inl (cI, 4, .inl a')), (tts, .inl (cI, 4, .inl b')), (ttl, .inl (cI, 4, .inl c'))] ∧ (r, n', a', b', c') = (o_tree ttn c s l9, o_tree_n ttn c s l9, o_tree_f tcf ttn c s l9 c, o_tree_f tsf ttn c s l9 s, o_tree_f ttf ttn c s l9 l9)) := by
  refine rM_ofI rfl (Nat.le_of_ble_eq_true rfl) rfl (fun X C E => ?_)
  show X 0 0 [(x, .inr (6, [.ref tw, .ref pw, .ref uw, .ref o, .ref hh, .ref rd, .ref bk, .ref pl, .ref asd, .ref fd, .int (nI wr), .int hi9])), (tw, .inr (3, [.ref tsk, .ref tkd, .ref tmo, .ref tlv, .ref ttc, .ref tts, .ref ttl, .int (nI ttn), .int trg, .long thp, .int (nI tlw)])), (ttc, .inl (cI, 4, .inl tcf)), (tts, .inl (cI, 4, .inl tsf)), (ttl, .inl (cI, 4, .inl ttf))] [(0, .ref x), (1, .int c), (2, .int s), (3, .int l9)] 0 []
  refine x_iload_n C dX7_tree_0 1 rfl ?_
  refine x_callS C (As := [.int c]) (st := []) (wc := []) (wr := [(x, .inr (6, [.ref tw, .ref pw, .ref uw, .ref o, .ref hh, .ref rd, .ref bk, .ref pl, .ref asd, .ref fd, .int (nI wr), .int hi9])), (tw, .inr (3, [.ref tsk, .ref tkd, .ref tmo, .ref tlv, .ref ttc, .ref tts, .ref ttl, .int (nI ttn), .int trg, .long thp, .int (nI tlw)])), (ttc, .inl (cI, 4, .inl tcf)), (tts, .inl (cI, 4, .inl tsf)), (ttl, .inl (cI, 4, .inl ttf))]) (c_X7_isCell l dG cI cM cW cS c ) rZ0_ok (fun _ _ _ _ => trivial) kS_X7_123 hy_X7_isCell ⟨Nat.le_of_ble_eq_true rfl, Nat.le_of_ble_eq_true rfl⟩ ⟨Nat.le_of_ble_eq_true rfl, Nat.le_of_ble_eq_true rfl⟩ dX7_tree_1 [] [0, 1, 2, 3, 4] rfl rfl rfl rfl (by decide) rfl (Nat.le_of_ble_eq_true rfl) ?_
  intro v1 w2 h3
  rcases h3 with h3 | h3
  ·
    obtain ⟨rfl, rfl, hf4⟩ := h3
    show X 0 0 [(x, .inr (6, [.ref tw, .ref pw, .ref uw, .ref o, .ref hh, .ref rd, .ref bk, .ref pl, .ref asd, .ref fd, .int (nI wr), .int hi9])), (tw, .inr (3, [.ref tsk, .ref tkd, .ref tmo, .ref tlv, .ref ttc, .ref tts, .ref ttl, .int (nI ttn), .int trg, .long thp, .int (nI tlw)])), (ttc, .inl (cI, 4, .inl tcf)), (tts, .inl (cI, 4, .inl tsf)), (ttl, .inl (cI, 4, .inl ttf))] [(0, .ref x), (1, .int c), (2, .int s), (3, .int l9)] 4 [.int 1]
    refine x_if_eq C dX7_tree_4 (tgt := 28) rfl (fun q9 => absurd q9 (by decide)) (fun _ => ?_)
    refine x_iload_n C dX7_tree_7 2 rfl ?_
    refine x_iconst C dX7_tree_8 (v := 0) rfl ?_
    refine x_bipush C dX7_tree_9 (v := 9) rfl ?_
    refine x_callS C (As := [.int s, .int 0, .int 9]) (st := []) (wc := []) (wr := [(x, .inr (6, [.ref tw, .ref pw, .ref uw, .ref o, .ref hh, .ref rd, .ref bk, .ref pl, .ref asd, .ref fd, .int (nI wr), .int hi9])), (tw, .inr (3, [.ref tsk, .ref tkd, .ref tmo, .ref tlv, .ref ttc, .ref tts, .ref ttl, .int (nI ttn), .int trg, .long thp, .int (nI tlw)])), (ttc, .inl (cI, 4, .inl tcf)), (tts, .inl (cI, 4, .inl tsf)), (ttl, .inl (cI, 4, .inl ttf))]) (c_X7_within l dG cI cM cW cS s 0 9 ) rZ0_ok (fun _ _ _ _ => trivial) kS_X7_92 hy_X7_within ⟨Nat.le_of_ble_eq_true rfl, Nat.le_of_ble_eq_true rfl⟩ ⟨Nat.le_of_ble_eq_true rfl, Nat.le_of_ble_eq_true rfl⟩ dX7_tree_11 [] [0, 1, 2, 3, 4] rfl rfl rfl rfl (by decide) rfl (Nat.le_of_ble_eq_true rfl) ?_
    intro v5 w6 h7
    rcases h7 with h7 | h7
    ·
      obtain ⟨rfl, rfl, hf8⟩ := h7
      show X 0 0 [(x, .inr (6, [.ref tw, .ref pw, .ref uw, .ref o, .ref hh, .ref rd, .ref bk, .ref pl, .ref asd, .ref fd, .int (nI wr), .int hi9])), (tw, .inr (3, [.ref tsk, .ref tkd, .ref tmo, .ref tlv, .ref ttc, .ref tts, .ref ttl, .int (nI ttn), .int trg, .long thp, .int (nI tlw)])), (ttc, .inl (cI, 4, .inl tcf)), (tts, .inl (cI, 4, .inl tsf)), (ttl, .inl (cI, 4, .inl ttf))] [(0, .ref x), (1, .int c), (2, .int s), (3, .int l9)] 14 [.int 1]
      refine x_if_eq C dX7_tree_14 (tgt := 28) rfl (fun q9 => absurd q9 (by decide)) (fun _ => ?_)
      refine x_iload_n C dX7_tree_17 3 rfl ?_
      refine x_iconst C dX7_tree_18 (v := 0) rfl ?_
      refine x_sipush C dX7_tree_19 (v := 999) rfl ?_
      refine x_callS C (As := [.int l9, .int 0, .int 999]) (st := []) (wc := []) (wr := [(x, .inr (6, [.ref tw, .ref pw, .ref uw, .ref o, .ref hh, .ref rd, .ref bk, .ref pl, .ref asd, .ref fd, .int (nI wr), .int hi9])), (tw, .inr (3, [.ref tsk, .ref tkd, .ref tmo, .ref tlv, .ref ttc, .ref tts, .ref ttl, .int (nI ttn), .int trg, .long thp, .int (nI tlw)])), (ttc, .inl (cI, 4, .inl tcf)), (tts, .inl (cI, 4, .inl tsf)), (ttl, .inl (cI, 4, .inl ttf))]) (c_X7_within l dG cI cM cW cS l9 0 999 ) rZ0_ok (fun _ _ _ _ => trivial) kS_X7_92 hy_X7_within ⟨Nat.le_of_ble_eq_true rfl, Nat.le_of_ble_eq_true rfl⟩ ⟨Nat.le_of_ble_eq_true rfl, Nat.le_of_ble_eq_true rfl⟩ dX7_tree_22 [] [0, 1, 2, 3, 4] rfl rfl rfl rfl (by decide) rfl (Nat.le_of_ble_eq_true rfl) ?_
      intro v9 w10 h11
      rcases h11 with h11 | h11
      ·
        obtain ⟨rfl, rfl, hf12⟩ := h11
        show X 0 0 [(x, .inr (6, [.ref tw, .ref pw, .ref uw, .ref o, .ref hh, .ref rd, .ref bk, .ref pl, .ref asd, .ref fd, .int (nI wr), .int hi9])), (tw, .inr (3, [.ref tsk, .ref tkd, .ref tmo, .ref tlv, .ref ttc, .ref tts, .ref ttl, .int (nI ttn), .int trg, .long thp, .int (nI tlw)])), (ttc, .inl (cI, 4, .inl tcf)), (tts, .inl (cI, 4, .inl tsf)), (ttl, .inl (cI, 4, .inl ttf))] [(0, .ref x), (1, .int c), (2, .int s), (3, .int l9)] 25 [.int 1]
        refine x_if_ne C dX7_tree_25 (tgt := 31) rfl (fun _ => ?_) (fun q9 => by first | exact absurd q9 (by decide) | exact absurd (by decide) q9)
        refine x_aload_n C dX7_tree_31 0 rfl ?_
        refine x_get C inlX7 rfl 0 (by decide) gw_1_16 dX7_tree_32 0 rfl rfl ?_
        refine x_getN C inlX4 rfl 7 (by decide) nw_X7_104 dX7_tree_35 1 rfl rfl ?_
        refine x_istore C dX7_tree_38 (by decide) (lv' := [(4, .int (nI ttn)), (0, .ref x), (1, .int c), (2, .int s), (3, .int l9)]) rfl ?_
        refine x_iload C dX7_tree_40 0 rfl ?_
        refine x_iconst C dX7_tree_42 (v := 4) rfl ?_
        refine x_icmp_lt C dX7_tree_43 (tgt := 49) rfl (fun c13 => ?_) (fun c13 => ?_)
        ·
          have c13 : ttn < 4 := q_lt_t rfl (rfl : (4 : Int32) = nI 4) (by omega) (by omega) c13
          refine x_aload_n C dX7_tree_49 1 rfl ?_
          refine x_get C inlX7 rfl 0 (by decide) gw_1_16 dX7_tree_50 0 rfl rfl ?_
          refine x_getN C inlX4 rfl 4 (by decide) nw_X7_149 dX7_tree_53 1 rfl rfl ?_
          refine x_iload C dX7_tree_56 0 rfl ?_
          refine x_iload_n C dX7_tree_58 2 rfl ?_
          refine x_iastore C 0 rfl dX7_tree_59 ttn (q_cl rfl (by omega)) (q_ix rfl (by omega) (by omega)) 2 rfl ?_
          show X _ _ [(x, .inr (6, [.ref tw, .ref pw, .ref uw, .ref o, .ref hh, .ref rd, .ref bk, .ref pl, .ref asd, .ref fd, .int (nI wr), .int hi9])), (tw, .inr (3, [.ref tsk, .ref tkd, .ref tmo, .ref tlv, .ref ttc, .ref tts, .ref ttl, .int (nI ttn), .int trg, .long thp, .int (nI tlw)])), (ttc, .inl (cI, 4, .inl (upd tcf ttn c))), (tts, .inl (cI, 4, .inl tsf)), (ttl, .inl (cI, 4, .inl ttf))] _ _ _
          refine x_aload_n C dX7_tree_60 1 rfl ?_
          refine x_get C inlX7 rfl 0 (by decide) gw_1_16 dX7_tree_61 0 rfl rfl ?_
          refine x_getN C inlX4 rfl 5 (by decide) nw_X7_152 dX7_tree_64 1 rfl rfl ?_
          refine x_iload C dX7_tree_67 0 rfl ?_
          show X _ _ _ _ 69 _
          refine x_iload_n C dX7_tree_69 3 rfl ?_
          refine x_iastore C 0 rfl dX7_tree_70 ttn (q_cl rfl (by omega)) (q_ix rfl (by omega) (by omega)) 3 rfl ?_
          show X _ _ [(x, .inr (6, [.ref tw, .ref pw, .ref uw, .ref o, .ref hh, .ref rd, .ref bk, .ref pl, .ref asd, .ref fd, .int (nI wr), .int hi9])), (tw, .inr (3, [.ref tsk, .ref tkd, .ref tmo, .ref tlv, .ref ttc, .ref tts, .ref ttl, .int (nI ttn), .int trg, .long thp, .int (nI tlw)])), (ttc, .inl (cI, 4, .inl (upd tcf ttn c))), (tts, .inl (cI, 4, .inl (upd tsf ttn s))), (ttl, .inl (cI, 4, .inl ttf))] _ _ _
          refine x_aload_n C dX7_tree_71 1 rfl ?_
          refine x_get C inlX7 rfl 0 (by decide) gw_1_16 dX7_tree_72 0 rfl rfl ?_
          refine x_getN C inlX4 rfl 6 (by decide) nw_X7_155 dX7_tree_75 1 rfl rfl ?_
          refine x_iload C dX7_tree_78 0 rfl ?_
          refine x_iload_n C dX7_tree_80 4 rfl ?_
          refine x_iastore C 0 rfl dX7_tree_81 ttn (q_cl rfl (by omega)) (q_ix rfl (by omega) (by omega)) 4 rfl ?_
          show X _ _ [(x, .inr (6, [.ref tw, .ref pw, .ref uw, .ref o, .ref hh, .ref rd, .ref bk, .ref pl, .ref asd, .ref fd, .int (nI wr), .int hi9])), (tw, .inr (3, [.ref tsk, .ref tkd, .ref tmo, .ref tlv, .ref ttc, .ref tts, .ref ttl, .int (nI ttn), .int trg, .long thp, .int (nI tlw)])), (ttc, .inl (cI, 4, .inl (upd tcf ttn c))), (tts, .inl (cI, 4, .inl (upd tsf ttn s))), (ttl, .inl (cI, 4, .inl (upd ttf ttn l9)))] _ _ _
          refine x_aload_n C dX7_tree_82 1 rfl ?_
          refine x_get C inlX7 rfl 0 (by decide) gw_1_16 dX7_tree_83 0 rfl rfl ?_
          show X _ _ _ _ 86 _
          refine x_iload C dX7_tree_86 0 rfl ?_
          refine x_iconst C dX7_tree_88 (v := 1) rfl ?_
          refine x_iadd C dX7_tree_89 ?_
          refine x_topi C (nI (ttn + 1)) (q_iadd (a := ttn) (b := 1) rfl (rfl : (1 : Int32) = nI 1)) ?_
          refine x_putN C inlX4 rfl tyX4 tyX4_ok nmX4 7 (by decide) nw_X7_104 rfl dX7_tree_90 1 rfl (rfl) rfl (Nat.le_of_ble_eq_true rfl) ?_
          show X _ _ [(x, .inr (6, [.ref tw, .ref pw, .ref uw, .ref o, .ref hh, .ref rd, .ref bk, .ref pl, .ref asd, .ref fd, .int (nI wr), .int hi9])), (tw, .inr (3, [.ref tsk, .ref tkd, .ref tmo, .ref tlv, .ref ttc, .ref tts, .ref ttl, .int (nI (ttn + 1)), .int trg, .long thp, .int (nI tlw)])), (ttc, .inl (cI, 4, .inl (upd tcf ttn c))), (tts, .inl (cI, 4, .inl (upd tsf ttn s))), (ttl, .inl (cI, 4, .inl (upd ttf ttn l9)))] _ _ _
          refine x_iload C dX7_tree_93 0 rfl ?_
          refine E dX7_tree_95 (rfl) ?_
          exact ⟨(nI ttn), (ttn + 1), (upd tcf ttn c), (upd tsf ttn s), (upd ttf ttn l9), rfl, rfl, by (unfold o_tree o_tree_n o_tree_f); (repeat (first | rw [if_pos (by first | (rw [if_pos (by decide)]; assumption) | (rw [if_neg (by decide), if_pos (by decide)]; assumption) | (rw [if_neg (by decide), if_neg (by decide)]; assumption) | assumption | decide | omega | exact o_one_t (by assumption) | (rw [o_one_f (by assumption)]; decide) | exact ⟨by assumption, by assumption⟩ | exact fun h9 => absurd h9.1 (by assumption) | exact fun h9 => absurd h9.2 (by assumption))] | rw [if_neg (by first | (rw [if_pos (by decide)]; assumption) | (rw [if_neg (by decide), if_pos (by decide)]; assumption) | (rw [if_neg (by decide), if_neg (by decide)]; assumption) | assumption | decide | omega | exact o_one_t (by assumption) | (rw [o_one_f (by assumption)]; decide) | exact ⟨by assumption, by assumption⟩ | exact fun h9 => absurd h9.1 (by assumption) | exact fun h9 => absurd h9.2 (by assumption))])); all_goals (first | rfl)⟩
        ·
          have c13 : ttn ≥ 4 := q_lt_f rfl (rfl : (4 : Int32) = nI 4) (by omega) (by omega) c13
          refine x_bipush C dX7_tree_46 (v := (-4)) rfl ?_
          refine E dX7_tree_48 (rfl) ?_
          exact ⟨(-4), ttn, tcf, tsf, ttf, rfl, rfl, by (unfold o_tree o_tree_n o_tree_f); (repeat (first | rw [if_pos (by first | (rw [if_pos (by decide)]; assumption) | (rw [if_neg (by decide), if_pos (by decide)]; assumption) | (rw [if_neg (by decide), if_neg (by decide)]; assumption) | assumption | decide | omega | exact o_one_t (by assumption) | (rw [o_one_f (by assumption)]; decide) | exact ⟨by assumption, by assumption⟩ | exact fun h9 => absurd h9.1 (by assumption) | exact fun h9 => absurd h9.2 (by assumption))] | rw [if_neg (by first | (rw [if_pos (by decide)]; assumption) | (rw [if_neg (by decide), if_pos (by decide)]; assumption) | (rw [if_neg (by decide), if_neg (by decide)]; assumption) | assumption | decide | omega | exact o_one_t (by assumption) | (rw [o_one_f (by assumption)]; decide) | exact ⟨by assumption, by assumption⟩ | exact fun h9 => absurd h9.1 (by assumption) | exact fun h9 => absurd h9.2 (by assumption))])); all_goals (first | rfl)⟩
      ·
        obtain ⟨rfl, rfl, hf14⟩ := h11
        show X 0 0 [(x, .inr (6, [.ref tw, .ref pw, .ref uw, .ref o, .ref hh, .ref rd, .ref bk, .ref pl, .ref asd, .ref fd, .int (nI wr), .int hi9])), (tw, .inr (3, [.ref tsk, .ref tkd, .ref tmo, .ref tlv, .ref ttc, .ref tts, .ref ttl, .int (nI ttn), .int trg, .long thp, .int (nI tlw)])), (ttc, .inl (cI, 4, .inl tcf)), (tts, .inl (cI, 4, .inl tsf)), (ttl, .inl (cI, 4, .inl ttf))] [(0, .ref x), (1, .int c), (2, .int s), (3, .int l9)] 25 [.int 0]
        refine x_if_ne C dX7_tree_25 (tgt := 31) rfl (fun q9 => absurd q9 (by decide)) (fun _ => ?_)
        refine x_bipush C dX7_tree_28 (v := (-2)) rfl ?_
        refine E dX7_tree_30 (rfl) ?_
        exact ⟨(-2), ttn, tcf, tsf, ttf, rfl, rfl, by (unfold o_tree o_tree_n o_tree_f); (repeat (first | rw [if_pos (by first | (rw [if_pos (by decide)]; assumption) | (rw [if_neg (by decide), if_pos (by decide)]; assumption) | (rw [if_neg (by decide), if_neg (by decide)]; assumption) | assumption | decide | omega | exact o_one_t (by assumption) | (rw [o_one_f (by assumption)]; decide) | exact ⟨by assumption, by assumption⟩ | exact fun h9 => absurd h9.1 (by assumption) | exact fun h9 => absurd h9.2 (by assumption))] | rw [if_neg (by first | (rw [if_pos (by decide)]; assumption) | (rw [if_neg (by decide), if_pos (by decide)]; assumption) | (rw [if_neg (by decide), if_neg (by decide)]; assumption) | assumption | decide | omega | exact o_one_t (by assumption) | (rw [o_one_f (by assumption)]; decide) | exact ⟨by assumption, by assumption⟩ | exact fun h9 => absurd h9.1 (by assumption) | exact fun h9 => absurd h9.2 (by assumption))])); all_goals (first | rfl)⟩
    ·
      obtain ⟨rfl, rfl, hf15⟩ := h7
      show X 0 0 [(x, .inr (6, [.ref tw, .ref pw, .ref uw, .ref o, .ref hh, .ref rd, .ref bk, .ref pl, .ref asd, .ref fd, .int (nI wr), .int hi9])), (tw, .inr (3, [.ref tsk, .ref tkd, .ref tmo, .ref tlv, .ref ttc, .ref tts, .ref ttl, .int (nI ttn), .int trg, .long thp, .int (nI tlw)])), (ttc, .inl (cI, 4, .inl tcf)), (tts, .inl (cI, 4, .inl tsf)), (ttl, .inl (cI, 4, .inl ttf))] [(0, .ref x), (1, .int c), (2, .int s), (3, .int l9)] 14 [.int 0]
      refine x_if_eq C dX7_tree_14 (tgt := 28) rfl (fun _ => ?_) (fun q9 => by first | exact absurd q9 (by decide) | exact absurd (by decide) q9)
      refine x_bipush C dX7_tree_28 (v := (-2)) rfl ?_
      refine E dX7_tree_30 (rfl) ?_
      exact ⟨(-2), ttn, tcf, tsf, ttf, rfl, rfl, by (unfold o_tree o_tree_n o_tree_f); (repeat (first | rw [if_pos (by first | (rw [if_pos (by decide)]; assumption) | (rw [if_neg (by decide), if_pos (by decide)]; assumption) | (rw [if_neg (by decide), if_neg (by decide)]; assumption) | assumption | decide | omega | exact o_one_t (by assumption) | (rw [o_one_f (by assumption)]; decide) | exact ⟨by assumption, by assumption⟩ | exact fun h9 => absurd h9.1 (by assumption) | exact fun h9 => absurd h9.2 (by assumption))] | rw [if_neg (by first | (rw [if_pos (by decide)]; assumption) | (rw [if_neg (by decide), if_pos (by decide)]; assumption) | (rw [if_neg (by decide), if_neg (by decide)]; assumption) | assumption | decide | omega | exact o_one_t (by assumption) | (rw [o_one_f (by assumption)]; decide) | exact ⟨by assumption, by assumption⟩ | exact fun h9 => absurd h9.1 (by assumption) | exact fun h9 => absurd h9.2 (by assumption))])); all_goals (first | rfl)⟩
  ·
    obtain ⟨rfl, rfl, hf16⟩ := h3
    show X 0 0 [(x, .inr (6, [.ref tw, .ref pw, .ref uw, .ref o, .ref hh, .ref rd, .ref bk, .ref pl, .ref asd, .ref fd, .int (nI wr), .int hi9])), (tw, .inr (3, [.ref tsk, .ref tkd, .ref tmo, .ref tlv, .ref ttc, .ref tts, .ref ttl, .int (nI ttn), .int trg, .long thp, .int (nI tlw)])), (ttc, .inl (cI, 4, .inl tcf)), (tts, .inl (cI, 4, .inl tsf)), (ttl, .inl (cI, 4, .inl ttf))] [(0, .ref x), (1, .int c), (2, .int s), (3, .int l9)] 4 [.int 0]
    refine x_if_eq C dX7_tree_4 (tgt := 28) rfl (fun _ => ?_) (fun q9 => by first | exact absurd q9 (by decide) | exact absurd (by decide) q9)
    refine x_bipush C dX7_tree_28 (v := (-2)) rfl ?_
    refine E dX7_tree_30 (rfl) ?_
    exact ⟨(-2), ttn, tcf, tsf, ttf, rfl, rfl, by (unfold o_tree o_tree_n o_tree_f); (repeat (first | rw [if_pos (by first | (rw [if_pos (by decide)]; assumption) | (rw [if_neg (by decide), if_pos (by decide)]; assumption) | (rw [if_neg (by decide), if_neg (by decide)]; assumption) | assumption | decide | omega | exact o_one_t (by assumption) | (rw [o_one_f (by assumption)]; decide) | exact ⟨by assumption, by assumption⟩ | exact fun h9 => absurd h9.1 (by assumption) | exact fun h9 => absurd h9.2 (by assumption))] | rw [if_neg (by first | (rw [if_pos (by decide)]; assumption) | (rw [if_neg (by decide), if_pos (by decide)]; assumption) | (rw [if_neg (by decide), if_neg (by decide)]; assumption) | assumption | decide | omega | exact o_one_t (by assumption) | (rw [o_one_f (by assumption)]; decide) | exact ⟨by assumption, by assumption⟩ | exact fun h9 => absurd h9.1 (by assumption) | exact fun h9 => absurd h9.2 (by assumption))])); all_goals (first | rfl)⟩
theorem kV_X7_158 : GoodIn GW (wsV RX7 158 yX7_isTree.cls yX7_isTree (Cond.code yX7_isTree cX7_isTree 2 (some .boolean) :: GW)) := r_gV gw_20_20 gw_20_21 gw_20_22 gw_1_2 gw_20_23
theorem hy_X7_isTree : yX7_isTree.cls ≠ "java/lang/invoke/MethodHandle" ∧ yX7_isTree.cls ≠ "java/lang/invoke/VarHandle" ∧ (parseMethodDescriptor yX7_isTree.desc).map (fun d => d.parameters.length) = some 1 := ⟨by decide +kernel, by decide +kernel, by decide +kernel⟩
set_option maxHeartbeats 4000000 in
set_option maxRecDepth 100000 in
theorem c_X7_treeTold (l : Launch) (dG : va_G) (cI cM cW cS : ClassId) (x pw uw o hh rd bk pl asd fd : Nat) (wr : Nat) (hi9 : Int32) (tw tsk tkd tmo tlv ttc tts ttl ts0 ts1 ts2 ts3 : Nat) (ttn tlw : Nat) (trg : Int32) (thp : Int64) (tR0 tR1 tR2 tR3 tkf tmf tlf tcf tsf ttf : Nat → Int32) (t wh : Int32) (htn : ttn ≤ 4) : rM l yX7_treeTold cX7_treeTold 3 (some .int) ({ frames := 2, cells := 0, slots := 0, locals := 43 } : Room) dG (tY cI cM cW cS) rZ0 [.ref x, .int t, .int wh] [(x, .inr (6, [.ref tw, .ref pw, .ref uw, .ref o, .ref hh, .ref rd, .ref bk, .ref pl, .ref asd, .ref fd, .int (nI wr), .int hi9])), (tw, .inr (3, [.ref tsk, .ref tkd, .ref tmo, .ref tlv, .ref ttc, .ref tts, .ref ttl, .int (nI ttn), .int trg, .long thp, .int (nI tlw)])), (ttc, .inl (cI, 4, .inl tcf)), (tts, .inl (cI, 4, .inl tsf)), (ttl, .inl (cI, 4, .inl ttf))] (fun ov oz => ∃ (r : Int32), ov = some (.int r) ∧ oz = [(x, .inr (6, [.ref tw, .ref pw, .ref uw, .ref o, .ref hh, .ref rd, .ref bk, .ref pl, .ref asd, .ref fd, .int (nI wr), .int hi9])), (tw, .inr (3, [.ref tsk, .ref tkd, .ref tmo, .ref tlv, .ref ttc, .ref tts, .ref ttl, .int (nI ttn), .int trg, .long thp, .int (nI tlw)])), (ttc, .inl (cI, 4, .inl tcf)), (tts, .inl (cI, 4, .inl tsf)), (ttl, .inl (cI, 4, .inl ttf))] ∧ r = o_treeTold tcf tsf ttf ttn t wh) := by
  refine rM_ofI rfl (Nat.le_of_ble_eq_true rfl) rfl (fun X C E => ?_)
  show X 0 0 [(x, .inr (6, [.ref tw, .ref pw, .ref uw, .ref o, .ref hh, .ref rd, .ref bk, .ref pl, .ref asd, .ref fd, .int (nI wr), .int hi9])), (tw, .inr (3, [.ref tsk, .ref tkd, .ref tmo, .ref tlv, .ref ttc, .ref tts, .ref ttl, .int (nI ttn), .int trg, .long thp, .int (nI tlw)])), (ttc, .inl (cI, 4, .inl tcf)), (tts, .inl (cI, 4, .inl tsf)), (ttl, .inl (cI, 4, .inl ttf))] [(0, .ref x), (1, .int t), (2, .int wh)] 0 []
  refine x_aload_n C dX7_treeTold_0 0 rfl ?_
  refine x_iload_n C dX7_treeTold_1 1 rfl ?_
  refine x_callV C (As := [.int t]) (st := []) (wc := [(x, .inr (6, [.ref tw, .ref pw, .ref uw, .ref o, .ref hh, .ref rd, .ref bk, .ref pl, .ref asd, .ref fd, .int (nI wr), .int hi9])), (tw, .inr (3, [.ref tsk, .ref tkd, .ref tmo, .ref tlv, .ref ttc, .ref tts, .ref ttl, .int (nI ttn), .int trg, .long thp, .int (nI tlw)]))]) (wr := [(ttc, .inl (cI, 4, .inl tcf)), (tts, .inl (cI, 4, .inl tsf)), (ttl, .inl (cI, 4, .inl ttf))]) (c_X7_isTree l dG cI cM cW cS x tw pw uw rd bk pl asd fd wr hi9 o hh 0 tsk tkd tmo tlv ttc tts ttl 0 0 0 0 ttn tlw trg thp t ) rZ0_ok (fun _ _ _ _ => trivial) kV_X7_158 ⟨rfl, hy_X7_isTree⟩ ⟨Nat.le_of_ble_eq_true rfl, Nat.le_of_ble_eq_true rfl⟩ ⟨Nat.le_of_ble_eq_true rfl, Nat.le_of_ble_eq_true rfl⟩ dX7_treeTold_2 0 rfl rfl [0, 1] [2, 3, 4] rfl rfl rfl rfl (by decide) rfl (Nat.le_of_ble_eq_true rfl) ?_
  intro v1 w2 h3
  rcases h3 with h3 | h3
  ·
    obtain ⟨rfl, rfl, hf4⟩ := h3
    show X 0 0 [(ttc, .inl (cI, 4, .inl tcf)), (tts, .inl (cI, 4, .inl tsf)), (ttl, .inl (cI, 4, .inl ttf)), (x, .inr (6, [.ref tw, .ref pw, .ref uw, .ref o, .ref hh, .ref rd, .ref bk, .ref pl, .ref asd, .ref fd, .int (nI wr), .int hi9])), (tw, .inr (3, [.ref tsk, .ref tkd, .ref tmo, .ref tlv, .ref ttc, .ref tts, .ref ttl, .int (nI ttn), .int trg, .long thp, .int (nI tlw)]))] [(0, .ref x), (1, .int t), (2, .int wh)] 5 [.int 1]
    have hr := hf4
    obtain ⟨j, hj, rfl⟩ := q_tree htn hf4
    have hnj : o_n (nI j) = j := o_n_nI (by omega)
    refine x_if_ne C dX7_treeTold_5 (tgt := 11) rfl (fun _ => ?_) (fun q9 => by first | exact absurd q9 (by decide) | exact absurd (by decide) q9)
    refine x_iload_n C dX7_treeTold_11 2 rfl ?_
    rcases q_sw wh (0) (2) with q5 | q5
    ·
      refine x_tableOut C dX7_treeTold_12 q5 (tgt := 70) rfl ?_
      have hk9 : ¬ wh = 0 ∧ ¬ wh = 1 ∧ ¬ wh = 2 := by refine ⟨?_, ?_, ?_⟩ <;> (intro h; rw [h] at q5; revert q5; decide)
      obtain ⟨hk0, hk1, hk2⟩ := hk9
      refine x_bipush C dX7_treeTold_70 (v := (-7)) rfl ?_
      refine x_sub C [3, 4, 0, 1, 2] (ws' := [(x, .inr (6, [.ref tw, .ref pw, .ref uw, .ref o, .ref hh, .ref rd, .ref bk, .ref pl, .ref asd, .ref fd, .int (nI wr), .int hi9])), (tw, .inr (3, [.ref tsk, .ref tkd, .ref tmo, .ref tlv, .ref ttc, .ref tts, .ref ttl, .int (nI ttn), .int trg, .long thp, .int (nI tlw)])), (ttc, .inl (cI, 4, .inl tcf)), (tts, .inl (cI, 4, .inl tsf)), (ttl, .inl (cI, 4, .inl ttf))]) rfl rfl ?_
      refine E dX7_treeTold_72 (rfl) ?_
      exact ⟨(-7), rfl, rfl, by (unfold o_treeTold); (try simp only [hnj]); (repeat (first | rw [if_pos (by first | (rw [if_pos (by decide)]; assumption) | (rw [if_neg (by decide), if_pos (by decide)]; assumption) | (rw [if_neg (by decide), if_neg (by decide)]; assumption) | assumption | decide | omega | exact o_one_t (by assumption) | (rw [o_one_f (by assumption)]; decide) | exact ⟨by assumption, by assumption⟩ | exact fun h9 => absurd h9.1 (by assumption) | exact fun h9 => absurd h9.2 (by assumption))] | rw [if_neg (by first | (rw [if_pos (by decide)]; assumption) | (rw [if_neg (by decide), if_pos (by decide)]; assumption) | (rw [if_neg (by decide), if_neg (by decide)]; assumption) | assumption | decide | omega | exact o_one_t (by assumption) | (rw [o_one_f (by assumption)]; decide) | exact ⟨by assumption, by assumption⟩ | exact fun h9 => absurd h9.1 (by assumption) | exact fun h9 => absurd h9.2 (by assumption))])); all_goals (first | rfl)⟩
    ·
      rcases q_sw_0_2 q5 with q5 | q5 | q5
      ·
        have q5 : wh = 0 := q5
        refine x_tableIn C dX7_treeTold_12 (by rw [q5]; decide) (by rw [q5]; decide) (off := 28) (tgt := 40) (by rw [q5]; rfl) rfl ?_
        refine x_aload_n C dX7_treeTold_40 0 rfl ?_
        refine x_get C inlX7 rfl 0 (by decide) gw_1_16 dX7_treeTold_41 3 rfl rfl ?_
        refine x_getN C inlX4 rfl 4 (by decide) nw_X7_149 dX7_treeTold_44 4 rfl rfl ?_
        refine x_iload_n C dX7_treeTold_47 1 rfl ?_
        refine x_iaload C 0 rfl dX7_treeTold_48 j (q_cl rfl (by omega)) (q_ix rfl (by omega) (by omega)) 0 rfl ?_
        refine x_sub C [3, 4, 0, 1, 2] (ws' := [(x, .inr (6, [.ref tw, .ref pw, .ref uw, .ref o, .ref hh, .ref rd, .ref bk, .ref pl, .ref asd, .ref fd, .int (nI wr), .int hi9])), (tw, .inr (3, [.ref tsk, .ref tkd, .ref tmo, .ref tlv, .ref ttc, .ref tts, .ref ttl, .int (nI ttn), .int trg, .long thp, .int (nI tlw)])), (ttc, .inl (cI, 4, .inl tcf)), (tts, .inl (cI, 4, .inl tsf)), (ttl, .inl (cI, 4, .inl ttf))]) rfl rfl ?_
        refine E dX7_treeTold_49 (rfl) ?_
        exact ⟨(tcf j), rfl, rfl, by (unfold o_treeTold); (try simp only [hnj]); (repeat (first | rw [if_pos (by first | (rw [if_pos (by decide)]; assumption) | (rw [if_neg (by decide), if_pos (by decide)]; assumption) | (rw [if_neg (by decide), if_neg (by decide)]; assumption) | assumption | decide | omega | exact o_one_t (by assumption) | (rw [o_one_f (by assumption)]; decide) | exact ⟨by assumption, by assumption⟩ | exact fun h9 => absurd h9.1 (by assumption) | exact fun h9 => absurd h9.2 (by assumption))] | rw [if_neg (by first | (rw [if_pos (by decide)]; assumption) | (rw [if_neg (by decide), if_pos (by decide)]; assumption) | (rw [if_neg (by decide), if_neg (by decide)]; assumption) | assumption | decide | omega | exact o_one_t (by assumption) | (rw [o_one_f (by assumption)]; decide) | exact ⟨by assumption, by assumption⟩ | exact fun h9 => absurd h9.1 (by assumption) | exact fun h9 => absurd h9.2 (by assumption))])); all_goals (first | rfl)⟩
      ·
        have q5 : wh = 1 := q5
        refine x_tableIn C dX7_treeTold_12 (by rw [q5]; decide) (by rw [q5]; decide) (off := 38) (tgt := 50) (by rw [q5]; rfl) rfl ?_
        have hk0 : ¬ wh = 0 := by rw [q5]; decide
        refine x_aload_n C dX7_treeTold_50 0 rfl ?_
        refine x_get C inlX7 rfl 0 (by decide) gw_1_16 dX7_treeTold_51 3 rfl rfl ?_
        refine x_getN C inlX4 rfl 5 (by decide) nw_X7_152 dX7_treeTold_54 4 rfl rfl ?_
        refine x_iload_n C dX7_treeTold_57 1 rfl ?_
        refine x_iaload C 0 rfl dX7_treeTold_58 j (q_cl rfl (by omega)) (q_ix rfl (by omega) (by omega)) 1 rfl ?_
        refine x_sub C [3, 4, 0, 1, 2] (ws' := [(x, .inr (6, [.ref tw, .ref pw, .ref uw, .ref o, .ref hh, .ref rd, .ref bk, .ref pl, .ref asd, .ref fd, .int (nI wr), .int hi9])), (tw, .inr (3, [.ref tsk, .ref tkd, .ref tmo, .ref tlv, .ref ttc, .ref tts, .ref ttl, .int (nI ttn), .int trg, .long thp, .int (nI tlw)])), (ttc, .inl (cI, 4, .inl tcf)), (tts, .inl (cI, 4, .inl tsf)), (ttl, .inl (cI, 4, .inl ttf))]) rfl rfl ?_
        refine E dX7_treeTold_59 (rfl) ?_
        exact ⟨(tsf j), rfl, rfl, by (unfold o_treeTold); (try simp only [hnj]); (repeat (first | rw [if_pos (by first | (rw [if_pos (by decide)]; assumption) | (rw [if_neg (by decide), if_pos (by decide)]; assumption) | (rw [if_neg (by decide), if_neg (by decide)]; assumption) | assumption | decide | omega | exact o_one_t (by assumption) | (rw [o_one_f (by assumption)]; decide) | exact ⟨by assumption, by assumption⟩ | exact fun h9 => absurd h9.1 (by assumption) | exact fun h9 => absurd h9.2 (by assumption))] | rw [if_neg (by first | (rw [if_pos (by decide)]; assumption) | (rw [if_neg (by decide), if_pos (by decide)]; assumption) | (rw [if_neg (by decide), if_neg (by decide)]; assumption) | assumption | decide | omega | exact o_one_t (by assumption) | (rw [o_one_f (by assumption)]; decide) | exact ⟨by assumption, by assumption⟩ | exact fun h9 => absurd h9.1 (by assumption) | exact fun h9 => absurd h9.2 (by assumption))])); all_goals (first | rfl)⟩
      ·
        have q5 : wh = 2 := q5
        refine x_tableIn C dX7_treeTold_12 (by rw [q5]; decide) (by rw [q5]; decide) (off := 48) (tgt := 60) (by rw [q5]; rfl) rfl ?_
        have hk0 : ¬ wh = 0 := by rw [q5]; decide
        have hk1 : ¬ wh = 1 := by rw [q5]; decide
        refine x_aload_n C dX7_treeTold_60 0 rfl ?_
        refine x_get C inlX7 rfl 0 (by decide) gw_1_16 dX7_treeTold_61 3 rfl rfl ?_
        refine x_getN C inlX4 rfl 6 (by decide) nw_X7_155 dX7_treeTold_64 4 rfl rfl ?_
        refine x_iload_n C dX7_treeTold_67 1 rfl ?_
        refine x_iaload C 0 rfl dX7_treeTold_68 j (q_cl rfl (by omega)) (q_ix rfl (by omega) (by omega)) 2 rfl ?_
        refine x_sub C [3, 4, 0, 1, 2] (ws' := [(x, .inr (6, [.ref tw, .ref pw, .ref uw, .ref o, .ref hh, .ref rd, .ref bk, .ref pl, .ref asd, .ref fd, .int (nI wr), .int hi9])), (tw, .inr (3, [.ref tsk, .ref tkd, .ref tmo, .ref tlv, .ref ttc, .ref tts, .ref ttl, .int (nI ttn), .int trg, .long thp, .int (nI tlw)])), (ttc, .inl (cI, 4, .inl tcf)), (tts, .inl (cI, 4, .inl tsf)), (ttl, .inl (cI, 4, .inl ttf))]) rfl rfl ?_
        refine E dX7_treeTold_69 (rfl) ?_
        exact ⟨(ttf j), rfl, rfl, by (unfold o_treeTold); (try simp only [hnj]); (repeat (first | rw [if_pos (by first | (rw [if_pos (by decide)]; assumption) | (rw [if_neg (by decide), if_pos (by decide)]; assumption) | (rw [if_neg (by decide), if_neg (by decide)]; assumption) | assumption | decide | omega | exact o_one_t (by assumption) | (rw [o_one_f (by assumption)]; decide) | exact ⟨by assumption, by assumption⟩ | exact fun h9 => absurd h9.1 (by assumption) | exact fun h9 => absurd h9.2 (by assumption))] | rw [if_neg (by first | (rw [if_pos (by decide)]; assumption) | (rw [if_neg (by decide), if_pos (by decide)]; assumption) | (rw [if_neg (by decide), if_neg (by decide)]; assumption) | assumption | decide | omega | exact o_one_t (by assumption) | (rw [o_one_f (by assumption)]; decide) | exact ⟨by assumption, by assumption⟩ | exact fun h9 => absurd h9.1 (by assumption) | exact fun h9 => absurd h9.2 (by assumption))])); all_goals (first | rfl)⟩
  ·
    obtain ⟨rfl, rfl, hf6⟩ := h3
    show X 0 0 [(ttc, .inl (cI, 4, .inl tcf)), (tts, .inl (cI, 4, .inl tsf)), (ttl, .inl (cI, 4, .inl ttf)), (x, .inr (6, [.ref tw, .ref pw, .ref uw, .ref o, .ref hh, .ref rd, .ref bk, .ref pl, .ref asd, .ref fd, .int (nI wr), .int hi9])), (tw, .inr (3, [.ref tsk, .ref tkd, .ref tmo, .ref tlv, .ref ttc, .ref tts, .ref ttl, .int (nI ttn), .int trg, .long thp, .int (nI tlw)]))] [(0, .ref x), (1, .int t), (2, .int wh)] 5 [.int 0]
    refine x_if_ne C dX7_treeTold_5 (tgt := 11) rfl (fun q9 => absurd q9 (by decide)) (fun _ => ?_)
    refine x_bipush C dX7_treeTold_8 (v := (-5)) rfl ?_
    refine x_sub C [3, 4, 0, 1, 2] (ws' := [(x, .inr (6, [.ref tw, .ref pw, .ref uw, .ref o, .ref hh, .ref rd, .ref bk, .ref pl, .ref asd, .ref fd, .int (nI wr), .int hi9])), (tw, .inr (3, [.ref tsk, .ref tkd, .ref tmo, .ref tlv, .ref ttc, .ref tts, .ref ttl, .int (nI ttn), .int trg, .long thp, .int (nI tlw)])), (ttc, .inl (cI, 4, .inl tcf)), (tts, .inl (cI, 4, .inl tsf)), (ttl, .inl (cI, 4, .inl ttf))]) rfl rfl ?_
    refine E dX7_treeTold_10 (rfl) ?_
    exact ⟨(-5), rfl, rfl, by (unfold o_treeTold); (repeat (first | rw [if_pos (by first | (rw [if_pos (by decide)]; assumption) | (rw [if_neg (by decide), if_pos (by decide)]; assumption) | (rw [if_neg (by decide), if_neg (by decide)]; assumption) | assumption | decide | omega | exact o_one_t (by assumption) | (rw [o_one_f (by assumption)]; decide) | exact ⟨by assumption, by assumption⟩ | exact fun h9 => absurd h9.1 (by assumption) | exact fun h9 => absurd h9.2 (by assumption))] | rw [if_neg (by first | (rw [if_pos (by decide)]; assumption) | (rw [if_neg (by decide), if_pos (by decide)]; assumption) | (rw [if_neg (by decide), if_neg (by decide)]; assumption) | assumption | decide | omega | exact o_one_t (by assumption) | (rw [o_one_f (by assumption)]; decide) | exact ⟨by assumption, by assumption⟩ | exact fun h9 => absurd h9.1 (by assumption) | exact fun h9 => absurd h9.2 (by assumption))])); all_goals (first | rfl)⟩
set_option maxHeartbeats 4000000 in
set_option maxRecDepth 100000 in
theorem c_X7_fell (l : Launch) (dG : va_G) (cI cM cW cS : ClassId) (x pw uw o hh rd bk pl asd fd : Nat) (wr : Nat) (hi9 : Int32) (tw tsk tkd tmo tlv ttc tts ttl ts0 ts1 ts2 ts3 : Nat) (ttn tlw : Nat) (trg : Int32) (thp : Int64) (tR0 tR1 tR2 tR3 tkf tmf tlf tcf tsf ttf : Nat → Int32) (psk pkd pmo plv ptc pts ptl ps0 ps1 ps2 ps3 : Nat) (ptn plw : Nat) (prg : Int32) (php : Int64) (pR0 pR1 pR2 pR3 pkf pmf plf pcf psf ptf : Nat → Int32)  (htn : ttn ≤ 4) (hpn : ptn ≤ 4) : rM l yX7_fell cX7_fell 1 (some .int) ({ frames := 0, cells := 0, slots := 0, locals := 0 } : Room) dG (tY cI cM cW cS) rZ0 [.ref x] [(x, .inr (6, [.ref tw, .ref pw, .ref uw, .ref o, .ref hh, .ref rd, .ref bk, .ref pl, .ref asd, .ref fd, .int (nI wr), .int hi9])), (tw, .inr (3, [.ref tsk, .ref tkd, .ref tmo, .ref tlv, .ref ttc, .ref tts, .ref ttl, .int (nI ttn), .int trg, .long thp, .int (nI tlw)])), (pw, .inr (3, [.ref psk, .ref pkd, .ref pmo, .ref plv, .ref ptc, .ref pts, .ref ptl, .int (nI ptn), .int prg, .long php, .int (nI plw)]))] (fun ov oz => ∃ (r : Int32) (n' : Nat) (h' : Int32), ov = some (.int r) ∧ oz = [(x, .inr (6, [.ref tw, .ref pw, .ref uw, .ref o, .ref hh, .ref rd, .ref bk, .ref pl, .ref asd, .ref fd, .int (nI wr), .int h'])), (tw, .inr (3, [.ref tsk, .ref tkd, .ref tmo, .ref tlv, .ref ttc, .ref tts, .ref ttl, .int (nI n'), .int trg, .long thp, .int (nI tlw)])), (pw, .inr (3, [.ref psk, .ref pkd, .ref pmo, .ref plv, .ref ptc, .ref pts, .ref ptl, .int (nI ptn), .int prg, .long php, .int (nI plw)]))] ∧ (r, n', h') = (o_fell ttn, o_fell_n ttn, o_fell_h ttn ptn hi9)) := by
  refine rM_ofI rfl (Nat.le_of_ble_eq_true rfl) rfl (fun X C E => ?_)
  show X 0 0 [(x, .inr (6, [.ref tw, .ref pw, .ref uw, .ref o, .ref hh, .ref rd, .ref bk, .ref pl, .ref asd, .ref fd, .int (nI wr), .int hi9])), (tw, .inr (3, [.ref tsk, .ref tkd, .ref tmo, .ref tlv, .ref ttc, .ref tts, .ref ttl, .int (nI ttn), .int trg, .long thp, .int (nI tlw)])), (pw, .inr (3, [.ref psk, .ref pkd, .ref pmo, .ref plv, .ref ptc, .ref pts, .ref ptl, .int (nI ptn), .int prg, .long php, .int (nI plw)]))] [(0, .ref x)] 0 []
  refine x_aload_n C dX7_fell_0 0 rfl ?_
  refine x_get C inlX7 rfl 0 (by decide) gw_1_16 dX7_fell_1 0 rfl rfl ?_
  refine x_getN C inlX4 rfl 7 (by decide) nw_X7_104 dX7_fell_4 1 rfl rfl ?_
  refine x_if_ne C dX7_fell_7 (tgt := 13) rfl (fun c1 => ?_) (fun c1 => ?_)
  ·
    have c1 : ttn ≠ 0 := q_ne_t rfl (rfl : (0 : Int32) = nI 0) (by omega) (by omega) c1
    refine x_aload_n C dX7_fell_13 0 rfl ?_
    refine x_get C inlX7 rfl 0 (by decide) gw_1_16 dX7_fell_14 0 rfl rfl ?_
    refine x_dup C dX7_fell_17 rfl ?_
    refine x_getN C inlX4 rfl 7 (by decide) nw_X7_104 dX7_fell_18 1 rfl rfl ?_
    refine x_iconst C dX7_fell_21 (v := 1) rfl ?_
    refine x_isub C dX7_fell_22 ?_
    refine x_topi C (nI (ttn - 1)) (q_isub (a := ttn) (b := 1) rfl (rfl : (1 : Int32) = nI 1) (by omega)) ?_
    refine x_putN C inlX4 rfl tyX4 tyX4_ok nmX4 7 (by decide) nw_X7_104 rfl dX7_fell_23 1 rfl (rfl) rfl (Nat.le_of_ble_eq_true rfl) ?_
    show X _ _ [(x, .inr (6, [.ref tw, .ref pw, .ref uw, .ref o, .ref hh, .ref rd, .ref bk, .ref pl, .ref asd, .ref fd, .int (nI wr), .int hi9])), (tw, .inr (3, [.ref tsk, .ref tkd, .ref tmo, .ref tlv, .ref ttc, .ref tts, .ref ttl, .int (nI (ttn - 1)), .int trg, .long thp, .int (nI tlw)])), (pw, .inr (3, [.ref psk, .ref pkd, .ref pmo, .ref plv, .ref ptc, .ref pts, .ref ptl, .int (nI ptn), .int prg, .long php, .int (nI plw)]))] _ _ _
    refine x_aload_n C dX7_fell_26 0 rfl ?_
    refine x_get C inlX7 rfl 1 (by decide) gw_1_17 dX7_fell_27 0 rfl rfl ?_
    refine x_getN C inlX4 rfl 7 (by decide) nw_X7_104 dX7_fell_30 2 rfl rfl ?_
    show X _ _ _ _ 33 _
    refine x_aload_n C dX7_fell_33 0 rfl ?_
    refine x_get C inlX7 rfl 0 (by decide) gw_1_16 dX7_fell_34 0 rfl rfl ?_
    refine x_getN C inlX4 rfl 7 (by decide) nw_X7_104 dX7_fell_37 1 rfl rfl ?_
    refine x_icmp_le C dX7_fell_40 (tgt := 48) rfl (fun c2 => ?_) (fun c2 => ?_)
    ·
      have c2 : ptn ≤ ttn - 1 := q_le_t rfl rfl (by omega) (by omega) c2
      refine x_aload_n C dX7_fell_48 0 rfl ?_
      refine x_get C inlX7 rfl 0 (by decide) gw_1_16 dX7_fell_49 0 rfl rfl ?_
      refine x_getN C inlX4 rfl 7 (by decide) nw_X7_104 dX7_fell_52 1 rfl rfl ?_
      refine E dX7_fell_55 (rfl) ?_
      exact ⟨(nI (ttn - 1)), (ttn - 1), hi9, rfl, rfl, by (unfold o_fell o_fell_n o_fell_h); (repeat (first | rw [if_pos (by first | (rw [if_pos (by decide)]; assumption) | (rw [if_neg (by decide), if_pos (by decide)]; assumption) | (rw [if_neg (by decide), if_neg (by decide)]; assumption) | assumption | decide | omega | exact o_one_t (by assumption) | (rw [o_one_f (by assumption)]; decide) | exact ⟨by assumption, by assumption⟩ | exact fun h9 => absurd h9.1 (by assumption) | exact fun h9 => absurd h9.2 (by assumption))] | rw [if_neg (by first | (rw [if_pos (by decide)]; assumption) | (rw [if_neg (by decide), if_pos (by decide)]; assumption) | (rw [if_neg (by decide), if_neg (by decide)]; assumption) | assumption | decide | omega | exact o_one_t (by assumption) | (rw [o_one_f (by assumption)]; decide) | exact ⟨by assumption, by assumption⟩ | exact fun h9 => absurd h9.1 (by assumption) | exact fun h9 => absurd h9.2 (by assumption))])); all_goals (first | rfl)⟩
    ·
      have c2 : ptn > ttn - 1 := q_le_f rfl rfl (by omega) (by omega) c2
      refine x_aload_n C dX7_fell_43 0 rfl ?_
      refine x_iconst C dX7_fell_44 (v := 0) rfl ?_
      refine x_put C inlX7 rfl tyX7 tyX7_ok nmX7 11 (by decide) gw_21_12 rfl dX7_fell_45 0 rfl (rfl) rfl (Nat.le_of_ble_eq_true rfl) ?_
      show X _ _ [(x, .inr (6, [.ref tw, .ref pw, .ref uw, .ref o, .ref hh, .ref rd, .ref bk, .ref pl, .ref asd, .ref fd, .int (nI wr), .int 0])), (tw, .inr (3, [.ref tsk, .ref tkd, .ref tmo, .ref tlv, .ref ttc, .ref tts, .ref ttl, .int (nI (ttn - 1)), .int trg, .long thp, .int (nI tlw)])), (pw, .inr (3, [.ref psk, .ref pkd, .ref pmo, .ref plv, .ref ptc, .ref pts, .ref ptl, .int (nI ptn), .int prg, .long php, .int (nI plw)]))] _ _ _
      refine x_aload_n C dX7_fell_48 0 rfl ?_
      refine x_get C inlX7 rfl 0 (by decide) gw_1_16 dX7_fell_49 0 rfl rfl ?_
      refine x_getN C inlX4 rfl 7 (by decide) nw_X7_104 dX7_fell_52 1 rfl rfl ?_
      refine E dX7_fell_55 (rfl) ?_
      exact ⟨(nI (ttn - 1)), (ttn - 1), 0, rfl, rfl, by (unfold o_fell o_fell_n o_fell_h); (repeat (first | rw [if_pos (by first | (rw [if_pos (by decide)]; assumption) | (rw [if_neg (by decide), if_pos (by decide)]; assumption) | (rw [if_neg (by decide), if_neg (by decide)]; assumption) | assumption | decide | omega | exact o_one_t (by assumption) | (rw [o_one_f (by assumption)]; decide) | exact ⟨by assumption, by assumption⟩ | exact fun h9 => absurd h9.1 (by assumption) | exact fun h9 => absurd h9.2 (by assumption))] | rw [if_neg (by first | (rw [if_pos (by decide)]; assumption) | (rw [if_neg (by decide), if_pos (by decide)]; assumption) | (rw [if_neg (by decide), if_neg (by decide)]; assumption) | assumption | decide | omega | exact o_one_t (by assumption) | (rw [o_one_f (by assumption)]; decide) | exact ⟨by assumption, by assumption⟩ | exact fun h9 => absurd h9.1 (by assumption) | exact fun h9 => absurd h9.2 (by assumption))])); all_goals (first | rfl)⟩
  ·
    have c1 : ttn = 0 := q_ne_f rfl (rfl : (0 : Int32) = nI 0) (by omega) (by omega) c1
    refine x_bipush C dX7_fell_10 (v := (-3)) rfl ?_
    refine E dX7_fell_12 (rfl) ?_
    exact ⟨(-3), ttn, hi9, rfl, rfl, by (unfold o_fell o_fell_n o_fell_h); (repeat (first | rw [if_pos (by first | (rw [if_pos (by decide)]; assumption) | (rw [if_neg (by decide), if_pos (by decide)]; assumption) | (rw [if_neg (by decide), if_neg (by decide)]; assumption) | assumption | decide | omega | exact o_one_t (by assumption) | (rw [o_one_f (by assumption)]; decide) | exact ⟨by assumption, by assumption⟩ | exact fun h9 => absurd h9.1 (by assumption) | exact fun h9 => absurd h9.2 (by assumption))] | rw [if_neg (by first | (rw [if_pos (by decide)]; assumption) | (rw [if_neg (by decide), if_pos (by decide)]; assumption) | (rw [if_neg (by decide), if_neg (by decide)]; assumption) | assumption | decide | omega | exact o_one_t (by assumption) | (rw [o_one_f (by assumption)]; decide) | exact ⟨by assumption, by assumption⟩ | exact fun h9 => absurd h9.1 (by assumption) | exact fun h9 => absurd h9.2 (by assumption))])); all_goals (first | rfl)⟩
set_option maxHeartbeats 4000000 in
set_option maxRecDepth 100000 in
theorem c_X7_strew (l : Launch) (dG : va_G) (cI cM cW cS : ClassId) (x pw uw o hh rd bk pl asd fd : Nat) (wr : Nat) (hi9 : Int32) (tw tsk tkd tmo tlv ttc tts ttl ts0 ts1 ts2 ts3 : Nat) (ttn tlw : Nat) (trg : Int32) (thp : Int64) (tR0 tR1 tR2 tR3 tkf tmf tlf tcf tsf ttf : Nat → Int32) (c v : Int32) : rM l yX7_strew cX7_strew 4 (some .int) ({ frames := 2, cells := 0, slots := 0, locals := 42 } : Room) dG (tY cI cM cW cS) rZ0 [.ref x, .int c, .int v] [(x, .inr (6, [.ref tw, .ref pw, .ref uw, .ref o, .ref hh, .ref rd, .ref bk, .ref pl, .ref asd, .ref fd, .int (nI wr), .int hi9])), (tw, .inr (3, [.ref tsk, .ref tkd, .ref tmo, .ref tlv, .ref ttc, .ref tts, .ref ttl, .int (nI ttn), .int trg, .long thp, .int (nI tlw)])), (tlv, .inl (cI, 36, .inl tlf))] (fun ov oz => ∃ (r : Int32) (f' : Nat → Int32), ov = some (.int r) ∧ oz = [(x, .inr (6, [.ref tw, .ref pw, .ref uw, .ref o, .ref hh, .ref rd, .ref bk, .ref pl, .ref asd, .ref fd, .int (nI wr), .int hi9])), (tw, .inr (3, [.ref tsk, .ref tkd, .ref tmo, .ref tlv, .ref ttc, .ref tts, .ref ttl, .int (nI ttn), .int trg, .long thp, .int (nI tlw)])), (tlv, .inl (cI, 36, .inl f'))] ∧ (r, f') = (o_strew tlf c v, o_strew_f tlf c v)) := by
  refine rM_ofI rfl (Nat.le_of_ble_eq_true rfl) rfl (fun X C E => ?_)
  show X 0 0 [(x, .inr (6, [.ref tw, .ref pw, .ref uw, .ref o, .ref hh, .ref rd, .ref bk, .ref pl, .ref asd, .ref fd, .int (nI wr), .int hi9])), (tw, .inr (3, [.ref tsk, .ref tkd, .ref tmo, .ref tlv, .ref ttc, .ref tts, .ref ttl, .int (nI ttn), .int trg, .long thp, .int (nI tlw)])), (tlv, .inl (cI, 36, .inl tlf))] [(0, .ref x), (1, .int c), (2, .int v)] 0 []
  refine x_iload_n C dX7_strew_0 1 rfl ?_
  refine x_callS C (As := [.int c]) (st := []) (wc := []) (wr := [(x, .inr (6, [.ref tw, .ref pw, .ref uw, .ref o, .ref hh, .ref rd, .ref bk, .ref pl, .ref asd, .ref fd, .int (nI wr), .int hi9])), (tw, .inr (3, [.ref tsk, .ref tkd, .ref tmo, .ref tlv, .ref ttc, .ref tts, .ref ttl, .int (nI ttn), .int trg, .long thp, .int (nI tlw)])), (tlv, .inl (cI, 36, .inl tlf))]) (c_X7_isCell l dG cI cM cW cS c ) rZ0_ok (fun _ _ _ _ => trivial) kS_X7_123 hy_X7_isCell ⟨Nat.le_of_ble_eq_true rfl, Nat.le_of_ble_eq_true rfl⟩ ⟨Nat.le_of_ble_eq_true rfl, Nat.le_of_ble_eq_true rfl⟩ dX7_strew_1 [] [0, 1, 2] rfl rfl rfl rfl (by decide) rfl (Nat.le_of_ble_eq_true rfl) ?_
  intro v1 w2 h3
  rcases h3 with h3 | h3
  ·
    obtain ⟨rfl, rfl, hf4⟩ := h3
    show X 0 0 [(x, .inr (6, [.ref tw, .ref pw, .ref uw, .ref o, .ref hh, .ref rd, .ref bk, .ref pl, .ref asd, .ref fd, .int (nI wr), .int hi9])), (tw, .inr (3, [.ref tsk, .ref tkd, .ref tmo, .ref tlv, .ref ttc, .ref tts, .ref ttl, .int (nI ttn), .int trg, .long thp, .int (nI tlw)])), (tlv, .inl (cI, 36, .inl tlf))] [(0, .ref x), (1, .int c), (2, .int v)] 4 [.int 1]
    have hr5 := hf4
    obtain ⟨j, hj, rfl⟩ := q_w (n := 35) rfl (by decide) hf4
    have hnj : o_n (nI j) = j := o_n_nI (by omega)
    refine x_if_ne C dX7_strew_4 (tgt := 10) rfl (fun _ => ?_) (fun q9 => by first | exact absurd q9 (by decide) | exact absurd (by decide) q9)
    refine x_iload_n C dX7_strew_10 2 rfl ?_
    refine x_iconst C dX7_strew_11 (v := 0) rfl ?_
    refine x_sipush C dX7_strew_12 (v := 999) rfl ?_
    refine x_callS C (As := [.int v, .int 0, .int 999]) (st := []) (wc := []) (wr := [(x, .inr (6, [.ref tw, .ref pw, .ref uw, .ref o, .ref hh, .ref rd, .ref bk, .ref pl, .ref asd, .ref fd, .int (nI wr), .int hi9])), (tw, .inr (3, [.ref tsk, .ref tkd, .ref tmo, .ref tlv, .ref ttc, .ref tts, .ref ttl, .int (nI ttn), .int trg, .long thp, .int (nI tlw)])), (tlv, .inl (cI, 36, .inl tlf))]) (c_X7_within l dG cI cM cW cS v 0 999 ) rZ0_ok (fun _ _ _ _ => trivial) kS_X7_92 hy_X7_within ⟨Nat.le_of_ble_eq_true rfl, Nat.le_of_ble_eq_true rfl⟩ ⟨Nat.le_of_ble_eq_true rfl, Nat.le_of_ble_eq_true rfl⟩ dX7_strew_15 [] [0, 1, 2] rfl rfl rfl rfl (by decide) rfl (Nat.le_of_ble_eq_true rfl) ?_
    intro v6 w7 h8
    rcases h8 with h8 | h8
    ·
      obtain ⟨rfl, rfl, hf9⟩ := h8
      show X 0 0 [(x, .inr (6, [.ref tw, .ref pw, .ref uw, .ref o, .ref hh, .ref rd, .ref bk, .ref pl, .ref asd, .ref fd, .int (nI wr), .int hi9])), (tw, .inr (3, [.ref tsk, .ref tkd, .ref tmo, .ref tlv, .ref ttc, .ref tts, .ref ttl, .int (nI ttn), .int trg, .long thp, .int (nI tlw)])), (tlv, .inl (cI, 36, .inl tlf))] [(0, .ref x), (1, .int (nI j)), (2, .int v)] 18 [.int 1]
      refine x_if_ne C dX7_strew_18 (tgt := 24) rfl (fun _ => ?_) (fun q9 => by first | exact absurd q9 (by decide) | exact absurd (by decide) q9)
      refine x_aload_n C dX7_strew_24 0 rfl ?_
      refine x_get C inlX7 rfl 0 (by decide) gw_1_16 dX7_strew_25 0 rfl rfl ?_
      refine x_getN C inlX4 rfl 3 (by decide) nw_X7_146 dX7_strew_28 1 rfl rfl ?_
      refine x_iload_n C dX7_strew_31 1 rfl ?_
      refine x_iaload C 0 rfl dX7_strew_32 j (q_cl rfl (by omega)) (q_ix rfl (by omega) (by omega)) 2 rfl ?_
      refine x_istore_n C dX7_strew_33 (by decide) (lv' := [(3, .int (tlf j)), (0, .ref x), (1, .int (nI j)), (2, .int v)]) rfl ?_
      refine x_aload_n C dX7_strew_34 1 rfl ?_
      refine x_get C inlX7 rfl 0 (by decide) gw_1_16 dX7_strew_35 0 rfl rfl ?_
      refine x_getN C inlX4 rfl 3 (by decide) nw_X7_146 dX7_strew_38 1 rfl rfl ?_
      show X _ _ _ _ 41 _
      refine x_iload_n C dX7_strew_41 2 rfl ?_
      refine x_iload_n C dX7_strew_42 3 rfl ?_
      refine x_iastore C 0 rfl dX7_strew_43 j (q_cl rfl (by omega)) (q_ix rfl (by omega) (by omega)) 2 rfl ?_
      show X _ _ [(x, .inr (6, [.ref tw, .ref pw, .ref uw, .ref o, .ref hh, .ref rd, .ref bk, .ref pl, .ref asd, .ref fd, .int (nI wr), .int hi9])), (tw, .inr (3, [.ref tsk, .ref tkd, .ref tmo, .ref tlv, .ref ttc, .ref tts, .ref ttl, .int (nI ttn), .int trg, .long thp, .int (nI tlw)])), (tlv, .inl (cI, 36, .inl (upd tlf j v)))] _ _ _
      refine x_iload_n C dX7_strew_44 0 rfl ?_
      refine E dX7_strew_45 (rfl) ?_
      exact ⟨(tlf j), (upd tlf j v), rfl, rfl, by (unfold o_strew o_strew_f); (try simp only [hnj]); (repeat (first | rw [if_pos (by first | (rw [if_pos (by decide)]; assumption) | (rw [if_neg (by decide), if_pos (by decide)]; assumption) | (rw [if_neg (by decide), if_neg (by decide)]; assumption) | assumption | decide | omega | exact o_one_t (by assumption) | (rw [o_one_f (by assumption)]; decide) | exact ⟨by assumption, by assumption⟩ | exact fun h9 => absurd h9.1 (by assumption) | exact fun h9 => absurd h9.2 (by assumption))] | rw [if_neg (by first | (rw [if_pos (by decide)]; assumption) | (rw [if_neg (by decide), if_pos (by decide)]; assumption) | (rw [if_neg (by decide), if_neg (by decide)]; assumption) | assumption | decide | omega | exact o_one_t (by assumption) | (rw [o_one_f (by assumption)]; decide) | exact ⟨by assumption, by assumption⟩ | exact fun h9 => absurd h9.1 (by assumption) | exact fun h9 => absurd h9.2 (by assumption))])); all_goals (first | rfl)⟩
    ·
      obtain ⟨rfl, rfl, hf10⟩ := h8
      show X 0 0 [(x, .inr (6, [.ref tw, .ref pw, .ref uw, .ref o, .ref hh, .ref rd, .ref bk, .ref pl, .ref asd, .ref fd, .int (nI wr), .int hi9])), (tw, .inr (3, [.ref tsk, .ref tkd, .ref tmo, .ref tlv, .ref ttc, .ref tts, .ref ttl, .int (nI ttn), .int trg, .long thp, .int (nI tlw)])), (tlv, .inl (cI, 36, .inl tlf))] [(0, .ref x), (1, .int (nI j)), (2, .int v)] 18 [.int 0]
      refine x_if_ne C dX7_strew_18 (tgt := 24) rfl (fun q9 => absurd q9 (by decide)) (fun _ => ?_)
      refine x_bipush C dX7_strew_21 (v := (-7)) rfl ?_
      refine E dX7_strew_23 (rfl) ?_
      exact ⟨(-7), tlf, rfl, rfl, by (unfold o_strew o_strew_f); (try simp only [hnj]); (repeat (first | rw [if_pos (by first | (rw [if_pos (by decide)]; assumption) | (rw [if_neg (by decide), if_pos (by decide)]; assumption) | (rw [if_neg (by decide), if_neg (by decide)]; assumption) | assumption | decide | omega | exact o_one_t (by assumption) | (rw [o_one_f (by assumption)]; decide) | exact ⟨by assumption, by assumption⟩ | exact fun h9 => absurd h9.1 (by assumption) | exact fun h9 => absurd h9.2 (by assumption))] | rw [if_neg (by first | (rw [if_pos (by decide)]; assumption) | (rw [if_neg (by decide), if_pos (by decide)]; assumption) | (rw [if_neg (by decide), if_neg (by decide)]; assumption) | assumption | decide | omega | exact o_one_t (by assumption) | (rw [o_one_f (by assumption)]; decide) | exact ⟨by assumption, by assumption⟩ | exact fun h9 => absurd h9.1 (by assumption) | exact fun h9 => absurd h9.2 (by assumption))])); all_goals (first | rfl)⟩
  ·
    obtain ⟨rfl, rfl, hf11⟩ := h3
    show X 0 0 [(x, .inr (6, [.ref tw, .ref pw, .ref uw, .ref o, .ref hh, .ref rd, .ref bk, .ref pl, .ref asd, .ref fd, .int (nI wr), .int hi9])), (tw, .inr (3, [.ref tsk, .ref tkd, .ref tmo, .ref tlv, .ref ttc, .ref tts, .ref ttl, .int (nI ttn), .int trg, .long thp, .int (nI tlw)])), (tlv, .inl (cI, 36, .inl tlf))] [(0, .ref x), (1, .int c), (2, .int v)] 4 [.int 0]
    refine x_if_ne C dX7_strew_4 (tgt := 10) rfl (fun q9 => absurd q9 (by decide)) (fun _ => ?_)
    refine x_bipush C dX7_strew_7 (v := (-5)) rfl ?_
    refine E dX7_strew_9 (rfl) ?_
    exact ⟨(-5), tlf, rfl, rfl, by (unfold o_strew o_strew_f); (repeat (first | rw [if_pos (by first | (rw [if_pos (by decide)]; assumption) | (rw [if_neg (by decide), if_pos (by decide)]; assumption) | (rw [if_neg (by decide), if_neg (by decide)]; assumption) | assumption | decide | omega | exact o_one_t (by assumption) | (rw [o_one_f (by assumption)]; decide) | exact ⟨by assumption, by assumption⟩ | exact fun h9 => absurd h9.1 (by assumption) | exact fun h9 => absurd h9.2 (by assumption))] | rw [if_neg (by first | (rw [if_pos (by decide)]; assumption) | (rw [if_neg (by decide), if_pos (by decide)]; assumption) | (rw [if_neg (by decide), if_neg (by decide)]; assumption) | assumption | decide | omega | exact o_one_t (by assumption) | (rw [o_one_f (by assumption)]; decide) | exact ⟨by assumption, by assumption⟩ | exact fun h9 => absurd h9.1 (by assumption) | exact fun h9 => absurd h9.2 (by assumption))])); all_goals (first | rfl)⟩
set_option maxHeartbeats 4000000 in
set_option maxRecDepth 100000 in
theorem c_X7_rake (l : Launch) (dG : va_G) (cI cM cW cS : ClassId) (x pw uw o hh rd bk pl asd fd : Nat) (wr : Nat) (hi9 : Int32) (tw tsk tkd tmo tlv ttc tts ttl ts0 ts1 ts2 ts3 : Nat) (ttn tlw : Nat) (trg : Int32) (thp : Int64) (tR0 tR1 tR2 tR3 tkf tmf tlf tcf tsf ttf : Nat → Int32) (v : Int32) : rM l yX7_rake cX7_rake 3 (some .int) ({ frames := 1, cells := 0, slots := 0, locals := 22 } : Room) dG (tY cI cM cW cS) rZ0 [.ref x, .int v] [(x, .inr (6, [.ref tw, .ref pw, .ref uw, .ref o, .ref hh, .ref rd, .ref bk, .ref pl, .ref asd, .ref fd, .int (nI wr), .int hi9])), (tw, .inr (3, [.ref tsk, .ref tkd, .ref tmo, .ref tlv, .ref ttc, .ref tts, .ref ttl, .int (nI ttn), .int trg, .long thp, .int (nI tlw)]))] (fun ov oz => ∃ (r : Int32) (v' : Int32), ov = some (.int r) ∧ oz = [(x, .inr (6, [.ref tw, .ref pw, .ref uw, .ref o, .ref hh, .ref rd, .ref bk, .ref pl, .ref asd, .ref fd, .int (nI wr), .int hi9])), (tw, .inr (3, [.ref tsk, .ref tkd, .ref tmo, .ref tlv, .ref ttc, .ref tts, .ref ttl, .int (nI ttn), .int v', .long thp, .int (nI tlw)]))] ∧ (r, v') = (o_rake trg v, o_rake_v trg v)) := by
  refine rM_ofI rfl (Nat.le_of_ble_eq_true rfl) rfl (fun X C E => ?_)
  show X 0 0 [(x, .inr (6, [.ref tw, .ref pw, .ref uw, .ref o, .ref hh, .ref rd, .ref bk, .ref pl, .ref asd, .ref fd, .int (nI wr), .int hi9])), (tw, .inr (3, [.ref tsk, .ref tkd, .ref tmo, .ref tlv, .ref ttc, .ref tts, .ref ttl, .int (nI ttn), .int trg, .long thp, .int (nI tlw)]))] [(0, .ref x), (1, .int v)] 0 []
  refine x_iload_n C dX7_rake_0 1 rfl ?_
  refine x_iconst C dX7_rake_1 (v := 0) rfl ?_
  refine x_sipush C dX7_rake_2 (v := 16383) rfl ?_
  refine x_callS C (As := [.int v, .int 0, .int 16383]) (st := []) (wc := []) (wr := [(x, .inr (6, [.ref tw, .ref pw, .ref uw, .ref o, .ref hh, .ref rd, .ref bk, .ref pl, .ref asd, .ref fd, .int (nI wr), .int hi9])), (tw, .inr (3, [.ref tsk, .ref tkd, .ref tmo, .ref tlv, .ref ttc, .ref tts, .ref ttl, .int (nI ttn), .int trg, .long thp, .int (nI tlw)]))]) (c_X7_within l dG cI cM cW cS v 0 16383 ) rZ0_ok (fun _ _ _ _ => trivial) kS_X7_92 hy_X7_within ⟨Nat.le_of_ble_eq_true rfl, Nat.le_of_ble_eq_true rfl⟩ ⟨Nat.le_of_ble_eq_true rfl, Nat.le_of_ble_eq_true rfl⟩ dX7_rake_5 [] [0, 1] rfl rfl rfl rfl (by decide) rfl (Nat.le_of_ble_eq_true rfl) ?_
  intro v1 w2 h3
  rcases h3 with h3 | h3
  ·
    obtain ⟨rfl, rfl, hf4⟩ := h3
    show X 0 0 [(x, .inr (6, [.ref tw, .ref pw, .ref uw, .ref o, .ref hh, .ref rd, .ref bk, .ref pl, .ref asd, .ref fd, .int (nI wr), .int hi9])), (tw, .inr (3, [.ref tsk, .ref tkd, .ref tmo, .ref tlv, .ref ttc, .ref tts, .ref ttl, .int (nI ttn), .int trg, .long thp, .int (nI tlw)]))] [(0, .ref x), (1, .int v)] 8 [.int 1]
    refine x_if_ne C dX7_rake_8 (tgt := 14) rfl (fun _ => ?_) (fun q9 => by first | exact absurd q9 (by decide) | exact absurd (by decide) q9)
    refine x_aload_n C dX7_rake_14 0 rfl ?_
    refine x_get C inlX7 rfl 0 (by decide) gw_1_16 dX7_rake_15 0 rfl rfl ?_
    refine x_getN C inlX4 rfl 8 (by decide) nw_X7_107 dX7_rake_18 1 rfl rfl ?_
    refine x_istore_n C dX7_rake_21 (by decide) (lv' := [(2, .int trg), (0, .ref x), (1, .int v)]) rfl ?_
    refine x_aload_n C dX7_rake_22 1 rfl ?_
    refine x_get C inlX7 rfl 0 (by decide) gw_1_16 dX7_rake_23 0 rfl rfl ?_
    refine x_iload_n C dX7_rake_26 2 rfl ?_
    refine x_putN C inlX4 rfl tyX4 tyX4_ok nmX4 8 (by decide) nw_X7_107 rfl dX7_rake_27 1 rfl (rfl) rfl (Nat.le_of_ble_eq_true rfl) ?_
    show X _ _ [(x, .inr (6, [.ref tw, .ref pw, .ref uw, .ref o, .ref hh, .ref rd, .ref bk, .ref pl, .ref asd, .ref fd, .int (nI wr), .int hi9])), (tw, .inr (3, [.ref tsk, .ref tkd, .ref tmo, .ref tlv, .ref ttc, .ref tts, .ref ttl, .int (nI ttn), .int v, .long thp, .int (nI tlw)]))] _ _ _
    refine x_iload_n C dX7_rake_30 0 rfl ?_
    show X _ _ _ _ 31 _
    refine E dX7_rake_31 (rfl) ?_
    exact ⟨trg, v, rfl, rfl, by (unfold o_rake o_rake_v); (repeat (first | rw [if_pos (by first | (rw [if_pos (by decide)]; assumption) | (rw [if_neg (by decide), if_pos (by decide)]; assumption) | (rw [if_neg (by decide), if_neg (by decide)]; assumption) | assumption | decide | omega | exact o_one_t (by assumption) | (rw [o_one_f (by assumption)]; decide) | exact ⟨by assumption, by assumption⟩ | exact fun h9 => absurd h9.1 (by assumption) | exact fun h9 => absurd h9.2 (by assumption))] | rw [if_neg (by first | (rw [if_pos (by decide)]; assumption) | (rw [if_neg (by decide), if_pos (by decide)]; assumption) | (rw [if_neg (by decide), if_neg (by decide)]; assumption) | assumption | decide | omega | exact o_one_t (by assumption) | (rw [o_one_f (by assumption)]; decide) | exact ⟨by assumption, by assumption⟩ | exact fun h9 => absurd h9.1 (by assumption) | exact fun h9 => absurd h9.2 (by assumption))])); all_goals (first | rfl)⟩
  ·
    obtain ⟨rfl, rfl, hf5⟩ := h3
    show X 0 0 [(x, .inr (6, [.ref tw, .ref pw, .ref uw, .ref o, .ref hh, .ref rd, .ref bk, .ref pl, .ref asd, .ref fd, .int (nI wr), .int hi9])), (tw, .inr (3, [.ref tsk, .ref tkd, .ref tmo, .ref tlv, .ref ttc, .ref tts, .ref ttl, .int (nI ttn), .int trg, .long thp, .int (nI tlw)]))] [(0, .ref x), (1, .int v)] 8 [.int 0]
    refine x_if_ne C dX7_rake_8 (tgt := 14) rfl (fun q9 => absurd q9 (by decide)) (fun _ => ?_)
    refine x_bipush C dX7_rake_11 (v := (-2)) rfl ?_
    refine E dX7_rake_13 (rfl) ?_
    exact ⟨(-2), trg, rfl, rfl, by (unfold o_rake o_rake_v); (repeat (first | rw [if_pos (by first | (rw [if_pos (by decide)]; assumption) | (rw [if_neg (by decide), if_pos (by decide)]; assumption) | (rw [if_neg (by decide), if_neg (by decide)]; assumption) | assumption | decide | omega | exact o_one_t (by assumption) | (rw [o_one_f (by assumption)]; decide) | exact ⟨by assumption, by assumption⟩ | exact fun h9 => absurd h9.1 (by assumption) | exact fun h9 => absurd h9.2 (by assumption))] | rw [if_neg (by first | (rw [if_pos (by decide)]; assumption) | (rw [if_neg (by decide), if_pos (by decide)]; assumption) | (rw [if_neg (by decide), if_neg (by decide)]; assumption) | assumption | decide | omega | exact o_one_t (by assumption) | (rw [o_one_f (by assumption)]; decide) | exact ⟨by assumption, by assumption⟩ | exact fun h9 => absurd h9.1 (by assumption) | exact fun h9 => absurd h9.2 (by assumption))])); all_goals (first | rfl)⟩
theorem nw_X7_169 : (RX7, 169, "LeavesBeforeWind$Lawn", "heaps", "J", "LeavesBeforeWind") ∈ NWF := List.mem_of_getElem? (i := 11) rfl
set_option maxHeartbeats 4000000 in
set_option maxRecDepth 100000 in
theorem c_X7_heap (l : Launch) (dG : va_G) (cI cM cW cS : ClassId) (x pw uw o hh rd bk pl asd fd : Nat) (wr : Nat) (hi9 : Int32) (tw tsk tkd tmo tlv ttc tts ttl ts0 ts1 ts2 ts3 : Nat) (ttn tlw : Nat) (trg : Int32) (thp : Int64) (tR0 tR1 tR2 tR3 tkf tmf tlf tcf tsf ttf : Nat → Int32) (v : Int64) : rM l yX7_heap cX7_heap 5 (some .long) ({ frames := 0, cells := 0, slots := 0, locals := 0 } : Room) dG (tY cI cM cW cS) rZ0 [.ref x, .long v] [(x, .inr (6, [.ref tw, .ref pw, .ref uw, .ref o, .ref hh, .ref rd, .ref bk, .ref pl, .ref asd, .ref fd, .int (nI wr), .int hi9])), (tw, .inr (3, [.ref tsk, .ref tkd, .ref tmo, .ref tlv, .ref ttc, .ref tts, .ref ttl, .int (nI ttn), .int trg, .long thp, .int (nI tlw)]))] (fun ov oz => ∃ (r : Int64) (v' : Int64), ov = some (.long r) ∧ oz = [(x, .inr (6, [.ref tw, .ref pw, .ref uw, .ref o, .ref hh, .ref rd, .ref bk, .ref pl, .ref asd, .ref fd, .int (nI wr), .int hi9])), (tw, .inr (3, [.ref tsk, .ref tkd, .ref tmo, .ref tlv, .ref ttc, .ref tts, .ref ttl, .int (nI ttn), .int trg, .long v', .int (nI tlw)]))] ∧ (r, v') = (o_heap thp v, o_heap_v thp v)) := by
  refine rM_ofL rfl (Nat.le_of_ble_eq_true rfl) rfl (fun X C E => ?_)
  show X 0 0 [(x, .inr (6, [.ref tw, .ref pw, .ref uw, .ref o, .ref hh, .ref rd, .ref bk, .ref pl, .ref asd, .ref fd, .int (nI wr), .int hi9])), (tw, .inr (3, [.ref tsk, .ref tkd, .ref tmo, .ref tlv, .ref ttc, .ref tts, .ref ttl, .int (nI ttn), .int trg, .long thp, .int (nI tlw)]))] [(0, .ref x), (1, .long v)] 0 []
  refine x_lload_n C dX7_heap_0 1 rfl ?_
  refine x_lconst C dX7_heap_1 (v := 1) rfl ?_
  refine x_lcmp C dX7_heap_2 ?_
  refine x_if_lt C dX7_heap_3 (tgt := 14) rfl (fun c1 => ?_) (fun c1 => ?_)
  ·
    refine x_ldc2 C gw_22_16 dX7_heap_14 ?_
    refine E dX7_heap_17 ?_
    exact ⟨(-4611686018427387904), thp, rfl, rfl, by (unfold o_heap o_heap_v); (repeat (first | rw [if_pos (by first | (rw [if_pos (by decide)]; assumption) | (rw [if_neg (by decide), if_pos (by decide)]; assumption) | (rw [if_neg (by decide), if_neg (by decide)]; assumption) | assumption | decide | omega | exact o_one_t (by assumption) | (rw [o_one_f (by assumption)]; decide) | exact ⟨by assumption, by assumption⟩ | exact fun h9 => absurd h9.1 (by assumption) | exact fun h9 => absurd h9.2 (by assumption))] | rw [if_neg (by first | (rw [if_pos (by decide)]; assumption) | (rw [if_neg (by decide), if_pos (by decide)]; assumption) | (rw [if_neg (by decide), if_neg (by decide)]; assumption) | assumption | decide | omega | exact o_one_t (by assumption) | (rw [o_one_f (by assumption)]; decide) | exact ⟨by assumption, by assumption⟩ | exact fun h9 => absurd h9.1 (by assumption) | exact fun h9 => absurd h9.2 (by assumption))])); all_goals (first | rfl)⟩
  ·
    refine x_lload_n C dX7_heap_6 1 rfl ?_
    refine x_ldc2 C gw_22_15 dX7_heap_7 ?_
    refine x_lcmp C dX7_heap_10 ?_
    refine x_if_lt C dX7_heap_11 (tgt := 18) rfl (fun c2 => ?_) (fun c2 => ?_)
    ·
      refine x_aload_n C dX7_heap_18 0 rfl ?_
      refine x_get C inlX7 rfl 0 (by decide) gw_1_16 dX7_heap_19 0 rfl rfl ?_
      refine x_getN C inlX4 rfl 9 (by decide) nw_X7_169 dX7_heap_22 1 rfl rfl ?_
      refine x_lstore_n C dX7_heap_25 (by decide) (lv' := [(3, .long thp), (0, .ref x), (1, .long v)]) rfl ?_
      refine x_aload_n C dX7_heap_26 1 rfl ?_
      refine x_get C inlX7 rfl 0 (by decide) gw_1_16 dX7_heap_27 0 rfl rfl ?_
      refine x_lload_n C dX7_heap_30 2 rfl ?_
      refine x_putN C inlX4 rfl tyX4 tyX4_ok nmX4 9 (by decide) nw_X7_169 rfl dX7_heap_31 1 rfl (rfl) rfl (Nat.le_of_ble_eq_true rfl) ?_
      show X _ _ [(x, .inr (6, [.ref tw, .ref pw, .ref uw, .ref o, .ref hh, .ref rd, .ref bk, .ref pl, .ref asd, .ref fd, .int (nI wr), .int hi9])), (tw, .inr (3, [.ref tsk, .ref tkd, .ref tmo, .ref tlv, .ref ttc, .ref tts, .ref ttl, .int (nI ttn), .int trg, .long v, .int (nI tlw)]))] _ _ _
      refine x_lload_n C dX7_heap_34 0 rfl ?_
      refine E dX7_heap_35 ?_
      exact ⟨thp, v, rfl, rfl, by (unfold o_heap o_heap_v); (repeat (first | rw [if_pos (by first | (rw [if_pos (by decide)]; assumption) | (rw [if_neg (by decide), if_pos (by decide)]; assumption) | (rw [if_neg (by decide), if_neg (by decide)]; assumption) | assumption | decide | omega | exact o_one_t (by assumption) | (rw [o_one_f (by assumption)]; decide) | exact ⟨by assumption, by assumption⟩ | exact fun h9 => absurd h9.1 (by assumption) | exact fun h9 => absurd h9.2 (by assumption))] | rw [if_neg (by first | (rw [if_pos (by decide)]; assumption) | (rw [if_neg (by decide), if_pos (by decide)]; assumption) | (rw [if_neg (by decide), if_neg (by decide)]; assumption) | assumption | decide | omega | exact o_one_t (by assumption) | (rw [o_one_f (by assumption)]; decide) | exact ⟨by assumption, by assumption⟩ | exact fun h9 => absurd h9.1 (by assumption) | exact fun h9 => absurd h9.2 (by assumption))])); all_goals (first | rfl)⟩
    ·
      refine x_ldc2 C gw_22_16 dX7_heap_14 ?_
      refine E dX7_heap_17 ?_
      exact ⟨(-4611686018427387904), thp, rfl, rfl, by (unfold o_heap o_heap_v); (repeat (first | rw [if_pos (by first | (rw [if_pos (by decide)]; assumption) | (rw [if_neg (by decide), if_pos (by decide)]; assumption) | (rw [if_neg (by decide), if_neg (by decide)]; assumption) | assumption | decide | omega | exact o_one_t (by assumption) | (rw [o_one_f (by assumption)]; decide) | exact ⟨by assumption, by assumption⟩ | exact fun h9 => absurd h9.1 (by assumption) | exact fun h9 => absurd h9.2 (by assumption))] | rw [if_neg (by first | (rw [if_pos (by decide)]; assumption) | (rw [if_neg (by decide), if_pos (by decide)]; assumption) | (rw [if_neg (by decide), if_neg (by decide)]; assumption) | assumption | decide | omega | exact o_one_t (by assumption) | (rw [o_one_f (by assumption)]; decide) | exact ⟨by assumption, by assumption⟩ | exact fun h9 => absurd h9.1 (by assumption) | exact fun h9 => absurd h9.2 (by assumption))])); all_goals (first | rfl)⟩
theorem kS_X7_289 : GoodIn GW (va_wsS RX7 289 yX2_isOne (Cond.code yX2_isOne cX2_isOne 2 (some .boolean) :: GW)) := r_gS gw_43_19 gw_43_20 gw_25_11 gw_43_21
theorem hy_X2_isOne : yX2_isOne.cls ≠ "java/lang/invoke/MethodHandle" ∧ yX2_isOne.cls ≠ "java/lang/invoke/VarHandle" ∧ (parseMethodDescriptor yX2_isOne.desc).map (fun d => d.parameters.length) = some 2 := ⟨by decide +kernel, by decide +kernel, by decide +kernel⟩
set_option maxHeartbeats 4000000 in
set_option maxRecDepth 100000 in
theorem c_X7_taken (l : Launch) (dG : va_G) (cI cM cW cS : ClassId) (x pw uw o hh rd bk pl asd fd : Nat) (wr : Nat) (hi9 : Int32) (tw tsk tkd tmo tlv ttc tts ttl ts0 ts1 ts2 ts3 : Nat) (ttn tlw : Nat) (trg : Int32) (thp : Int64) (tR0 tR1 tR2 tR3 tkf tmf tlf tcf tsf ttf : Nat → Int32) (i k : Int32) (htn : ttn ≤ 4) : rM l yX7_taken cX7_taken 3 (some .int) ({ frames := 2, cells := 0, slots := 0, locals := 43 } : Room) dG (tY cI cM cW cS) rZ0 [.ref x, .int i, .int k] [(x, .inr (6, [.ref tw, .ref pw, .ref uw, .ref o, .ref hh, .ref rd, .ref bk, .ref pl, .ref asd, .ref fd, .int (nI wr), .int hi9])), (tw, .inr (3, [.ref tsk, .ref tkd, .ref tmo, .ref tlv, .ref ttc, .ref tts, .ref ttl, .int (nI ttn), .int trg, .long thp, .int (nI tlw)])), (tkd, .inl (cI, 36, .inl tkf)), (ttl, .inl (cI, 4, .inl ttf))] (fun ov oz => ∃ (r : Int32), ov = some (.int r) ∧ oz = [(x, .inr (6, [.ref tw, .ref pw, .ref uw, .ref o, .ref hh, .ref rd, .ref bk, .ref pl, .ref asd, .ref fd, .int (nI wr), .int hi9])), (tw, .inr (3, [.ref tsk, .ref tkd, .ref tmo, .ref tlv, .ref ttc, .ref tts, .ref ttl, .int (nI ttn), .int trg, .long thp, .int (nI tlw)])), (tkd, .inl (cI, 36, .inl tkf)), (ttl, .inl (cI, 4, .inl ttf))] ∧ r = o_taken tkf ttf ttn i k) := by
  refine rM_ofI rfl (Nat.le_of_ble_eq_true rfl) rfl (fun X C E => ?_)
  show X 0 0 [(x, .inr (6, [.ref tw, .ref pw, .ref uw, .ref o, .ref hh, .ref rd, .ref bk, .ref pl, .ref asd, .ref fd, .int (nI wr), .int hi9])), (tw, .inr (3, [.ref tsk, .ref tkd, .ref tmo, .ref tlv, .ref ttc, .ref tts, .ref ttl, .int (nI ttn), .int trg, .long thp, .int (nI tlw)])), (tkd, .inl (cI, 36, .inl tkf)), (ttl, .inl (cI, 4, .inl ttf))] [(0, .ref x), (1, .int i), (2, .int k)] 0 []
  refine x_iload_n C dX7_taken_0 2 rfl ?_
  refine x_iconst C dX7_taken_1 (v := 0) rfl ?_
  refine x_bipush C dX7_taken_2 (v := 6) rfl ?_
  refine x_callS C (As := [.int k, .int 0, .int 6]) (st := []) (wc := []) (wr := [(x, .inr (6, [.ref tw, .ref pw, .ref uw, .ref o, .ref hh, .ref rd, .ref bk, .ref pl, .ref asd, .ref fd, .int (nI wr), .int hi9])), (tw, .inr (3, [.ref tsk, .ref tkd, .ref tmo, .ref tlv, .ref ttc, .ref tts, .ref ttl, .int (nI ttn), .int trg, .long thp, .int (nI tlw)])), (tkd, .inl (cI, 36, .inl tkf)), (ttl, .inl (cI, 4, .inl ttf))]) (c_X7_within l dG cI cM cW cS k 0 6 ) rZ0_ok (fun _ _ _ _ => trivial) kS_X7_92 hy_X7_within ⟨Nat.le_of_ble_eq_true rfl, Nat.le_of_ble_eq_true rfl⟩ ⟨Nat.le_of_ble_eq_true rfl, Nat.le_of_ble_eq_true rfl⟩ dX7_taken_4 [] [0, 1, 2, 3] rfl rfl rfl rfl (by decide) rfl (Nat.le_of_ble_eq_true rfl) ?_
  intro v1 w2 h3
  rcases h3 with h3 | h3
  ·
    obtain ⟨rfl, rfl, hf4⟩ := h3
    show X 0 0 [(x, .inr (6, [.ref tw, .ref pw, .ref uw, .ref o, .ref hh, .ref rd, .ref bk, .ref pl, .ref asd, .ref fd, .int (nI wr), .int hi9])), (tw, .inr (3, [.ref tsk, .ref tkd, .ref tmo, .ref tlv, .ref ttc, .ref tts, .ref ttl, .int (nI ttn), .int trg, .long thp, .int (nI tlw)])), (tkd, .inl (cI, 36, .inl tkf)), (ttl, .inl (cI, 4, .inl ttf))] [(0, .ref x), (1, .int i), (2, .int k)] 7 [.int 1]
    refine x_if_ne C dX7_taken_7 (tgt := 13) rfl (fun _ => ?_) (fun q9 => by first | exact absurd q9 (by decide) | exact absurd (by decide) q9)
    refine x_iload_n C dX7_taken_13 1 rfl ?_
    refine x_iconst C dX7_taken_14 (v := 0) rfl ?_
    refine x_bipush C dX7_taken_15 (v := 39) rfl ?_
    refine x_callS C (As := [.int i, .int 0, .int 39]) (st := []) (wc := []) (wr := [(x, .inr (6, [.ref tw, .ref pw, .ref uw, .ref o, .ref hh, .ref rd, .ref bk, .ref pl, .ref asd, .ref fd, .int (nI wr), .int hi9])), (tw, .inr (3, [.ref tsk, .ref tkd, .ref tmo, .ref tlv, .ref ttc, .ref tts, .ref ttl, .int (nI ttn), .int trg, .long thp, .int (nI tlw)])), (tkd, .inl (cI, 36, .inl tkf)), (ttl, .inl (cI, 4, .inl ttf))]) (c_X7_within l dG cI cM cW cS i 0 39 ) rZ0_ok (fun _ _ _ _ => trivial) kS_X7_92 hy_X7_within ⟨Nat.le_of_ble_eq_true rfl, Nat.le_of_ble_eq_true rfl⟩ ⟨Nat.le_of_ble_eq_true rfl, Nat.le_of_ble_eq_true rfl⟩ dX7_taken_17 [] [0, 1, 2, 3] rfl rfl rfl rfl (by decide) rfl (Nat.le_of_ble_eq_true rfl) ?_
    intro v5 w6 h7
    rcases h7 with h7 | h7
    ·
      obtain ⟨rfl, rfl, hf8⟩ := h7
      show X 0 0 [(x, .inr (6, [.ref tw, .ref pw, .ref uw, .ref o, .ref hh, .ref rd, .ref bk, .ref pl, .ref asd, .ref fd, .int (nI wr), .int hi9])), (tw, .inr (3, [.ref tsk, .ref tkd, .ref tmo, .ref tlv, .ref ttc, .ref tts, .ref ttl, .int (nI ttn), .int trg, .long thp, .int (nI tlw)])), (tkd, .inl (cI, 36, .inl tkf)), (ttl, .inl (cI, 4, .inl ttf))] [(0, .ref x), (1, .int i), (2, .int k)] 20 [.int 1]
      have hr9 := hf8
      obtain ⟨j, hj, rfl⟩ := q_w (n := 39) rfl (by decide) hf8
      have hnj : o_n (nI j) = j := o_n_nI (by omega)
      refine x_if_ne C dX7_taken_20 (tgt := 26) rfl (fun _ => ?_) (fun q9 => by first | exact absurd q9 (by decide) | exact absurd (by decide) q9)
      refine x_iload_n C dX7_taken_26 1 rfl ?_
      refine x_bipush C dX7_taken_27 (v := 36) rfl ?_
      refine x_icmp_ge C dX7_taken_29 (tgt := 61) rfl (fun c10 => ?_) (fun c10 => ?_)
      ·
        have c10 : j ≥ 36 := q_ge_t rfl (rfl : (36 : Int32) = nI 36) (by omega) (by omega) c10
        refine x_aload_n C dX7_taken_61 0 rfl ?_
        refine x_iload_n C dX7_taken_62 1 rfl ?_
        refine x_bipush C dX7_taken_63 (v := 36) rfl ?_
        refine x_isub C dX7_taken_65 ?_
        refine x_callV C (As := [.int ((nI j) - 36)]) (st := []) (wc := [(x, .inr (6, [.ref tw, .ref pw, .ref uw, .ref o, .ref hh, .ref rd, .ref bk, .ref pl, .ref asd, .ref fd, .int (nI wr), .int hi9])), (tw, .inr (3, [.ref tsk, .ref tkd, .ref tmo, .ref tlv, .ref ttc, .ref tts, .ref ttl, .int (nI ttn), .int trg, .long thp, .int (nI tlw)]))]) (wr := [(tkd, .inl (cI, 36, .inl tkf)), (ttl, .inl (cI, 4, .inl ttf))]) (c_X7_isTree l dG cI cM cW cS x tw pw uw rd bk pl asd fd wr hi9 o hh 0 tsk tkd tmo tlv ttc tts ttl 0 0 0 0 ttn tlw trg thp ((nI j) - 36) ) rZ0_ok (fun _ _ _ _ => trivial) kV_X7_158 ⟨rfl, hy_X7_isTree⟩ ⟨Nat.le_of_ble_eq_true rfl, Nat.le_of_ble_eq_true rfl⟩ ⟨Nat.le_of_ble_eq_true rfl, Nat.le_of_ble_eq_true rfl⟩ dX7_taken_66 0 rfl rfl [0, 1] [2, 3] rfl rfl rfl rfl (by decide) rfl (Nat.le_of_ble_eq_true rfl) ?_
        intro v11 w12 h13
        rcases h13 with h13 | h13
        ·
          obtain ⟨rfl, rfl, hf14⟩ := h13
          show X 0 0 [(tkd, .inl (cI, 36, .inl tkf)), (ttl, .inl (cI, 4, .inl ttf)), (x, .inr (6, [.ref tw, .ref pw, .ref uw, .ref o, .ref hh, .ref rd, .ref bk, .ref pl, .ref asd, .ref fd, .int (nI wr), .int hi9])), (tw, .inr (3, [.ref tsk, .ref tkd, .ref tmo, .ref tlv, .ref ttc, .ref tts, .ref ttl, .int (nI ttn), .int trg, .long thp, .int (nI tlw)]))] [(0, .ref x), (1, .int (nI j)), (2, .int k)] 69 [.int 1]
          refine x_if_ne C dX7_taken_69 (tgt := 75) rfl (fun _ => ?_) (fun q9 => by first | exact absurd q9 (by decide) | exact absurd (by decide) q9)
          refine x_iload_n C dX7_taken_75 2 rfl ?_
          refine x_bipush C dX7_taken_76 (v := 6) rfl ?_
          refine x_icmp_ne C dX7_taken_78 (tgt := 96) rfl (fun c15 => ?_) (fun c15 => ?_)
          ·
            refine x_bipush C dX7_taken_96 (v := (-13)) rfl ?_
            refine x_sub C [2, 3, 0, 1] (ws' := [(x, .inr (6, [.ref tw, .ref pw, .ref uw, .ref o, .ref hh, .ref rd, .ref bk, .ref pl, .ref asd, .ref fd, .int (nI wr), .int hi9])), (tw, .inr (3, [.ref tsk, .ref tkd, .ref tmo, .ref tlv, .ref ttc, .ref tts, .ref ttl, .int (nI ttn), .int trg, .long thp, .int (nI tlw)])), (tkd, .inl (cI, 36, .inl tkf)), (ttl, .inl (cI, 4, .inl ttf))]) rfl rfl ?_
            refine E dX7_taken_98 (rfl) ?_
            exact ⟨(-13), rfl, rfl, by (unfold o_taken); (try simp only [hnj]); (repeat (first | rw [if_pos (by first | (rw [if_pos (by decide)]; assumption) | (rw [if_neg (by decide), if_pos (by decide)]; assumption) | (rw [if_neg (by decide), if_neg (by decide)]; assumption) | assumption | decide | omega | exact o_one_t (by assumption) | (rw [o_one_f (by assumption)]; decide) | exact ⟨by assumption, by assumption⟩ | exact fun h9 => absurd h9.1 (by assumption) | exact fun h9 => absurd h9.2 (by assumption))] | rw [if_neg (by first | (rw [if_pos (by decide)]; assumption) | (rw [if_neg (by decide), if_pos (by decide)]; assumption) | (rw [if_neg (by decide), if_neg (by decide)]; assumption) | assumption | decide | omega | exact o_one_t (by assumption) | (rw [o_one_f (by assumption)]; decide) | exact ⟨by assumption, by assumption⟩ | exact fun h9 => absurd h9.1 (by assumption) | exact fun h9 => absurd h9.2 (by assumption))])); all_goals (first | rfl)⟩
          ·
            refine x_aload_n C dX7_taken_81 0 rfl ?_
            refine x_get C inlX7 rfl 0 (by decide) gw_1_16 dX7_taken_82 2 rfl rfl ?_
            refine x_getN C inlX4 rfl 6 (by decide) nw_X7_155 dX7_taken_85 3 rfl rfl ?_
            refine x_iload_n C dX7_taken_88 1 rfl ?_
            refine x_bipush C dX7_taken_89 (v := 36) rfl ?_
            refine x_isub C dX7_taken_91 ?_
            refine x_iaload C 0 rfl dX7_taken_92 (j - 36) (q_cl (q_isub (a := j) (b := 36) rfl (rfl : (36 : Int32) = nI 36) (by omega)) (by omega)) (q_ix (q_isub (a := j) (b := 36) rfl (rfl : (36 : Int32) = nI 36) (by omega)) (by omega) (by omega)) 1 rfl ?_
            refine x_goto C dX7_taken_93 (tgt := 98) rfl ?_
            refine x_sub C [2, 3, 0, 1] (ws' := [(x, .inr (6, [.ref tw, .ref pw, .ref uw, .ref o, .ref hh, .ref rd, .ref bk, .ref pl, .ref asd, .ref fd, .int (nI wr), .int hi9])), (tw, .inr (3, [.ref tsk, .ref tkd, .ref tmo, .ref tlv, .ref ttc, .ref tts, .ref ttl, .int (nI ttn), .int trg, .long thp, .int (nI tlw)])), (tkd, .inl (cI, 36, .inl tkf)), (ttl, .inl (cI, 4, .inl ttf))]) rfl rfl ?_
            refine E dX7_taken_98 (rfl) ?_
            exact ⟨(ttf (j - 36)), rfl, rfl, by (unfold o_taken); (try simp only [hnj]); (repeat (first | rw [if_pos (by first | (rw [if_pos (by decide)]; assumption) | (rw [if_neg (by decide), if_pos (by decide)]; assumption) | (rw [if_neg (by decide), if_neg (by decide)]; assumption) | assumption | decide | omega | exact o_one_t (by assumption) | (rw [o_one_f (by assumption)]; decide) | exact ⟨by assumption, by assumption⟩ | exact fun h9 => absurd h9.1 (by assumption) | exact fun h9 => absurd h9.2 (by assumption))] | rw [if_neg (by first | (rw [if_pos (by decide)]; assumption) | (rw [if_neg (by decide), if_pos (by decide)]; assumption) | (rw [if_neg (by decide), if_neg (by decide)]; assumption) | assumption | decide | omega | exact o_one_t (by assumption) | (rw [o_one_f (by assumption)]; decide) | exact ⟨by assumption, by assumption⟩ | exact fun h9 => absurd h9.1 (by assumption) | exact fun h9 => absurd h9.2 (by assumption))])); all_goals (first | rfl)⟩
        ·
          obtain ⟨rfl, rfl, hf16⟩ := h13
          show X 0 0 [(tkd, .inl (cI, 36, .inl tkf)), (ttl, .inl (cI, 4, .inl ttf)), (x, .inr (6, [.ref tw, .ref pw, .ref uw, .ref o, .ref hh, .ref rd, .ref bk, .ref pl, .ref asd, .ref fd, .int (nI wr), .int hi9])), (tw, .inr (3, [.ref tsk, .ref tkd, .ref tmo, .ref tlv, .ref ttc, .ref tts, .ref ttl, .int (nI ttn), .int trg, .long thp, .int (nI tlw)]))] [(0, .ref x), (1, .int (nI j)), (2, .int k)] 69 [.int 0]
          refine x_if_ne C dX7_taken_69 (tgt := 75) rfl (fun q9 => absurd q9 (by decide)) (fun _ => ?_)
          refine x_bipush C dX7_taken_72 (v := (-11)) rfl ?_
          refine x_sub C [2, 3, 0, 1] (ws' := [(x, .inr (6, [.ref tw, .ref pw, .ref uw, .ref o, .ref hh, .ref rd, .ref bk, .ref pl, .ref asd, .ref fd, .int (nI wr), .int hi9])), (tw, .inr (3, [.ref tsk, .ref tkd, .ref tmo, .ref tlv, .ref ttc, .ref tts, .ref ttl, .int (nI ttn), .int trg, .long thp, .int (nI tlw)])), (tkd, .inl (cI, 36, .inl tkf)), (ttl, .inl (cI, 4, .inl ttf))]) rfl rfl ?_
          refine E dX7_taken_74 (rfl) ?_
          exact ⟨(-11), rfl, rfl, by (unfold o_taken); (try simp only [hnj]); (repeat (first | rw [if_pos (by first | (rw [if_pos (by decide)]; assumption) | (rw [if_neg (by decide), if_pos (by decide)]; assumption) | (rw [if_neg (by decide), if_neg (by decide)]; assumption) | assumption | decide | omega | exact o_one_t (by assumption) | (rw [o_one_f (by assumption)]; decide) | exact ⟨by assumption, by assumption⟩ | exact fun h9 => absurd h9.1 (by assumption) | exact fun h9 => absurd h9.2 (by assumption))] | rw [if_neg (by first | (rw [if_pos (by decide)]; assumption) | (rw [if_neg (by decide), if_pos (by decide)]; assumption) | (rw [if_neg (by decide), if_neg (by decide)]; assumption) | assumption | decide | omega | exact o_one_t (by assumption) | (rw [o_one_f (by assumption)]; decide) | exact ⟨by assumption, by assumption⟩ | exact fun h9 => absurd h9.1 (by assumption) | exact fun h9 => absurd h9.2 (by assumption))])); all_goals (first | rfl)⟩
      ·
        have c10 : j < 36 := q_ge_f rfl (rfl : (36 : Int32) = nI 36) (by omega) (by omega) c10
        refine x_iload_n C dX7_taken_32 2 rfl ?_
        refine x_bipush C dX7_taken_33 (v := 6) rfl ?_
        refine x_icmp_eq C dX7_taken_35 (tgt := 58) rfl (fun c17 => ?_) (fun c17 => ?_)
        ·
          refine x_bipush C dX7_taken_58 (v := (-13)) rfl ?_
          refine E dX7_taken_60 (rfl) ?_
          exact ⟨(-13), rfl, rfl, by (unfold o_taken); (try simp only [hnj]); (repeat (first | rw [if_pos (by first | (rw [if_pos (by decide)]; assumption) | (rw [if_neg (by decide), if_pos (by decide)]; assumption) | (rw [if_neg (by decide), if_neg (by decide)]; assumption) | assumption | decide | omega | exact o_one_t (by assumption) | (rw [o_one_f (by assumption)]; decide) | exact ⟨by assumption, by assumption⟩ | exact fun h9 => absurd h9.1 (by assumption) | exact fun h9 => absurd h9.2 (by assumption))] | rw [if_neg (by first | (rw [if_pos (by decide)]; assumption) | (rw [if_neg (by decide), if_pos (by decide)]; assumption) | (rw [if_neg (by decide), if_neg (by decide)]; assumption) | assumption | decide | omega | exact o_one_t (by assumption) | (rw [o_one_f (by assumption)]; decide) | exact ⟨by assumption, by assumption⟩ | exact fun h9 => absurd h9.1 (by assumption) | exact fun h9 => absurd h9.2 (by assumption))])); all_goals (first | rfl)⟩
        ·
          refine x_aload_n C dX7_taken_38 0 rfl ?_
          refine x_get C inlX7 rfl 0 (by decide) gw_1_16 dX7_taken_39 0 rfl rfl ?_
          refine x_getN C inlX4 rfl 1 (by decide) nw_X7_130 dX7_taken_42 1 rfl rfl ?_
          refine x_iload_n C dX7_taken_45 1 rfl ?_
          refine x_iaload C 0 rfl dX7_taken_46 j (q_cl rfl (by omega)) (q_ix rfl (by omega) (by omega)) 2 rfl ?_
          refine x_iload_n C dX7_taken_47 2 rfl ?_
          refine x_callS C (As := [.int (tkf j), .int k]) (st := []) (wc := []) (wr := [(x, .inr (6, [.ref tw, .ref pw, .ref uw, .ref o, .ref hh, .ref rd, .ref bk, .ref pl, .ref asd, .ref fd, .int (nI wr), .int hi9])), (tw, .inr (3, [.ref tsk, .ref tkd, .ref tmo, .ref tlv, .ref ttc, .ref tts, .ref ttl, .int (nI ttn), .int trg, .long thp, .int (nI tlw)])), (tkd, .inl (cI, 36, .inl tkf)), (ttl, .inl (cI, 4, .inl ttf))]) (c_X2_isOne l dG cI cM cW cS (tkf j) k ) rZ0_ok (fun _ _ _ _ => trivial) kS_X7_289 hy_X2_isOne ⟨Nat.le_of_ble_eq_true rfl, Nat.le_of_ble_eq_true rfl⟩ ⟨Nat.le_of_ble_eq_true rfl, Nat.le_of_ble_eq_true rfl⟩ dX7_taken_48 [] [0, 1, 2, 3] rfl rfl rfl rfl (by decide) rfl (Nat.le_of_ble_eq_true rfl) ?_
          intro v18 w19 h20
          rcases h20 with h20 | h20
          ·
            obtain ⟨rfl, rfl, hf21⟩ := h20
            show X 0 0 [(x, .inr (6, [.ref tw, .ref pw, .ref uw, .ref o, .ref hh, .ref rd, .ref bk, .ref pl, .ref asd, .ref fd, .int (nI wr), .int hi9])), (tw, .inr (3, [.ref tsk, .ref tkd, .ref tmo, .ref tlv, .ref ttc, .ref tts, .ref ttl, .int (nI ttn), .int trg, .long thp, .int (nI tlw)])), (tkd, .inl (cI, 36, .inl tkf)), (ttl, .inl (cI, 4, .inl ttf))] [(0, .ref x), (1, .int (nI j)), (2, .int k)] 51 [.int 1]
            refine x_if_eq C dX7_taken_51 (tgt := 58) rfl (fun q9 => absurd q9 (by decide)) (fun _ => ?_)
            refine x_iload_n C dX7_taken_54 1 rfl ?_
            refine x_goto C dX7_taken_55 (tgt := 60) rfl ?_
            refine E dX7_taken_60 (rfl) ?_
            exact ⟨(nI j), rfl, rfl, by (unfold o_taken); (try simp only [hnj]); (repeat (first | rw [if_pos (by first | (rw [if_pos (by decide)]; assumption) | (rw [if_neg (by decide), if_pos (by decide)]; assumption) | (rw [if_neg (by decide), if_neg (by decide)]; assumption) | assumption | decide | omega | exact o_one_t (by assumption) | (rw [o_one_f (by assumption)]; decide) | exact ⟨by assumption, by assumption⟩ | exact fun h9 => absurd h9.1 (by assumption) | exact fun h9 => absurd h9.2 (by assumption))] | rw [if_neg (by first | (rw [if_pos (by decide)]; assumption) | (rw [if_neg (by decide), if_pos (by decide)]; assumption) | (rw [if_neg (by decide), if_neg (by decide)]; assumption) | assumption | decide | omega | exact o_one_t (by assumption) | (rw [o_one_f (by assumption)]; decide) | exact ⟨by assumption, by assumption⟩ | exact fun h9 => absurd h9.1 (by assumption) | exact fun h9 => absurd h9.2 (by assumption))])); all_goals (first | rfl)⟩
          ·
            obtain ⟨rfl, rfl, hf22⟩ := h20
            show X 0 0 [(x, .inr (6, [.ref tw, .ref pw, .ref uw, .ref o, .ref hh, .ref rd, .ref bk, .ref pl, .ref asd, .ref fd, .int (nI wr), .int hi9])), (tw, .inr (3, [.ref tsk, .ref tkd, .ref tmo, .ref tlv, .ref ttc, .ref tts, .ref ttl, .int (nI ttn), .int trg, .long thp, .int (nI tlw)])), (tkd, .inl (cI, 36, .inl tkf)), (ttl, .inl (cI, 4, .inl ttf))] [(0, .ref x), (1, .int (nI j)), (2, .int k)] 51 [.int 0]
            refine x_if_eq C dX7_taken_51 (tgt := 58) rfl (fun _ => ?_) (fun q9 => by first | exact absurd q9 (by decide) | exact absurd (by decide) q9)
            refine x_bipush C dX7_taken_58 (v := (-13)) rfl ?_
            refine E dX7_taken_60 (rfl) ?_
            exact ⟨(-13), rfl, rfl, by (unfold o_taken); (try simp only [hnj]); (repeat (first | rw [if_pos (by first | (rw [if_pos (by decide)]; assumption) | (rw [if_neg (by decide), if_pos (by decide)]; assumption) | (rw [if_neg (by decide), if_neg (by decide)]; assumption) | assumption | decide | omega | exact o_one_t (by assumption) | (rw [o_one_f (by assumption)]; decide) | exact ⟨by assumption, by assumption⟩ | exact fun h9 => absurd h9.1 (by assumption) | exact fun h9 => absurd h9.2 (by assumption))] | rw [if_neg (by first | (rw [if_pos (by decide)]; assumption) | (rw [if_neg (by decide), if_pos (by decide)]; assumption) | (rw [if_neg (by decide), if_neg (by decide)]; assumption) | assumption | decide | omega | exact o_one_t (by assumption) | (rw [o_one_f (by assumption)]; decide) | exact ⟨by assumption, by assumption⟩ | exact fun h9 => absurd h9.1 (by assumption) | exact fun h9 => absurd h9.2 (by assumption))])); all_goals (first | rfl)⟩
    ·
      obtain ⟨rfl, rfl, hf23⟩ := h7
      show X 0 0 [(x, .inr (6, [.ref tw, .ref pw, .ref uw, .ref o, .ref hh, .ref rd, .ref bk, .ref pl, .ref asd, .ref fd, .int (nI wr), .int hi9])), (tw, .inr (3, [.ref tsk, .ref tkd, .ref tmo, .ref tlv, .ref ttc, .ref tts, .ref ttl, .int (nI ttn), .int trg, .long thp, .int (nI tlw)])), (tkd, .inl (cI, 36, .inl tkf)), (ttl, .inl (cI, 4, .inl ttf))] [(0, .ref x), (1, .int i), (2, .int k)] 20 [.int 0]
      refine x_if_ne C dX7_taken_20 (tgt := 26) rfl (fun q9 => absurd q9 (by decide)) (fun _ => ?_)
      refine x_bipush C dX7_taken_23 (v := (-12)) rfl ?_
      refine E dX7_taken_25 (rfl) ?_
      exact ⟨(-12), rfl, rfl, by (unfold o_taken); (repeat (first | rw [if_pos (by first | (rw [if_pos (by decide)]; assumption) | (rw [if_neg (by decide), if_pos (by decide)]; assumption) | (rw [if_neg (by decide), if_neg (by decide)]; assumption) | assumption | decide | omega | exact o_one_t (by assumption) | (rw [o_one_f (by assumption)]; decide) | exact ⟨by assumption, by assumption⟩ | exact fun h9 => absurd h9.1 (by assumption) | exact fun h9 => absurd h9.2 (by assumption))] | rw [if_neg (by first | (rw [if_pos (by decide)]; assumption) | (rw [if_neg (by decide), if_pos (by decide)]; assumption) | (rw [if_neg (by decide), if_neg (by decide)]; assumption) | assumption | decide | omega | exact o_one_t (by assumption) | (rw [o_one_f (by assumption)]; decide) | exact ⟨by assumption, by assumption⟩ | exact fun h9 => absurd h9.1 (by assumption) | exact fun h9 => absurd h9.2 (by assumption))])); all_goals (first | rfl)⟩
  ·
    obtain ⟨rfl, rfl, hf24⟩ := h3
    show X 0 0 [(x, .inr (6, [.ref tw, .ref pw, .ref uw, .ref o, .ref hh, .ref rd, .ref bk, .ref pl, .ref asd, .ref fd, .int (nI wr), .int hi9])), (tw, .inr (3, [.ref tsk, .ref tkd, .ref tmo, .ref tlv, .ref ttc, .ref tts, .ref ttl, .int (nI ttn), .int trg, .long thp, .int (nI tlw)])), (tkd, .inl (cI, 36, .inl tkf)), (ttl, .inl (cI, 4, .inl ttf))] [(0, .ref x), (1, .int i), (2, .int k)] 7 [.int 0]
    refine x_if_ne C dX7_taken_7 (tgt := 13) rfl (fun q9 => absurd q9 (by decide)) (fun _ => ?_)
    refine x_bipush C dX7_taken_10 (v := (-2)) rfl ?_
    refine E dX7_taken_12 (rfl) ?_
    exact ⟨(-2), rfl, rfl, by (unfold o_taken); (repeat (first | rw [if_pos (by first | (rw [if_pos (by decide)]; assumption) | (rw [if_neg (by decide), if_pos (by decide)]; assumption) | (rw [if_neg (by decide), if_neg (by decide)]; assumption) | assumption | decide | omega | exact o_one_t (by assumption) | (rw [o_one_f (by assumption)]; decide) | exact ⟨by assumption, by assumption⟩ | exact fun h9 => absurd h9.1 (by assumption) | exact fun h9 => absurd h9.2 (by assumption))] | rw [if_neg (by first | (rw [if_pos (by decide)]; assumption) | (rw [if_neg (by decide), if_pos (by decide)]; assumption) | (rw [if_neg (by decide), if_neg (by decide)]; assumption) | assumption | decide | omega | exact o_one_t (by assumption) | (rw [o_one_f (by assumption)]; decide) | exact ⟨by assumption, by assumption⟩ | exact fun h9 => absurd h9.1 (by assumption) | exact fun h9 => absurd h9.2 (by assumption))])); all_goals (first | rfl)⟩
