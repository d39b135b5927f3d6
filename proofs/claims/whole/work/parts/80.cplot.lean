set_option maxHeartbeats 4000000 in
set_option maxRecDepth 100000 in
theorem c_X7_plot (l : Launch) (dG : va_G) (cI cM cW cS : ClassId) (x pw uw o hh rd bk pl asd fd : Nat) (wr : Nat) (hi9 : Int32) (tw tsk tkd tmo tlv ttc tts ttl ts0 ts1 ts2 ts3 : Nat) (ttn tlw : Nat) (trg : Int32) (thp : Int64) (tR0 tR1 tR2 tR3 tkf tmf tlf tcf tsf ttf : Nat → Int32) (c sh k9 m9 : Int32) : rM l yX7_plot cX7_plot 12 (some .int) ({ frames := 2, cells := 0, slots := 0, locals := 43 } : Room) dG (tY cI cM cW cS) rZ0 [.ref x, .int c, .int sh, .int k9, .int m9] [(x, .inr (6, [.ref tw, .ref pw, .ref uw, .ref o, .ref hh, .ref rd, .ref bk, .ref pl, .ref asd, .ref fd, .int (nI wr), .int hi9])), (tw, .inr (3, [.ref tsk, .ref tkd, .ref tmo, .ref tlv, .ref ttc, .ref tts, .ref ttl, .int (nI ttn), .int trg, .long thp, .int (nI tlw)])), (tkd, .inl (cI, 36, .inl tkf)), (tmo, .inl (cI, 36, .inl tmf))] (fun ov oz => ∃ (r : Int32) (k' : Nat → Int32) (m' : Nat → Int32), ov = some (.int r) ∧ oz = [(x, .inr (6, [.ref tw, .ref pw, .ref uw, .ref o, .ref hh, .ref rd, .ref bk, .ref pl, .ref asd, .ref fd, .int (nI wr), .int hi9])), (tw, .inr (3, [.ref tsk, .ref tkd, .ref tmo, .ref tlv, .ref ttc, .ref tts, .ref ttl, .int (nI ttn), .int trg, .long thp, .int (nI tlw)])), (tkd, .inl (cI, 36, .inl k')), (tmo, .inl (cI, 36, .inl m'))] ∧ (r, k', m') = (o_plot c sh k9 m9, o_plot_f tkf c sh k9 m9 k9, o_plot_f tmf c sh k9 m9 m9)) := by
  refine rM_ofI rfl (Nat.le_of_ble_eq_true rfl) rfl (fun X C E => ?_)
  show X 0 0 [(x, .inr (6, [.ref tw, .ref pw, .ref uw, .ref o, .ref hh, .ref rd, .ref bk, .ref pl, .ref asd, .ref fd, .int (nI wr), .int hi9])), (tw, .inr (3, [.ref tsk, .ref tkd, .ref tmo, .ref tlv, .ref ttc, .ref tts, .ref ttl, .int (nI ttn), .int trg, .long thp, .int (nI tlw)])), (tkd, .inl (cI, 36, .inl tkf)), (tmo, .inl (cI, 36, .inl tmf))] [(0, .ref x), (1, .int c), (2, .int sh), (3, .int k9), (4, .int m9)] 0 []
  refine x_iload_n C dX7_plot_0 2 rfl ?_
  refine x_bipush C dX7_plot_1 (v := 10) rfl ?_
  refine x_idiv C dX7_plot_3 (by decide) ?_
  refine x_istore C dX7_plot_4 (by decide) (lv' := [(5, .int (sh / 10)), (0, .ref x), (1, .int c), (2, .int sh), (3, .int k9), (4, .int m9)]) rfl ?_
  refine x_iload_n C dX7_plot_6 3 rfl ?_
  refine x_bipush C dX7_plot_7 (v := 10) rfl ?_
  refine x_irem C dX7_plot_9 (by decide) ?_
  refine x_istore C dX7_plot_10 (by decide) (lv' := [(6, .int (sh - sh / 10 * 10)), (5, .int (sh / 10)), (0, .ref x), (1, .int c), (2, .int sh), (3, .int k9), (4, .int m9)]) rfl ?_
  refine x_iload_n C dX7_plot_12 3 rfl ?_
  refine x_callS C (As := [.int c]) (st := []) (wc := []) (wr := [(x, .inr (6, [.ref tw, .ref pw, .ref uw, .ref o, .ref hh, .ref rd, .ref bk, .ref pl, .ref asd, .ref fd, .int (nI wr), .int hi9])), (tw, .inr (3, [.ref tsk, .ref tkd, .ref tmo, .ref tlv, .ref ttc, .ref tts, .ref ttl, .int (nI ttn), .int trg, .long thp, .int (nI tlw)])), (tkd, .inl (cI, 36, .inl tkf)), (tmo, .inl (cI, 36, .inl tmf))]) (c_X7_isCell l dG cI cM cW cS c ) rZ0_ok (fun _ _ _ _ => trivial) kS_X7_123 hy_X7_isCell ⟨Nat.le_of_ble_eq_true rfl, Nat.le_of_ble_eq_true rfl⟩ ⟨Nat.le_of_ble_eq_true rfl, Nat.le_of_ble_eq_true rfl⟩ dX7_plot_13 [] [0, 1, 2, 3] rfl rfl rfl rfl (by decide) rfl (Nat.le_of_ble_eq_true rfl) ?_
  intro v1 w2 h3
  rcases h3 with h3 | h3
  ·
    obtain ⟨rfl, rfl, hf4⟩ := h3
    show X 0 0 [(x, .inr (6, [.ref tw, .ref pw, .ref uw, .ref o, .ref hh, .ref rd, .ref bk, .ref pl, .ref asd, .ref fd, .int (nI wr), .int hi9])), (tw, .inr (3, [.ref tsk, .ref tkd, .ref tmo, .ref tlv, .ref ttc, .ref tts, .ref ttl, .int (nI ttn), .int trg, .long thp, .int (nI tlw)])), (tkd, .inl (cI, 36, .inl tkf)), (tmo, .inl (cI, 36, .inl tmf))] [(6, .int (sh - sh / 10 * 10)), (5, .int (sh / 10)), (0, .ref x), (1, .int c), (2, .int sh), (3, .int k9), (4, .int m9)] 16 [.int 1]
    have hr5 := hf4
    obtain ⟨cc, hcc, rfl⟩ := q_w (n := 35) rfl (by decide) hf4
    have hncc : o_n (nI cc) = cc := o_n_nI (by omega)
    refine x_if_eq C dX7_plot_16 (tgt := 41) rfl (fun q9 => absurd q9 (by decide)) (fun _ => ?_)
    refine x_iload C dX7_plot_19 1 rfl ?_
    refine x_iconst C dX7_plot_21 (v := 1) rfl ?_
    refine x_bipush C dX7_plot_22 (v := 6) rfl ?_
    refine x_callS C (As := [.int (sh / 10), .int 1, .int 6]) (st := []) (wc := []) (wr := [(x, .inr (6, [.ref tw, .ref pw, .ref uw, .ref o, .ref hh, .ref rd, .ref bk, .ref pl, .ref asd, .ref fd, .int (nI wr), .int hi9])), (tw, .inr (3, [.ref tsk, .ref tkd, .ref tmo, .ref tlv, .ref ttc, .ref tts, .ref ttl, .int (nI ttn), .int trg, .long thp, .int (nI tlw)])), (tkd, .inl (cI, 36, .inl tkf)), (tmo, .inl (cI, 36, .inl tmf))]) (c_X7_within l dG cI cM cW cS (sh / 10) 1 6 ) rZ0_ok (fun _ _ _ _ => trivial) kS_X7_92 hy_X7_within ⟨Nat.le_of_ble_eq_true rfl, Nat.le_of_ble_eq_true rfl⟩ ⟨Nat.le_of_ble_eq_true rfl, Nat.le_of_ble_eq_true rfl⟩ dX7_plot_24 [] [0, 1, 2, 3] rfl rfl rfl rfl (by decide) rfl (Nat.le_of_ble_eq_true rfl) ?_
    intro v6 w7 h8
    rcases h8 with h8 | h8
    ·
      obtain ⟨rfl, rfl, hf9⟩ := h8
      show X 0 0 [(x, .inr (6, [.ref tw, .ref pw, .ref uw, .ref o, .ref hh, .ref rd, .ref bk, .ref pl, .ref asd, .ref fd, .int (nI wr), .int hi9])), (tw, .inr (3, [.ref tsk, .ref tkd, .ref tmo, .ref tlv, .ref ttc, .ref tts, .ref ttl, .int (nI ttn), .int trg, .long thp, .int (nI tlw)])), (tkd, .inl (cI, 36, .inl tkf)), (tmo, .inl (cI, 36, .inl tmf))] [(6, .int (sh - sh / 10 * 10)), (5, .int (sh / 10)), (0, .ref x), (1, .int (nI cc)), (2, .int sh), (3, .int k9), (4, .int m9)] 27 [.int 1]
      have hs1 := hf9
      refine x_if_eq C dX7_plot_27 (tgt := 41) rfl (fun q9 => absurd q9 (by decide)) (fun _ => ?_)
      refine x_iload C dX7_plot_30 0 rfl ?_
      refine x_iconst C dX7_plot_32 (v := 1) rfl ?_
      refine x_bipush C dX7_plot_33 (v := 6) rfl ?_
      refine x_callS C (As := [.int (sh - sh / 10 * 10), .int 1, .int 6]) (st := []) (wc := []) (wr := [(x, .inr (6, [.ref tw, .ref pw, .ref uw, .ref o, .ref hh, .ref rd, .ref bk, .ref pl, .ref asd, .ref fd, .int (nI wr), .int hi9])), (tw, .inr (3, [.ref tsk, .ref tkd, .ref tmo, .ref tlv, .ref ttc, .ref tts, .ref ttl, .int (nI ttn), .int trg, .long thp, .int (nI tlw)])), (tkd, .inl (cI, 36, .inl tkf)), (tmo, .inl (cI, 36, .inl tmf))]) (c_X7_within l dG cI cM cW cS (sh - sh / 10 * 10) 1 6 ) rZ0_ok (fun _ _ _ _ => trivial) kS_X7_92 hy_X7_within ⟨Nat.le_of_ble_eq_true rfl, Nat.le_of_ble_eq_true rfl⟩ ⟨Nat.le_of_ble_eq_true rfl, Nat.le_of_ble_eq_true rfl⟩ dX7_plot_35 [] [0, 1, 2, 3] rfl rfl rfl rfl (by decide) rfl (Nat.le_of_ble_eq_true rfl) ?_
      intro v10 w11 h12
      rcases h12 with h12 | h12
      ·
        obtain ⟨rfl, rfl, hf13⟩ := h12
        show X 0 0 [(x, .inr (6, [.ref tw, .ref pw, .ref uw, .ref o, .ref hh, .ref rd, .ref bk, .ref pl, .ref asd, .ref fd, .int (nI wr), .int hi9])), (tw, .inr (3, [.ref tsk, .ref tkd, .ref tmo, .ref tlv, .ref ttc, .ref tts, .ref ttl, .int (nI ttn), .int trg, .long thp, .int (nI tlw)])), (tkd, .inl (cI, 36, .inl tkf)), (tmo, .inl (cI, 36, .inl tmf))] [(6, .int (sh - sh / 10 * 10)), (5, .int (sh / 10)), (0, .ref x), (1, .int (nI cc)), (2, .int sh), (3, .int k9), (4, .int m9)] 38 [.int 1]
        have hs2 := hf13
        obtain ⟨ra9, hra1, hra6, era⟩ := q_w16 hs1
        obtain ⟨rb9, hrb1, hrb6, erb⟩ := q_w16 hs2
        rw [erb, era]
        refine x_if_ne C dX7_plot_38 (tgt := 44) rfl (fun _ => ?_) (fun q9 => by first | exact absurd q9 (by decide) | exact absurd (by decide) q9)
        refine x_iload_n C dX7_plot_44 5 rfl ?_
        refine x_iload C dX7_plot_45 6 rfl ?_
        refine x_callS C (As := [.int k9, .int m9]) (st := []) (wc := []) (wr := [(x, .inr (6, [.ref tw, .ref pw, .ref uw, .ref o, .ref hh, .ref rd, .ref bk, .ref pl, .ref asd, .ref fd, .int (nI wr), .int hi9])), (tw, .inr (3, [.ref tsk, .ref tkd, .ref tmo, .ref tlv, .ref ttc, .ref tts, .ref ttl, .int (nI ttn), .int trg, .long thp, .int (nI tlw)])), (tkd, .inl (cI, 36, .inl tkf)), (tmo, .inl (cI, 36, .inl tmf))]) (c_X7_isKind l dG cI cM cW cS k9 m9 ) rZ0_ok (fun _ _ _ _ => trivial) kS_X7_126 hy_X7_isKind ⟨Nat.le_of_ble_eq_true rfl, Nat.le_of_ble_eq_true rfl⟩ ⟨Nat.le_of_ble_eq_true rfl, Nat.le_of_ble_eq_true rfl⟩ dX7_plot_47 [] [0, 1, 2, 3] rfl rfl rfl rfl (by decide) rfl (Nat.le_of_ble_eq_true rfl) ?_
        intro v14 w15 h16
        rcases h16 with h16 | h16
        ·
          obtain ⟨rfl, rfl, hf17⟩ := h16
          show X 0 0 [(x, .inr (6, [.ref tw, .ref pw, .ref uw, .ref o, .ref hh, .ref rd, .ref bk, .ref pl, .ref asd, .ref fd, .int (nI wr), .int hi9])), (tw, .inr (3, [.ref tsk, .ref tkd, .ref tmo, .ref tlv, .ref ttc, .ref tts, .ref ttl, .int (nI ttn), .int trg, .long thp, .int (nI tlw)])), (tkd, .inl (cI, 36, .inl tkf)), (tmo, .inl (cI, 36, .inl tmf))] [(6, .int (nI rb9)), (5, .int (nI ra9)), (0, .ref x), (1, .int (nI cc)), (2, .int sh), (3, .int k9), (4, .int m9)] 50 [.int 1]
          refine x_if_ne C dX7_plot_50 (tgt := 56) rfl (fun _ => ?_) (fun q9 => by first | exact absurd q9 (by decide) | exact absurd (by decide) q9)
          refine x_bipush C dX7_plot_56 (v := 6) rfl ?_
          refine x_iload_n C dX7_plot_58 3 rfl ?_
          refine x_bipush C dX7_plot_59 (v := 6) rfl ?_
          refine x_idiv C dX7_plot_61 (by decide) ?_
          refine x_iload C dX7_plot_62 1 rfl ?_
          refine x_iadd C dX7_plot_64 ?_
          refine x_topi C (nI ((cc / 6) + ra9)) (q_iadd (a := cc / 6) (b := ra9) (q_idiv (a := cc) (b := 6) rfl (rfl : (6 : Int32) = nI 6) (by omega) (by decide) (by decide)) rfl) ?_
          refine x_mmin C gw_19_18 gw_17_16 gw_17_17 gw_17_18 (Nat.le_of_ble_eq_true rfl) (Nat.le_of_ble_eq_true rfl) (Nat.le_of_ble_eq_true rfl) (Nat.le_of_ble_eq_true rfl) dX7_plot_65 ?_
          obtain ⟨ty, hty⟩ : ∃ z, z = min 6 (cc / 6 + ra9) := ⟨_, rfl⟩
          refine x_topi C (nI ty) (by rw [hty]; exact q_min6 (by omega)) ?_
          refine x_istore C dX7_plot_68 (by decide) (lv' := [(7, .int (nI ty)), (6, .int (nI rb9)), (5, .int (nI ra9)), (0, .ref x), (1, .int (nI cc)), (2, .int sh), (3, .int k9), (4, .int m9)]) rfl ?_
          refine x_bipush C dX7_plot_70 (v := 6) rfl ?_
          show X _ _ _ _ 72 _
          refine x_iload_n C dX7_plot_72 4 rfl ?_
          refine x_bipush C dX7_plot_73 (v := 6) rfl ?_
          refine x_irem C dX7_plot_75 (by decide) ?_
          refine x_iload C dX7_plot_76 1 rfl ?_
          refine x_iadd C dX7_plot_78 ?_
          refine x_topi C (nI ((cc % 6) + rb9)) (q_iadd (a := cc % 6) (b := rb9) (q_irem (a := cc) (b := 6) rfl (rfl : (6 : Int32) = nI 6) (by omega) (by decide) (by decide)) rfl) ?_
          refine x_mmin C gw_19_18 gw_17_16 gw_17_17 gw_17_18 (Nat.le_of_ble_eq_true rfl) (Nat.le_of_ble_eq_true rfl) (Nat.le_of_ble_eq_true rfl) (Nat.le_of_ble_eq_true rfl) dX7_plot_79 ?_
          obtain ⟨tx, htx⟩ : ∃ z, z = min 6 (cc % 6 + rb9) := ⟨_, rfl⟩
          refine x_topi C (nI tx) (by rw [htx]; exact q_min6 (by omega)) ?_
          refine x_istore C dX7_plot_82 (by decide) (lv' := [(8, .int (nI tx)), (7, .int (nI ty)), (6, .int (nI rb9)), (5, .int (nI ra9)), (0, .ref x), (1, .int (nI cc)), (2, .int sh), (3, .int k9), (4, .int m9)]) rfl ?_
          refine x_iconst C dX7_plot_84 (v := 0) rfl ?_
          refine x_istore C dX7_plot_85 (by decide) (lv' := [(9, .int 0), (8, .int (nI tx)), (7, .int (nI ty)), (6, .int (nI rb9)), (5, .int (nI ra9)), (0, .ref x), (1, .int (nI cc)), (2, .int sh), (3, .int k9), (4, .int m9)]) rfl ?_
          refine x_iload_n C dX7_plot_87 6 rfl ?_
          show X _ _ _ _ 88 _
          refine x_bipush C dX7_plot_88 (v := 6) rfl ?_
          refine x_idiv C dX7_plot_90 (by decide) ?_
          refine x_topi C (nI (cc / 6)) (q_idiv (a := cc) (b := 6) rfl (rfl : (6 : Int32) = nI 6) (by omega) (by decide) (by decide)) ?_
          refine x_istore C dX7_plot_91 (by decide) (lv' := [(10, .int (nI (cc / 6))), (9, .int 0), (8, .int (nI tx)), (7, .int (nI ty)), (6, .int (nI rb9)), (5, .int (nI ra9)), (0, .ref x), (1, .int (nI cc)), (2, .int sh), (3, .int k9), (4, .int m9)]) rfl ?_
          have L93_17 : ∀ (fuel : Nat) (y l9 : Nat) (g1 g2 : Nat → Int32), (hy1 : cc / 6 ≤ y) → (hy2 : y ≤ ty) → (hl9 : l9 = (y - cc / 6) * (tx - cc % 6)) → (hg1 : g1 = o_pl tkf k9 (cc / 6) y (cc % 6) tx) → (hg2 : g2 = o_pl tmf m9 (cc / 6) y (cc % 6) tx) → ty - y < fuel → X 0 0 [(x, .inr (6, [.ref tw, .ref pw, .ref uw, .ref o, .ref hh, .ref rd, .ref bk, .ref pl, .ref asd, .ref fd, .int (nI wr), .int hi9])), (tw, .inr (3, [.ref tsk, .ref tkd, .ref tmo, .ref tlv, .ref ttc, .ref tts, .ref ttl, .int (nI ttn), .int trg, .long thp, .int (nI tlw)])), (tkd, .inl (cI, 36, .inl g1)), (tmo, .inl (cI, 36, .inl g2))] [(10, .int (nI y)), (9, .int (nI l9)), (8, .int (nI tx)), (7, .int (nI ty)), (4, .int m9), (3, .int k9), (1, .int (nI cc)), (0, .ref x)] 93 [] := by
            intro fuel
            induction fuel with
            | zero => intros; omega
            | succ fuel ihL93_17 =>
              intro y l9 g1 g2 hy1 hy2 hl9 hg1 hg2 hfu
              refine x_iload C dX7_plot_93 0 rfl ?_
              refine x_iload C dX7_plot_95 3 rfl ?_
              refine x_icmp_ge C dX7_plot_97 (tgt := 146) rfl (fun c19 => ?_) (fun c19 => ?_)
              ·
                have c19 : y ≥ ty := q_ge_t rfl rfl (by omega) (by omega) c19
                refine x_iload C dX7_plot_146 1 rfl ?_
                refine E dX7_plot_148 (rfl) ?_
                exact ⟨(nI l9), g1, g2, rfl, rfl, by rw [hg1, hg2, show y = ty by omega]; exact o_plot_l (by omega) hs1 hs2 (by assumption) era erb hra6 hrb6 hty htx (by rw [hl9, show y = ty by omega])⟩
              ·
                have c19 : y < ty := q_ge_f rfl rfl (by omega) (by omega) c19
                refine x_iload_n C dX7_plot_100 6 rfl ?_
                refine x_bipush C dX7_plot_101 (v := 6) rfl ?_
                refine x_irem C dX7_plot_103 (by decide) ?_
                refine x_topi C (nI (cc % 6)) (q_irem (a := cc) (b := 6) rfl (rfl : (6 : Int32) = nI 6) (by omega) (by decide) (by decide)) ?_
                refine x_istore C dX7_plot_104 (by decide) (lv' := [(11, .int (nI (cc % 6))), (10, .int (nI y)), (9, .int (nI l9)), (8, .int (nI tx)), (7, .int (nI ty)), (4, .int m9), (3, .int k9), (1, .int (nI cc)), (0, .ref x)]) rfl ?_
                have L106_19 : ∀ (fuel : Nat) (x9 l9 : Nat) (g1 g2 : Nat → Int32), (hx1 : cc % 6 ≤ x9) → (hx2 : x9 ≤ tx) → (hl9 : l9 = (y - cc / 6) * (tx - cc % 6) + (x9 - cc % 6)) → (hg1 : g1 = o_pi tkf k9 (cc / 6) y (cc % 6) tx x9) → (hg2 : g2 = o_pi tmf m9 (cc / 6) y (cc % 6) tx x9) → tx - x9 < fuel → X 0 0 [(x, .inr (6, [.ref tw, .ref pw, .ref uw, .ref o, .ref hh, .ref rd, .ref bk, .ref pl, .ref asd, .ref fd, .int (nI wr), .int hi9])), (tw, .inr (3, [.ref tsk, .ref tkd, .ref tmo, .ref tlv, .ref ttc, .ref tts, .ref ttl, .int (nI ttn), .int trg, .long thp, .int (nI tlw)])), (tkd, .inl (cI, 36, .inl g1)), (tmo, .inl (cI, 36, .inl g2))] [(11, .int (nI x9)), (10, .int (nI y)), (9, .int (nI l9)), (8, .int (nI tx)), (7, .int (nI ty)), (4, .int m9), (3, .int k9), (1, .int (nI cc)), (0, .ref x)] 106 [] := by
                  intro fuel
                  induction fuel with
                  | zero => intros; omega
                  | succ fuel ihL106_19 =>
                    intro x9 l9 g1 g2 hx1 hx2 hl9 hg1 hg2 hfu
                    refine x_iload C dX7_plot_106 0 rfl ?_
                    refine x_iload C dX7_plot_108 3 rfl ?_
                    refine x_icmp_ge C dX7_plot_110 (tgt := 140) rfl (fun c21 => ?_) (fun c21 => ?_)
                    ·
                      have c21 : x9 ≥ tx := q_ge_t rfl rfl (by omega) (by omega) c21
                      refine x_iinc C dX7_plot_140 1 rfl (v := nI (y + 1)) (nI_1 _) (by decide) (lv' := [(10, .int (nI (y + 1))), (11, .int (nI x9)), (9, .int (nI l9)), (8, .int (nI tx)), (7, .int (nI ty)), (4, .int m9), (3, .int k9), (1, .int (nI cc)), (0, .ref x)]) rfl ?_
                      refine x_goto C dX7_plot_143 (tgt := 93) rfl ?_
                      refine x_lv C [0, 2, 3, 4, 5, 6, 7, 8] (lv' := [(10, .int (nI (y + 1))), (9, .int (nI l9)), (8, .int (nI tx)), (7, .int (nI ty)), (4, .int m9), (3, .int k9), (1, .int (nI cc)), (0, .ref x)]) rfl ?_
                      exact ihL93_17 (y + 1) l9 g1 g2 (by omega) (by omega) (q_cnt hy1 (by rw [hl9]; congr 1; omega)) (by rw [hg1]; exact o_pi_e hy1 (by omega)) (by rw [hg2]; exact o_pi_e hy1 (by omega)) (by omega)
                    ·
                      have c21 : x9 < tx := q_ge_f rfl rfl (by omega) (by omega) c21
                      refine x_aload_n C dX7_plot_113 8 rfl ?_
                      refine x_get C inlX7 rfl 0 (by decide) gw_1_16 dX7_plot_114 0 rfl rfl ?_
                      refine x_bipush C dX7_plot_117 (v := 6) rfl ?_
                      refine x_iload C dX7_plot_119 1 rfl ?_
                      refine x_imul C dX7_plot_121 ?_
                      refine x_iload C dX7_plot_122 0 rfl ?_
                      refine x_iadd C dX7_plot_124 ?_
                      refine x_iload_n C dX7_plot_125 6 rfl ?_
                      refine x_iload C dX7_plot_126 5 rfl ?_
                      rw [show ((6 * (nI y)) + (nI x9) : Int32) = nI ((6 * y) + x9) from q_iadd (a := 6 * y) (b := x9) (q_imul (a := 6) (b := y) (rfl : (6 : Int32) = nI 6) rfl) rfl]
                      refine x_callV C (As := [.int (nI ((6 * y) + x9)), .int k9, .int m9]) (st := []) (wc := [(tw, .inr (3, [.ref tsk, .ref tkd, .ref tmo, .ref tlv, .ref ttc, .ref tts, .ref ttl, .int (nI ttn), .int trg, .long thp, .int (nI tlw)])), (tkd, .inl (cI, 36, .inl g1)), (tmo, .inl (cI, 36, .inl g2))]) (wr := [(x, .inr (6, [.ref tw, .ref pw, .ref uw, .ref o, .ref hh, .ref rd, .ref bk, .ref pl, .ref asd, .ref fd, .int (nI wr), .int hi9]))]) (c_X4_layOut l dG cI cM cW cS tw tsk tkd tmo tlv ttc tts ttl 0 0 0 0 ttn tlw trg thp g1 g2 ((6 * y) + x9) k9 m9 (by first | assumption | omega | decide)) rZ0_ok (fun _ _ _ _ => trivial) kV_X7_133 ⟨rfl, hy_X4_layOut⟩ ⟨Nat.le_of_ble_eq_true rfl, Nat.le_of_ble_eq_true rfl⟩ ⟨Nat.le_of_ble_eq_true rfl, Nat.le_of_ble_eq_true rfl⟩ dX7_plot_128 1 rfl rfl [1, 2, 3] [0] rfl rfl rfl rfl (by decide) rfl (Nat.le_of_ble_eq_true rfl) ?_
                      intro v22 w23 h24
                      obtain ⟨rfl, rfl, hf25⟩ := h24
                      show X 0 0 [(x, .inr (6, [.ref tw, .ref pw, .ref uw, .ref o, .ref hh, .ref rd, .ref bk, .ref pl, .ref asd, .ref fd, .int (nI wr), .int hi9])), (tw, .inr (3, [.ref tsk, .ref tkd, .ref tmo, .ref tlv, .ref ttc, .ref tts, .ref ttl, .int (nI ttn), .int trg, .long thp, .int (nI tlw)])), (tkd, .inl (cI, 36, .inl (upd g1 ((6 * y) + x9) k9))), (tmo, .inl (cI, 36, .inl (upd g2 ((6 * y) + x9) m9)))] [(11, .int (nI x9)), (10, .int (nI y)), (9, .int (nI l9)), (8, .int (nI tx)), (7, .int (nI ty)), (4, .int m9), (3, .int k9), (1, .int (nI cc)), (0, .ref x)] 131 []
                      show X _ _ _ _ 131 _
                      refine x_iinc C dX7_plot_131 2 rfl (v := nI (l9 + 1)) (nI_1 _) (by decide) (lv' := [(9, .int (nI (l9 + 1))), (11, .int (nI x9)), (10, .int (nI y)), (8, .int (nI tx)), (7, .int (nI ty)), (4, .int m9), (3, .int k9), (1, .int (nI cc)), (0, .ref x)]) rfl ?_
                      refine x_iinc C dX7_plot_134 1 rfl (v := nI (x9 + 1)) (nI_1 _) (by decide) (lv' := [(11, .int (nI (x9 + 1))), (9, .int (nI (l9 + 1))), (10, .int (nI y)), (8, .int (nI tx)), (7, .int (nI ty)), (4, .int m9), (3, .int k9), (1, .int (nI cc)), (0, .ref x)]) rfl ?_
                      refine x_goto C dX7_plot_137 (tgt := 106) rfl ?_
                      refine x_lv C [0, 2, 1, 3, 4, 5, 6, 7, 8] (lv' := [(11, .int (nI (x9 + 1))), (10, .int (nI y)), (9, .int (nI (l9 + 1))), (8, .int (nI tx)), (7, .int (nI ty)), (4, .int m9), (3, .int k9), (1, .int (nI cc)), (0, .ref x)]) rfl ?_
                      exact ihL106_19 (x9 + 1) (l9 + 1) (upd g1 ((6 * y) + x9) k9) (upd g2 ((6 * y) + x9) m9) (by omega) (by omega) (by rw [hl9]; omega) (by rw [hg1]; exact o_pi_s hx1 (by omega)) (by rw [hg2]; exact o_pi_s hx1 (by omega)) (by omega)
                exact L106_19 ((tx - (cc % 6)) + 1) (cc % 6) l9 g1 g2 (Nat.le_refl _) (by omega) (by rw [hl9, Nat.sub_self, Nat.add_zero]) (by rw [hg1]; exact o_pi_0) (by rw [hg2]; exact o_pi_0) (Nat.lt_succ_self _)
          refine x_lv C [0, 1, 2, 3, 10, 9, 7, 6] (lv' := [(10, .int (nI (cc / 6))), (9, .int 0), (8, .int (nI tx)), (7, .int (nI ty)), (4, .int m9), (3, .int k9), (1, .int (nI cc)), (0, .ref x)]) rfl ?_
          show X 0 0 [(x, .inr (6, [.ref tw, .ref pw, .ref uw, .ref o, .ref hh, .ref rd, .ref bk, .ref pl, .ref asd, .ref fd, .int (nI wr), .int hi9])), (tw, .inr (3, [.ref tsk, .ref tkd, .ref tmo, .ref tlv, .ref ttc, .ref tts, .ref ttl, .int (nI ttn), .int trg, .long thp, .int (nI tlw)])), (tkd, .inl (cI, 36, .inl tkf)), (tmo, .inl (cI, 36, .inl tmf))] [(10, .int (nI (cc / 6))), (9, .int (nI 0)), (8, .int (nI tx)), (7, .int (nI ty)), (4, .int m9), (3, .int k9), (1, .int (nI cc)), (0, .ref x)] 93 []
          exact L93_17 ((ty - (cc / 6)) + 1) (cc / 6) 0 tkf tmf (Nat.le_refl _) (by omega) (by rw [Nat.sub_self, Nat.zero_mul]) (o_pl_0) (o_pl_0) (Nat.lt_succ_self _)
        ·
          obtain ⟨rfl, rfl, hf26⟩ := h16
          show X 0 0 [(x, .inr (6, [.ref tw, .ref pw, .ref uw, .ref o, .ref hh, .ref rd, .ref bk, .ref pl, .ref asd, .ref fd, .int (nI wr), .int hi9])), (tw, .inr (3, [.ref tsk, .ref tkd, .ref tmo, .ref tlv, .ref ttc, .ref tts, .ref ttl, .int (nI ttn), .int trg, .long thp, .int (nI tlw)])), (tkd, .inl (cI, 36, .inl tkf)), (tmo, .inl (cI, 36, .inl tmf))] [(6, .int (nI rb9)), (5, .int (nI ra9)), (0, .ref x), (1, .int (nI cc)), (2, .int sh), (3, .int k9), (4, .int m9)] 50 [.int 0]
          refine x_if_ne C dX7_plot_50 (tgt := 56) rfl (fun q9 => absurd q9 (by decide)) (fun _ => ?_)
          refine x_bipush C dX7_plot_53 (v := (-7)) rfl ?_
          refine E dX7_plot_55 (rfl) ?_
          exact ⟨(-7), tkf, tmf, rfl, rfl, by (unfold o_plot o_plot_f); (try simp only [hncc]); (repeat (first | rw [if_pos (by first | (rw [if_pos (by decide)]; assumption) | (rw [if_neg (by decide), if_pos (by decide)]; assumption) | (rw [if_neg (by decide), if_neg (by decide)]; assumption) | assumption | decide | omega | exact o_one_t (by assumption) | (rw [o_one_f (by assumption)]; decide) | exact ⟨by assumption, by assumption⟩ | exact fun h9 => absurd h9.1 (by assumption) | exact fun h9 => absurd h9.2 (by assumption))] | rw [if_neg (by first | (rw [if_pos (by decide)]; assumption) | (rw [if_neg (by decide), if_pos (by decide)]; assumption) | (rw [if_neg (by decide), if_neg (by decide)]; assumption) | assumption | decide | omega | exact o_one_t (by assumption) | (rw [o_one_f (by assumption)]; decide) | exact ⟨by assumption, by assumption⟩ | exact fun h9 => absurd h9.1 (by assumption) | exact fun h9 => absurd h9.2 (by assumption))])); all_goals (first | rfl)⟩
      ·
        obtain ⟨rfl, rfl, hf27⟩ := h12
        show X 0 0 [(x, .inr (6, [.ref tw, .ref pw, .ref uw, .ref o, .ref hh, .ref rd, .ref bk, .ref pl, .ref asd, .ref fd, .int (nI wr), .int hi9])), (tw, .inr (3, [.ref tsk, .ref tkd, .ref tmo, .ref tlv, .ref ttc, .ref tts, .ref ttl, .int (nI ttn), .int trg, .long thp, .int (nI tlw)])), (tkd, .inl (cI, 36, .inl tkf)), (tmo, .inl (cI, 36, .inl tmf))] [(6, .int (sh - sh / 10 * 10)), (5, .int (sh / 10)), (0, .ref x), (1, .int (nI cc)), (2, .int sh), (3, .int k9), (4, .int m9)] 38 [.int 0]
        refine x_if_ne C dX7_plot_38 (tgt := 44) rfl (fun q9 => absurd q9 (by decide)) (fun _ => ?_)
        refine x_bipush C dX7_plot_41 (v := (-2)) rfl ?_
        refine E dX7_plot_43 (rfl) ?_
        exact ⟨(-2), tkf, tmf, rfl, rfl, by (unfold o_plot o_plot_f); (try simp only [hncc]); (repeat (first | rw [if_pos (by first | (rw [if_pos (by decide)]; assumption) | (rw [if_neg (by decide), if_pos (by decide)]; assumption) | (rw [if_neg (by decide), if_neg (by decide)]; assumption) | assumption | decide | omega | exact o_one_t (by assumption) | (rw [o_one_f (by assumption)]; decide) | exact ⟨by assumption, by assumption⟩ | exact fun h9 => absurd h9.1 (by assumption) | exact fun h9 => absurd h9.2 (by assumption))] | rw [if_neg (by first | (rw [if_pos (by decide)]; assumption) | (rw [if_neg (by decide), if_pos (by decide)]; assumption) | (rw [if_neg (by decide), if_neg (by decide)]; assumption) | assumption | decide | omega | exact o_one_t (by assumption) | (rw [o_one_f (by assumption)]; decide) | exact ⟨by assumption, by assumption⟩ | exact fun h9 => absurd h9.1 (by assumption) | exact fun h9 => absurd h9.2 (by assumption))])); all_goals (first | rfl)⟩
    ·
      obtain ⟨rfl, rfl, hf28⟩ := h8
      show X 0 0 [(x, .inr (6, [.ref tw, .ref pw, .ref uw, .ref o, .ref hh, .ref rd, .ref bk, .ref pl, .ref asd, .ref fd, .int (nI wr), .int hi9])), (tw, .inr (3, [.ref tsk, .ref tkd, .ref tmo, .ref tlv, .ref ttc, .ref tts, .ref ttl, .int (nI ttn), .int trg, .long thp, .int (nI tlw)])), (tkd, .inl (cI, 36, .inl tkf)), (tmo, .inl (cI, 36, .inl tmf))] [(6, .int (sh - sh / 10 * 10)), (5, .int (sh / 10)), (0, .ref x), (1, .int (nI cc)), (2, .int sh), (3, .int k9), (4, .int m9)] 27 [.int 0]
      refine x_if_eq C dX7_plot_27 (tgt := 41) rfl (fun _ => ?_) (fun q9 => by first | exact absurd q9 (by decide) | exact absurd (by decide) q9)
      refine x_bipush C dX7_plot_41 (v := (-2)) rfl ?_
      refine E dX7_plot_43 (rfl) ?_
      exact ⟨(-2), tkf, tmf, rfl, rfl, by (unfold o_plot o_plot_f); (try simp only [hncc]); (repeat (first | rw [if_pos (by first | (rw [if_pos (by decide)]; assumption) | (rw [if_neg (by decide), if_pos (by decide)]; assumption) | (rw [if_neg (by decide), if_neg (by decide)]; assumption) | assumption | decide | omega | exact o_one_t (by assumption) | (rw [o_one_f (by assumption)]; decide) | exact ⟨by assumption, by assumption⟩ | exact fun h9 => absurd h9.1 (by assumption) | exact fun h9 => absurd h9.2 (by assumption))] | rw [if_neg (by first | (rw [if_pos (by decide)]; assumption) | (rw [if_neg (by decide), if_pos (by decide)]; assumption) | (rw [if_neg (by decide), if_neg (by decide)]; assumption) | assumption | decide | omega | exact o_one_t (by assumption) | (rw [o_one_f (by assumption)]; decide) | exact ⟨by assumption, by assumption⟩ | exact fun h9 => absurd h9.1 (by assumption) | exact fun h9 => absurd h9.2 (by assumption))])); all_goals (first | rfl)⟩
  ·
    obtain ⟨rfl, rfl, hf29⟩ := h3
    show X 0 0 [(x, .inr (6, [.ref tw, .ref pw, .ref uw, .ref o, .ref hh, .ref rd, .ref bk, .ref pl, .ref asd, .ref fd, .int (nI wr), .int hi9])), (tw, .inr (3, [.ref tsk, .ref tkd, .ref tmo, .ref tlv, .ref ttc, .ref tts, .ref ttl, .int (nI ttn), .int trg, .long thp, .int (nI tlw)])), (tkd, .inl (cI, 36, .inl tkf)), (tmo, .inl (cI, 36, .inl tmf))] [(6, .int (sh - sh / 10 * 10)), (5, .int (sh / 10)), (0, .ref x), (1, .int c), (2, .int sh), (3, .int k9), (4, .int m9)] 16 [.int 0]
    refine x_if_eq C dX7_plot_16 (tgt := 41) rfl (fun _ => ?_) (fun q9 => by first | exact absurd q9 (by decide) | exact absurd (by decide) q9)
    refine x_bipush C dX7_plot_41 (v := (-2)) rfl ?_
    refine E dX7_plot_43 (rfl) ?_
    exact ⟨(-2), tkf, tmf, rfl, rfl, by (unfold o_plot o_plot_f); (repeat (first | rw [if_pos (by first | (rw [if_pos (by decide)]; assumption) | (rw [if_neg (by decide), if_pos (by decide)]; assumption) | (rw [if_neg (by decide), if_neg (by decide)]; assumption) | assumption | decide | omega | exact o_one_t (by assumption) | (rw [o_one_f (by assumption)]; decide) | exact ⟨by assumption, by assumption⟩ | exact fun h9 => absurd h9.1 (by assumption) | exact fun h9 => absurd h9.2 (by assumption))] | rw [if_neg (by first | (rw [if_pos (by decide)]; assumption) | (rw [if_neg (by decide), if_pos (by decide)]; assumption) | (rw [if_neg (by decide), if_neg (by decide)]; assumption) | assumption | decide | omega | exact o_one_t (by assumption) | (rw [o_one_f (by assumption)]; decide) | exact ⟨by assumption, by assumption⟩ | exact fun h9 => absurd h9.1 (by assumption) | exact fun h9 => absurd h9.2 (by assumption))])); all_goals (first | rfl)⟩
theorem kV_X7_119 : GoodIn GW (wsV RX7 119 yX3_says.cls yX3_says (Cond.code yX3_says cX3_says 6 (some .int) :: GW)) := r_gV gw_17_11 gw_17_12 gw_17_13 gw_2_15 gw_17_14
set_option maxHeartbeats 4000000 in
set_option maxRecDepth 100000 in
theorem c_X7_asks (l : Launch) (dG : va_G) (cI cM cW cS : ClassId) (x pw uw o hh rd bk pl asd fd : Nat) (wr : Nat) (hi9 : Int32) (tw tsk tkd tmo tlv ttc tts ttl ts0 ts1 ts2 ts3 : Nat) (ttn tlw : Nat) (trg : Int32) (thp : Int64) (tR0 tR1 tR2 tR3 tkf tmf tlf tcf tsf ttf : Nat → Int32) (q qc qs qe : Nat) (sz : Int32) (cd sq en : Nat → Int32) (T : sT) (bkf : Nat → Option Nat) (asf : Nat → Int32) (p9 h9 sf ws my : Int32) (hok : s_ok T) (hL : s_law cd en T) (hlw : tlw < 6) (hbk : bkf tlw = some q) : rM l yX7_asks cX7_asks 8 (some .int) ({ frames := 3, cells := 0, slots := 0, locals := 67 } : Room) dG (tY cI cM cW cS) rZ0 [.ref x, .int p9, .int h9, .int sf, .int ws, .int my] [(x, .inr (6, [.ref tw, .ref pw, .ref uw, .ref o, .ref hh, .ref rd, .ref bk, .ref pl, .ref asd, .ref fd, .int (nI wr), .int hi9])), (tw, .inr (3, [.ref tsk, .ref tkd, .ref tmo, .ref tlv, .ref ttc, .ref tts, .ref ttl, .int (nI ttn), .int trg, .long thp, .int (nI tlw)])), (bk, .inl (cW, 6, .inr (.inr (.inr (.inr bkf))))), (q, .inr (2, [.ref qc, .ref qs, .ref qe, .int sz])), (qc, .inl (cI, 160, .inl cd)), (qs, .inl (cI, 160, .inl sq)), (qe, .inl (cI, 3, .inl en)), (asd, .inl (cI, 6, .inl asf))] (fun ov oz => ∃ (r : Int32) (sq' : Nat → Int32) (f' : Nat → Int32), ov = some (.int r) ∧ oz = [(x, .inr (6, [.ref tw, .ref pw, .ref uw, .ref o, .ref hh, .ref rd, .ref bk, .ref pl, .ref asd, .ref fd, .int (nI wr), .int hi9])), (tw, .inr (3, [.ref tsk, .ref tkd, .ref tmo, .ref tlv, .ref ttc, .ref tts, .ref ttl, .int (nI ttn), .int trg, .long thp, .int (nI tlw)])), (bk, .inl (cW, 6, .inr (.inr (.inr (.inr bkf))))), (q, .inr (2, [.ref qc, .ref qs, .ref qe, .int sz])), (qc, .inl (cI, 160, .inl cd)), (qs, .inl (cI, 160, .inl sq')), (qe, .inl (cI, 3, .inl en)), (asd, .inl (cI, 6, .inl f'))] ∧ r = o_asks T p9 h9 sf ws my) := by
  refine rM_ofI rfl (Nat.le_of_ble_eq_true rfl) rfl (fun X C E => ?_)
  show X 0 0 [(x, .inr (6, [.ref tw, .ref pw, .ref uw, .ref o, .ref hh, .ref rd, .ref bk, .ref pl, .ref asd, .ref fd, .int (nI wr), .int hi9])), (tw, .inr (3, [.ref tsk, .ref tkd, .ref tmo, .ref tlv, .ref ttc, .ref tts, .ref ttl, .int (nI ttn), .int trg, .long thp, .int (nI tlw)])), (bk, .inl (cW, 6, .inr (.inr (.inr (.inr bkf))))), (q, .inr (2, [.ref qc, .ref qs, .ref qe, .int sz])), (qc, .inl (cI, 160, .inl cd)), (qs, .inl (cI, 160, .inl sq)), (qe, .inl (cI, 3, .inl en)), (asd, .inl (cI, 6, .inl asf))] [(0, .ref x), (1, .int p9), (2, .int h9), (3, .int sf), (4, .int ws), (5, .int my)] 0 []
  refine x_iload_n C dX7_asks_0 1 rfl ?_
  refine x_iconst C dX7_asks_1 (v := 0) rfl ?_
  refine x_iconst C dX7_asks_2 (v := 2) rfl ?_
  refine x_callS C (As := [.int p9, .int 0, .int 2]) (st := []) (wc := []) (wr := [(x, .inr (6, [.ref tw, .ref pw, .ref uw, .ref o, .ref hh, .ref rd, .ref bk, .ref pl, .ref asd, .ref fd, .int (nI wr), .int hi9])), (tw, .inr (3, [.ref tsk, .ref tkd, .ref tmo, .ref tlv, .ref ttc, .ref tts, .ref ttl, .int (nI ttn), .int trg, .long thp, .int (nI tlw)])), (bk, .inl (cW, 6, .inr (.inr (.inr (.inr bkf))))), (q, .inr (2, [.ref qc, .ref qs, .ref qe, .int sz])), (qc, .inl (cI, 160, .inl cd)), (qs, .inl (cI, 160, .inl sq)), (qe, .inl (cI, 3, .inl en)), (asd, .inl (cI, 6, .inl asf))]) (c_X7_within l dG cI cM cW cS p9 0 2 ) rZ0_ok (fun _ _ _ _ => trivial) kS_X7_92 hy_X7_within ⟨Nat.le_of_ble_eq_true rfl, Nat.le_of_ble_eq_true rfl⟩ ⟨Nat.le_of_ble_eq_true rfl, Nat.le_of_ble_eq_true rfl⟩ dX7_asks_3 [] [0, 1, 2, 3, 4, 5, 6, 7] rfl rfl rfl rfl (by decide) rfl (Nat.le_of_ble_eq_true rfl) ?_
  intro v1 w2 h3
  rcases h3 with h3 | h3
  ·
    obtain ⟨rfl, rfl, hf4⟩ := h3
    show X 0 0 [(x, .inr (6, [.ref tw, .ref pw, .ref uw, .ref o, .ref hh, .ref rd, .ref bk, .ref pl, .ref asd, .ref fd, .int (nI wr), .int hi9])), (tw, .inr (3, [.ref tsk, .ref tkd, .ref tmo, .ref tlv, .ref ttc, .ref tts, .ref ttl, .int (nI ttn), .int trg, .long thp, .int (nI tlw)])), (bk, .inl (cW, 6, .inr (.inr (.inr (.inr bkf))))), (q, .inr (2, [.ref qc, .ref qs, .ref qe, .int sz])), (qc, .inl (cI, 160, .inl cd)), (qs, .inl (cI, 160, .inl sq)), (qe, .inl (cI, 3, .inl en)), (asd, .inl (cI, 6, .inl asf))] [(0, .ref x), (1, .int p9), (2, .int h9), (3, .int sf), (4, .int ws), (5, .int my)] 6 [.int 1]
    have hr5 := hf4
    obtain ⟨p, hp, rfl⟩ := q_w (n := 2) rfl (by decide) hf4
    have hnp : o_n (nI p) = p := o_n_nI (by omega)
    refine x_if_eq C dX7_asks_6 (tgt := 36) rfl (fun q9 => absurd q9 (by decide)) (fun _ => ?_)
    refine x_iload_n C dX7_asks_9 2 rfl ?_
    refine x_iconst C dX7_asks_10 (v := 0) rfl ?_
    refine x_sipush C dX7_asks_11 (v := 9999) rfl ?_
    refine x_callS C (As := [.int h9, .int 0, .int 9999]) (st := []) (wc := []) (wr := [(x, .inr (6, [.ref tw, .ref pw, .ref uw, .ref o, .ref hh, .ref rd, .ref bk, .ref pl, .ref asd, .ref fd, .int (nI wr), .int hi9])), (tw, .inr (3, [.ref tsk, .ref tkd, .ref tmo, .ref tlv, .ref ttc, .ref tts, .ref ttl, .int (nI ttn), .int trg, .long thp, .int (nI tlw)])), (bk, .inl (cW, 6, .inr (.inr (.inr (.inr bkf))))), (q, .inr (2, [.ref qc, .ref qs, .ref qe, .int sz])), (qc, .inl (cI, 160, .inl cd)), (qs, .inl (cI, 160, .inl sq)), (qe, .inl (cI, 3, .inl en)), (asd, .inl (cI, 6, .inl asf))]) (c_X7_within l dG cI cM cW cS h9 0 9999 ) rZ0_ok (fun _ _ _ _ => trivial) kS_X7_92 hy_X7_within ⟨Nat.le_of_ble_eq_true rfl, Nat.le_of_ble_eq_true rfl⟩ ⟨Nat.le_of_ble_eq_true rfl, Nat.le_of_ble_eq_true rfl⟩ dX7_asks_14 [] [0, 1, 2, 3, 4, 5, 6, 7] rfl rfl rfl rfl (by decide) rfl (Nat.le_of_ble_eq_true rfl) ?_
    intro v6 w7 h8
    rcases h8 with h8 | h8
    ·
      obtain ⟨rfl, rfl, hf9⟩ := h8
      show X 0 0 [(x, .inr (6, [.ref tw, .ref pw, .ref uw, .ref o, .ref hh, .ref rd, .ref bk, .ref pl, .ref asd, .ref fd, .int (nI wr), .int hi9])), (tw, .inr (3, [.ref tsk, .ref tkd, .ref tmo, .ref tlv, .ref ttc, .ref tts, .ref ttl, .int (nI ttn), .int trg, .long thp, .int (nI tlw)])), (bk, .inl (cW, 6, .inr (.inr (.inr (.inr bkf))))), (q, .inr (2, [.ref qc, .ref qs, .ref qe, .int sz])), (qc, .inl (cI, 160, .inl cd)), (qs, .inl (cI, 160, .inl sq)), (qe, .inl (cI, 3, .inl en)), (asd, .inl (cI, 6, .inl asf))] [(0, .ref x), (1, .int (nI p)), (2, .int h9), (3, .int sf), (4, .int ws), (5, .int my)] 17 [.int 1]
      refine x_if_eq C dX7_asks_17 (tgt := 36) rfl (fun q9 => absurd q9 (by decide)) (fun _ => ?_)
      refine x_iload C dX7_asks_20 5 rfl ?_
      refine x_iconst C dX7_asks_22 (v := 0) rfl ?_
      refine x_sipush C dX7_asks_23 (v := 9999) rfl ?_
      refine x_callS C (As := [.int my, .int 0, .int 9999]) (st := []) (wc := []) (wr := [(x, .inr (6, [.ref tw, .ref pw, .ref uw, .ref o, .ref hh, .ref rd, .ref bk, .ref pl, .ref asd, .ref fd, .int (nI wr), .int hi9])), (tw, .inr (3, [.ref tsk, .ref tkd, .ref tmo, .ref tlv, .ref ttc, .ref tts, .ref ttl, .int (nI ttn), .int trg, .long thp, .int (nI tlw)])), (bk, .inl (cW, 6, .inr (.inr (.inr (.inr bkf))))), (q, .inr (2, [.ref qc, .ref qs, .ref qe, .int sz])), (qc, .inl (cI, 160, .inl cd)), (qs, .inl (cI, 160, .inl sq)), (qe, .inl (cI, 3, .inl en)), (asd, .inl (cI, 6, .inl asf))]) (c_X7_within l dG cI cM cW cS my 0 9999 ) rZ0_ok (fun _ _ _ _ => trivial) kS_X7_92 hy_X7_within ⟨Nat.le_of_ble_eq_true rfl, Nat.le_of_ble_eq_true rfl⟩ ⟨Nat.le_of_ble_eq_true rfl, Nat.le_of_ble_eq_true rfl⟩ dX7_asks_26 [] [0, 1, 2, 3, 4, 5, 6, 7] rfl rfl rfl rfl (by decide) rfl (Nat.le_of_ble_eq_true rfl) ?_
      intro v10 w11 h12
      rcases h12 with h12 | h12
      ·
        obtain ⟨rfl, rfl, hf13⟩ := h12
        show X 0 0 [(x, .inr (6, [.ref tw, .ref pw, .ref uw, .ref o, .ref hh, .ref rd, .ref bk, .ref pl, .ref asd, .ref fd, .int (nI wr), .int hi9])), (tw, .inr (3, [.ref tsk, .ref tkd, .ref tmo, .ref tlv, .ref ttc, .ref tts, .ref ttl, .int (nI ttn), .int trg, .long thp, .int (nI tlw)])), (bk, .inl (cW, 6, .inr (.inr (.inr (.inr bkf))))), (q, .inr (2, [.ref qc, .ref qs, .ref qe, .int sz])), (qc, .inl (cI, 160, .inl cd)), (qs, .inl (cI, 160, .inl sq)), (qe, .inl (cI, 3, .inl en)), (asd, .inl (cI, 6, .inl asf))] [(0, .ref x), (1, .int (nI p)), (2, .int h9), (3, .int sf), (4, .int ws), (5, .int my)] 29 [.int 1]
        refine x_if_eq C dX7_asks_29 (tgt := 36) rfl (fun q9 => absurd q9 (by decide)) (fun _ => ?_)
        refine x_iconst C dX7_asks_32 (v := 1) rfl ?_
        refine x_goto C dX7_asks_33 (tgt := 37) rfl ?_
        refine x_istore C dX7_asks_37 (by decide) (lv' := [(6, .int 1), (0, .ref x), (1, .int (nI p)), (2, .int h9), (3, .int sf), (4, .int ws), (5, .int my)]) rfl ?_
        refine x_iload_n C dX7_asks_39 4 rfl ?_
        refine x_iconst C dX7_asks_40 (v := 0) rfl ?_
        refine x_bipush C dX7_asks_41 (v := 91) rfl ?_
        refine x_callS C (As := [.int sf, .int 0, .int 91]) (st := []) (wc := []) (wr := [(x, .inr (6, [.ref tw, .ref pw, .ref uw, .ref o, .ref hh, .ref rd, .ref bk, .ref pl, .ref asd, .ref fd, .int (nI wr), .int hi9])), (tw, .inr (3, [.ref tsk, .ref tkd, .ref tmo, .ref tlv, .ref ttc, .ref tts, .ref ttl, .int (nI ttn), .int trg, .long thp, .int (nI tlw)])), (bk, .inl (cW, 6, .inr (.inr (.inr (.inr bkf))))), (q, .inr (2, [.ref qc, .ref qs, .ref qe, .int sz])), (qc, .inl (cI, 160, .inl cd)), (qs, .inl (cI, 160, .inl sq)), (qe, .inl (cI, 3, .inl en)), (asd, .inl (cI, 6, .inl asf))]) (c_X7_within l dG cI cM cW cS sf 0 91 ) rZ0_ok (fun _ _ _ _ => trivial) kS_X7_92 hy_X7_within ⟨Nat.le_of_ble_eq_true rfl, Nat.le_of_ble_eq_true rfl⟩ ⟨Nat.le_of_ble_eq_true rfl, Nat.le_of_ble_eq_true rfl⟩ dX7_asks_43 [] [0, 1, 2, 3, 4, 5, 6, 7] rfl rfl rfl rfl (by decide) rfl (Nat.le_of_ble_eq_true rfl) ?_
        intro v14 w15 h16
        rcases h16 with h16 | h16
        ·
          obtain ⟨rfl, rfl, hf17⟩ := h16
          show X 0 0 [(x, .inr (6, [.ref tw, .ref pw, .ref uw, .ref o, .ref hh, .ref rd, .ref bk, .ref pl, .ref asd, .ref fd, .int (nI wr), .int hi9])), (tw, .inr (3, [.ref tsk, .ref tkd, .ref tmo, .ref tlv, .ref ttc, .ref tts, .ref ttl, .int (nI ttn), .int trg, .long thp, .int (nI tlw)])), (bk, .inl (cW, 6, .inr (.inr (.inr (.inr bkf))))), (q, .inr (2, [.ref qc, .ref qs, .ref qe, .int sz])), (qc, .inl (cI, 160, .inl cd)), (qs, .inl (cI, 160, .inl sq)), (qe, .inl (cI, 3, .inl en)), (asd, .inl (cI, 6, .inl asf))] [(6, .int 1), (0, .ref x), (1, .int (nI p)), (2, .int h9), (3, .int sf), (4, .int ws), (5, .int my)] 46 [.int 1]
          refine x_if_eq C dX7_asks_46 (tgt := 61) rfl (fun q9 => absurd q9 (by decide)) (fun _ => ?_)
          refine x_iload_n C dX7_asks_49 4 rfl ?_
          refine x_bipush C dX7_asks_50 (v := 10) rfl ?_
          refine x_irem C dX7_asks_52 (by decide) ?_
          refine x_iconst C dX7_asks_53 (v := 1) rfl ?_
          refine x_icmp_gt C dX7_asks_54 (tgt := 61) rfl (fun c18 => ?_) (fun c18 => ?_)
          ·
            have hc9 : 1 < sf - sf / 10 * 10 := c18
            refine x_iconst C dX7_asks_61 (v := 0) rfl ?_
            refine x_istore C dX7_asks_62 (by decide) (lv' := [(7, .int 0), (6, .int 1), (0, .ref x), (1, .int (nI p)), (2, .int h9), (3, .int sf), (4, .int ws), (5, .int my)]) rfl ?_
            refine x_iload C dX7_asks_64 1 rfl ?_
            refine x_if_eq C dX7_asks_66 (tgt := 85) rfl (fun q9 => absurd q9 (by decide)) (fun _ => ?_)
            refine x_iload C dX7_asks_69 0 rfl ?_
            refine x_if_eq C dX7_asks_71 (tgt := 85) rfl (fun _ => ?_) (fun q9 => by first | exact absurd q9 (by decide) | exact absurd (by decide) q9)
            refine x_bipush C dX7_asks_85 (v := (-2)) rfl ?_
            refine E dX7_asks_87 (rfl) ?_
            exact ⟨(-2), sq, asf, rfl, rfl, by (unfold o_asks); (repeat' split) <;> first | rfl | contradiction⟩
          ·
            have hc9 : ¬ 1 < sf - sf / 10 * 10 := c18
            refine x_iconst C dX7_asks_57 (v := 1) rfl ?_
            refine x_goto C dX7_asks_58 (tgt := 62) rfl ?_
            refine x_istore C dX7_asks_62 (by decide) (lv' := [(7, .int 1), (6, .int 1), (0, .ref x), (1, .int (nI p)), (2, .int h9), (3, .int sf), (4, .int ws), (5, .int my)]) rfl ?_
            refine x_iload C dX7_asks_64 1 rfl ?_
            refine x_if_eq C dX7_asks_66 (tgt := 85) rfl (fun q9 => absurd q9 (by decide)) (fun _ => ?_)
            refine x_iload C dX7_asks_69 0 rfl ?_
            refine x_if_eq C dX7_asks_71 (tgt := 85) rfl (fun q9 => absurd q9 (by decide)) (fun _ => ?_)
            refine x_iload C dX7_asks_74 6 rfl ?_
            refine x_iconst C dX7_asks_76 (v := 0) rfl ?_
            refine x_bipush C dX7_asks_77 (v := 19) rfl ?_
            show X _ _ _ _ 79 _
            refine x_callS C (As := [.int ws, .int 0, .int 19]) (st := []) (wc := []) (wr := [(x, .inr (6, [.ref tw, .ref pw, .ref uw, .ref o, .ref hh, .ref rd, .ref bk, .ref pl, .ref asd, .ref fd, .int (nI wr), .int hi9])), (tw, .inr (3, [.ref tsk, .ref tkd, .ref tmo, .ref tlv, .ref ttc, .ref tts, .ref ttl, .int (nI ttn), .int trg, .long thp, .int (nI tlw)])), (bk, .inl (cW, 6, .inr (.inr (.inr (.inr bkf))))), (q, .inr (2, [.ref qc, .ref qs, .ref qe, .int sz])), (qc, .inl (cI, 160, .inl cd)), (qs, .inl (cI, 160, .inl sq)), (qe, .inl (cI, 3, .inl en)), (asd, .inl (cI, 6, .inl asf))]) (c_X7_within l dG cI cM cW cS ws 0 19 ) rZ0_ok (fun _ _ _ _ => trivial) kS_X7_92 hy_X7_within ⟨Nat.le_of_ble_eq_true rfl, Nat.le_of_ble_eq_true rfl⟩ ⟨Nat.le_of_ble_eq_true rfl, Nat.le_of_ble_eq_true rfl⟩ dX7_asks_79 [] [0, 1, 2, 3, 4, 5, 6, 7] rfl rfl rfl rfl (by decide) rfl (Nat.le_of_ble_eq_true rfl) ?_
            intro v19 w20 h21
            rcases h21 with h21 | h21
            ·
              obtain ⟨rfl, rfl, hf22⟩ := h21
              show X 0 0 [(x, .inr (6, [.ref tw, .ref pw, .ref uw, .ref o, .ref hh, .ref rd, .ref bk, .ref pl, .ref asd, .ref fd, .int (nI wr), .int hi9])), (tw, .inr (3, [.ref tsk, .ref tkd, .ref tmo, .ref tlv, .ref ttc, .ref tts, .ref ttl, .int (nI ttn), .int trg, .long thp, .int (nI tlw)])), (bk, .inl (cW, 6, .inr (.inr (.inr (.inr bkf))))), (q, .inr (2, [.ref qc, .ref qs, .ref qe, .int sz])), (qc, .inl (cI, 160, .inl cd)), (qs, .inl (cI, 160, .inl sq)), (qe, .inl (cI, 3, .inl en)), (asd, .inl (cI, 6, .inl asf))] [(7, .int 1), (6, .int 1), (0, .ref x), (1, .int (nI p)), (2, .int h9), (3, .int sf), (4, .int ws), (5, .int my)] 82 [.int 1]
              refine x_if_ne C dX7_asks_82 (tgt := 88) rfl (fun _ => ?_) (fun q9 => by first | exact absurd q9 (by decide) | exact absurd (by decide) q9)
              refine x_aload_n C dX7_asks_88 2 rfl ?_
              refine x_get C inlX7 rfl 8 (by decide) gw_2_12 dX7_asks_89 0 rfl rfl ?_
              refine x_iconst C dX7_asks_92 (v := 0) rfl ?_
              refine x_iload_n C dX7_asks_93 4 rfl ?_
              refine x_iastore C 0 rfl dX7_asks_94 0 rfl (q_ix (rfl : (0 : Int32) = nI 0) (by decide) (by decide)) 7 rfl ?_
              show X _ _ [(x, .inr (6, [.ref tw, .ref pw, .ref uw, .ref o, .ref hh, .ref rd, .ref bk, .ref pl, .ref asd, .ref fd, .int (nI wr), .int hi9])), (tw, .inr (3, [.ref tsk, .ref tkd, .ref tmo, .ref tlv, .ref ttc, .ref tts, .ref ttl, .int (nI ttn), .int trg, .long thp, .int (nI tlw)])), (bk, .inl (cW, 6, .inr (.inr (.inr (.inr bkf))))), (q, .inr (2, [.ref qc, .ref qs, .ref qe, .int sz])), (qc, .inl (cI, 160, .inl cd)), (qs, .inl (cI, 160, .inl sq)), (qe, .inl (cI, 3, .inl en)), (asd, .inl (cI, 6, .inl (upd asf 0 h9)))] _ _ _
              refine x_aload_n C dX7_asks_95 2 rfl ?_
              refine x_get C inlX7 rfl 8 (by decide) gw_2_12 dX7_asks_96 0 rfl rfl ?_
              refine x_iconst C dX7_asks_99 (v := 1) rfl ?_
              refine x_iload_n C dX7_asks_100 5 rfl ?_
              show X _ _ _ _ 101 _
              refine x_bipush C dX7_asks_101 (v := 10) rfl ?_
              refine x_idiv C dX7_asks_103 (by decide) ?_
              refine x_iastore C 0 rfl dX7_asks_104 1 rfl (q_ix (rfl : (1 : Int32) = nI 1) (by decide) (by decide)) 7 rfl ?_
              show X _ _ [(x, .inr (6, [.ref tw, .ref pw, .ref uw, .ref o, .ref hh, .ref rd, .ref bk, .ref pl, .ref asd, .ref fd, .int (nI wr), .int hi9])), (tw, .inr (3, [.ref tsk, .ref tkd, .ref tmo, .ref tlv, .ref ttc, .ref tts, .ref ttl, .int (nI ttn), .int trg, .long thp, .int (nI tlw)])), (bk, .inl (cW, 6, .inr (.inr (.inr (.inr bkf))))), (q, .inr (2, [.ref qc, .ref qs, .ref qe, .int sz])), (qc, .inl (cI, 160, .inl cd)), (qs, .inl (cI, 160, .inl sq)), (qe, .inl (cI, 3, .inl en)), (asd, .inl (cI, 6, .inl (upd (upd asf 0 h9) 1 (sf / 10))))] _ _ _
              refine x_aload_n C dX7_asks_105 2 rfl ?_
              refine x_get C inlX7 rfl 8 (by decide) gw_2_12 dX7_asks_106 0 rfl rfl ?_
              refine x_iconst C dX7_asks_109 (v := 2) rfl ?_
              refine x_iload_n C dX7_asks_110 5 rfl ?_
              refine x_bipush C dX7_asks_111 (v := 10) rfl ?_
              refine x_irem C dX7_asks_113 (by decide) ?_
              refine x_iastore C 0 rfl dX7_asks_114 2 rfl (q_ix (rfl : (2 : Int32) = nI 2) (by decide) (by decide)) 7 rfl ?_
              show X _ _ [(x, .inr (6, [.ref tw, .ref pw, .ref uw, .ref o, .ref hh, .ref rd, .ref bk, .ref pl, .ref asd, .ref fd, .int (nI wr), .int hi9])), (tw, .inr (3, [.ref tsk, .ref tkd, .ref tmo, .ref tlv, .ref ttc, .ref tts, .ref ttl, .int (nI ttn), .int trg, .long thp, .int (nI tlw)])), (bk, .inl (cW, 6, .inr (.inr (.inr (.inr bkf))))), (q, .inr (2, [.ref qc, .ref qs, .ref qe, .int sz])), (qc, .inl (cI, 160, .inl cd)), (qs, .inl (cI, 160, .inl sq)), (qe, .inl (cI, 3, .inl en)), (asd, .inl (cI, 6, .inl (upd (upd (upd asf 0 h9) 1 (sf / 10)) 2 (sf - sf / 10 * 10))))] _ _ _
              show X _ _ _ _ 115 _
              refine x_aload_n C dX7_asks_115 2 rfl ?_
              refine x_get C inlX7 rfl 8 (by decide) gw_2_12 dX7_asks_116 0 rfl rfl ?_
              refine x_iconst C dX7_asks_119 (v := 3) rfl ?_
              refine x_iload C dX7_asks_120 6 rfl ?_
              refine x_bipush C dX7_asks_122 (v := 10) rfl ?_
              refine x_idiv C dX7_asks_124 (by decide) ?_
              refine x_iastore C 0 rfl dX7_asks_125 3 rfl (q_ix (rfl : (3 : Int32) = nI 3) (by decide) (by decide)) 7 rfl ?_
              show X _ _ [(x, .inr (6, [.ref tw, .ref pw, .ref uw, .ref o, .ref hh, .ref rd, .ref bk, .ref pl, .ref asd, .ref fd, .int (nI wr), .int hi9])), (tw, .inr (3, [.ref tsk, .ref tkd, .ref tmo, .ref tlv, .ref ttc, .ref tts, .ref ttl, .int (nI ttn), .int trg, .long thp, .int (nI tlw)])), (bk, .inl (cW, 6, .inr (.inr (.inr (.inr bkf))))), (q, .inr (2, [.ref qc, .ref qs, .ref qe, .int sz])), (qc, .inl (cI, 160, .inl cd)), (qs, .inl (cI, 160, .inl sq)), (qe, .inl (cI, 3, .inl en)), (asd, .inl (cI, 6, .inl (upd (upd (upd (upd asf 0 h9) 1 (sf / 10)) 2 (sf - sf / 10 * 10)) 3 (ws / 10))))] _ _ _
              refine x_aload_n C dX7_asks_126 2 rfl ?_
              refine x_get C inlX7 rfl 8 (by decide) gw_2_12 dX7_asks_127 0 rfl rfl ?_
              refine x_iconst C dX7_asks_130 (v := 4) rfl ?_
              show X _ _ _ _ 131 _
              refine x_iload C dX7_asks_131 6 rfl ?_
              refine x_bipush C dX7_asks_133 (v := 10) rfl ?_
              refine x_irem C dX7_asks_135 (by decide) ?_
              refine x_iastore C 0 rfl dX7_asks_136 4 rfl (q_ix (rfl : (4 : Int32) = nI 4) (by decide) (by decide)) 7 rfl ?_
              show X _ _ [(x, .inr (6, [.ref tw, .ref pw, .ref uw, .ref o, .ref hh, .ref rd, .ref bk, .ref pl, .ref asd, .ref fd, .int (nI wr), .int hi9])), (tw, .inr (3, [.ref tsk, .ref tkd, .ref tmo, .ref tlv, .ref ttc, .ref tts, .ref ttl, .int (nI ttn), .int trg, .long thp, .int (nI tlw)])), (bk, .inl (cW, 6, .inr (.inr (.inr (.inr bkf))))), (q, .inr (2, [.ref qc, .ref qs, .ref qe, .int sz])), (qc, .inl (cI, 160, .inl cd)), (qs, .inl (cI, 160, .inl sq)), (qe, .inl (cI, 3, .inl en)), (asd, .inl (cI, 6, .inl (upd (upd (upd (upd (upd asf 0 h9) 1 (sf / 10)) 2 (sf - sf / 10 * 10)) 3 (ws / 10)) 4 (ws - ws / 10 * 10))))] _ _ _
              refine x_aload_n C dX7_asks_137 2 rfl ?_
              refine x_get C inlX7 rfl 8 (by decide) gw_2_12 dX7_asks_138 0 rfl rfl ?_
              refine x_iconst C dX7_asks_141 (v := 5) rfl ?_
              refine x_iload C dX7_asks_142 7 rfl ?_
              refine x_iastore C 0 rfl dX7_asks_144 5 rfl (q_ix (rfl : (5 : Int32) = nI 5) (by decide) (by decide)) 7 rfl ?_
              show X _ _ [(x, .inr (6, [.ref tw, .ref pw, .ref uw, .ref o, .ref hh, .ref rd, .ref bk, .ref pl, .ref asd, .ref fd, .int (nI wr), .int hi9])), (tw, .inr (3, [.ref tsk, .ref tkd, .ref tmo, .ref tlv, .ref ttc, .ref tts, .ref ttl, .int (nI ttn), .int trg, .long thp, .int (nI tlw)])), (bk, .inl (cW, 6, .inr (.inr (.inr (.inr bkf))))), (q, .inr (2, [.ref qc, .ref qs, .ref qe, .int sz])), (qc, .inl (cI, 160, .inl cd)), (qs, .inl (cI, 160, .inl sq)), (qe, .inl (cI, 3, .inl en)), (asd, .inl (cI, 6, .inl (upd (upd (upd (upd (upd (upd asf 0 h9) 1 (sf / 10)) 2 (sf - sf / 10 * 10)) 3 (ws / 10)) 4 (ws - ws / 10 * 10)) 5 my)))] _ _ _
              refine x_arr C 7 rfl (s_nm h9 (sf / 10) (sf - sf / 10 * 10) (ws / 10) (ws - ws / 10 * 10) my) (q_nms rfl rfl rfl rfl rfl rfl) ?_
              show X _ _ [(x, .inr (6, [.ref tw, .ref pw, .ref uw, .ref o, .ref hh, .ref rd, .ref bk, .ref pl, .ref asd, .ref fd, .int (nI wr), .int hi9])), (tw, .inr (3, [.ref tsk, .ref tkd, .ref tmo, .ref tlv, .ref ttc, .ref tts, .ref ttl, .int (nI ttn), .int trg, .long thp, .int (nI tlw)])), (bk, .inl (cW, 6, .inr (.inr (.inr (.inr bkf))))), (q, .inr (2, [.ref qc, .ref qs, .ref qe, .int sz])), (qc, .inl (cI, 160, .inl cd)), (qs, .inl (cI, 160, .inl sq)), (qe, .inl (cI, 3, .inl en)), (asd, .inl (cI, 6, .inl (s_nm h9 (sf / 10) (sf - sf / 10 * 10) (ws / 10) (ws - ws / 10 * 10) my)))] _ _ _
              refine x_aload_n C dX7_asks_145 2 rfl ?_
              show X _ _ _ _ 146 _
              refine x_get C inlX7 rfl 6 (by decide) gw_2_8 dX7_asks_146 0 rfl rfl ?_
              refine x_aload_n C dX7_asks_149 2 rfl ?_
              refine x_get C inlX7 rfl 0 (by decide) gw_1_16 dX7_asks_150 0 rfl rfl ?_
              refine x_getN C inlX4 rfl 10 (by decide) nw_X7_110 dX7_asks_153 1 rfl rfl ?_
              refine x_aaload C 2 rfl dX7_asks_156 tlw (q_cl rfl (by omega)) (q_ix rfl (by omega) (by omega)) 2 rfl hbk ?_
              refine x_iload_n C dX7_asks_157 3 rfl ?_
              refine x_aload_n C dX7_asks_158 2 rfl ?_
              refine x_get C inlX7 rfl 8 (by decide) gw_2_12 dX7_asks_159 0 rfl rfl ?_
              refine x_callV C (As := [.int (nI p), .ref asd]) (st := []) (wc := [(q, .inr (2, [.ref qc, .ref qs, .ref qe, .int sz])), (qc, .inl (cI, 160, .inl cd)), (qs, .inl (cI, 160, .inl sq)), (qe, .inl (cI, 3, .inl en)), (asd, .inl (cI, 6, .inl (s_nm h9 (sf / 10) (sf - sf / 10 * 10) (ws / 10) (ws - ws / 10 * 10) my)))]) (wr := [(x, .inr (6, [.ref tw, .ref pw, .ref uw, .ref o, .ref hh, .ref rd, .ref bk, .ref pl, .ref asd, .ref fd, .int (nI wr), .int hi9])), (tw, .inr (3, [.ref tsk, .ref tkd, .ref tmo, .ref tlv, .ref ttc, .ref tts, .ref ttl, .int (nI ttn), .int trg, .long thp, .int (nI tlw)])), (bk, .inl (cW, 6, .inr (.inr (.inr (.inr bkf)))))]) (c_X3_says l dG cI cM cW cS q qc qs qe asd p sz cd sq en (s_nm h9 (sf / 10) (sf - sf / 10 * 10) (ws / 10) (ws - ws / 10 * 10) my) T (by first | assumption | omega | decide) (by first | assumption | omega | decide) (by first | assumption | omega | decide)) rZ0_ok (fun _ _ _ _ => trivial) kV_X7_119 ⟨rfl, hy_X3_says⟩ ⟨Nat.le_of_ble_eq_true rfl, Nat.le_of_ble_eq_true rfl⟩ ⟨Nat.le_of_ble_eq_true rfl, Nat.le_of_ble_eq_true rfl⟩ dX7_asks_162 3 rfl rfl [3, 4, 5, 6, 7] [0, 1, 2] rfl rfl rfl rfl (by decide) rfl (Nat.le_of_ble_eq_true rfl) ?_
              intro v23 w24 h25
              obtain ⟨_, sk_27, rfl, rfl, rfl⟩ := h25
              show X 0 0 [(x, .inr (6, [.ref tw, .ref pw, .ref uw, .ref o, .ref hh, .ref rd, .ref bk, .ref pl, .ref asd, .ref fd, .int (nI wr), .int hi9])), (tw, .inr (3, [.ref tsk, .ref tkd, .ref tmo, .ref tlv, .ref ttc, .ref tts, .ref ttl, .int (nI ttn), .int trg, .long thp, .int (nI tlw)])), (bk, .inl (cW, 6, .inr (.inr (.inr (.inr bkf))))), (q, .inr (2, [.ref qc, .ref qs, .ref qe, .int sz])), (qc, .inl (cI, 160, .inl cd)), (qs, .inl (cI, 160, .inl sk_27)), (qe, .inl (cI, 3, .inl en)), (asd, .inl (cI, 6, .inl (s_nm h9 (sf / 10) (sf - sf / 10 * 10) (ws / 10) (ws - ws / 10 * 10) my)))] [(7, .int 1), (6, .int 1), (0, .ref x), (1, .int (nI p)), (2, .int h9), (3, .int sf), (4, .int ws), (5, .int my)] 165 [.int (s_says T p (s_nm h9 (sf / 10) (sf - sf / 10 * 10) (ws / 10) (ws - ws / 10 * 10) my))]
              refine E dX7_asks_165 (rfl) ?_
              exact ⟨(s_says T p (s_nm h9 (sf / 10) (sf - sf / 10 * 10) (ws / 10) (ws - ws / 10 * 10) my)), sk_27, (s_nm h9 (sf / 10) (sf - sf / 10 * 10) (ws / 10) (ws - ws / 10 * 10) my), rfl, rfl, by (unfold o_asks); (try simp only [hnp]); (repeat (first | rw [if_pos (by first | (rw [if_pos (by decide)]; assumption) | (rw [if_neg (by decide), if_pos (by decide)]; assumption) | (rw [if_neg (by decide), if_neg (by decide)]; assumption) | assumption | decide | omega | exact o_one_t (by assumption) | (rw [o_one_f (by assumption)]; decide) | exact ⟨by assumption, by assumption⟩ | exact fun h9 => absurd h9.1 (by assumption) | exact fun h9 => absurd h9.2 (by assumption))] | rw [if_neg (by first | (rw [if_pos (by decide)]; assumption) | (rw [if_neg (by decide), if_pos (by decide)]; assumption) | (rw [if_neg (by decide), if_neg (by decide)]; assumption) | assumption | decide | omega | exact o_one_t (by assumption) | (rw [o_one_f (by assumption)]; decide) | exact ⟨by assumption, by assumption⟩ | exact fun h9 => absurd h9.1 (by assumption) | exact fun h9 => absurd h9.2 (by assumption))])); all_goals (first | rfl)⟩
            ·
              obtain ⟨rfl, rfl, hf29⟩ := h21
              show X 0 0 [(x, .inr (6, [.ref tw, .ref pw, .ref uw, .ref o, .ref hh, .ref rd, .ref bk, .ref pl, .ref asd, .ref fd, .int (nI wr), .int hi9])), (tw, .inr (3, [.ref tsk, .ref tkd, .ref tmo, .ref tlv, .ref ttc, .ref tts, .ref ttl, .int (nI ttn), .int trg, .long thp, .int (nI tlw)])), (bk, .inl (cW, 6, .inr (.inr (.inr (.inr bkf))))), (q, .inr (2, [.ref qc, .ref qs, .ref qe, .int sz])), (qc, .inl (cI, 160, .inl cd)), (qs, .inl (cI, 160, .inl sq)), (qe, .inl (cI, 3, .inl en)), (asd, .inl (cI, 6, .inl asf))] [(7, .int 1), (6, .int 1), (0, .ref x), (1, .int (nI p)), (2, .int h9), (3, .int sf), (4, .int ws), (5, .int my)] 82 [.int 0]
              refine x_if_ne C dX7_asks_82 (tgt := 88) rfl (fun q9 => absurd q9 (by decide)) (fun _ => ?_)
              refine x_bipush C dX7_asks_85 (v := (-2)) rfl ?_
              refine E dX7_asks_87 (rfl) ?_
              exact ⟨(-2), sq, asf, rfl, rfl, by (unfold o_asks); (repeat' split) <;> first | rfl | contradiction⟩
        ·
          obtain ⟨rfl, rfl, hf30⟩ := h16
          show X 0 0 [(x, .inr (6, [.ref tw, .ref pw, .ref uw, .ref o, .ref hh, .ref rd, .ref bk, .ref pl, .ref asd, .ref fd, .int (nI wr), .int hi9])), (tw, .inr (3, [.ref tsk, .ref tkd, .ref tmo, .ref tlv, .ref ttc, .ref tts, .ref ttl, .int (nI ttn), .int trg, .long thp, .int (nI tlw)])), (bk, .inl (cW, 6, .inr (.inr (.inr (.inr bkf))))), (q, .inr (2, [.ref qc, .ref qs, .ref qe, .int sz])), (qc, .inl (cI, 160, .inl cd)), (qs, .inl (cI, 160, .inl sq)), (qe, .inl (cI, 3, .inl en)), (asd, .inl (cI, 6, .inl asf))] [(6, .int 1), (0, .ref x), (1, .int (nI p)), (2, .int h9), (3, .int sf), (4, .int ws), (5, .int my)] 46 [.int 0]
          refine x_if_eq C dX7_asks_46 (tgt := 61) rfl (fun _ => ?_) (fun q9 => by first | exact absurd q9 (by decide) | exact absurd (by decide) q9)
          refine x_iconst C dX7_asks_61 (v := 0) rfl ?_
          refine x_istore C dX7_asks_62 (by decide) (lv' := [(7, .int 0), (6, .int 1), (0, .ref x), (1, .int (nI p)), (2, .int h9), (3, .int sf), (4, .int ws), (5, .int my)]) rfl ?_
          refine x_iload C dX7_asks_64 1 rfl ?_
          refine x_if_eq C dX7_asks_66 (tgt := 85) rfl (fun q9 => absurd q9 (by decide)) (fun _ => ?_)
          refine x_iload C dX7_asks_69 0 rfl ?_
          refine x_if_eq C dX7_asks_71 (tgt := 85) rfl (fun _ => ?_) (fun q9 => by first | exact absurd q9 (by decide) | exact absurd (by decide) q9)
          refine x_bipush C dX7_asks_85 (v := (-2)) rfl ?_
          refine E dX7_asks_87 (rfl) ?_
          exact ⟨(-2), sq, asf, rfl, rfl, by (unfold o_asks); (repeat' split) <;> first | rfl | contradiction⟩
      ·
        obtain ⟨rfl, rfl, hf31⟩ := h12
        show X 0 0 [(x, .inr (6, [.ref tw, .ref pw, .ref uw, .ref o, .ref hh, .ref rd, .ref bk, .ref pl, .ref asd, .ref fd, .int (nI wr), .int hi9])), (tw, .inr (3, [.ref tsk, .ref tkd, .ref tmo, .ref tlv, .ref ttc, .ref tts, .ref ttl, .int (nI ttn), .int trg, .long thp, .int (nI tlw)])), (bk, .inl (cW, 6, .inr (.inr (.inr (.inr bkf))))), (q, .inr (2, [.ref qc, .ref qs, .ref qe, .int sz])), (qc, .inl (cI, 160, .inl cd)), (qs, .inl (cI, 160, .inl sq)), (qe, .inl (cI, 3, .inl en)), (asd, .inl (cI, 6, .inl asf))] [(0, .ref x), (1, .int (nI p)), (2, .int h9), (3, .int sf), (4, .int ws), (5, .int my)] 29 [.int 0]
        refine x_if_eq C dX7_asks_29 (tgt := 36) rfl (fun _ => ?_) (fun q9 => by first | exact absurd q9 (by decide) | exact absurd (by decide) q9)
        refine x_iconst C dX7_asks_36 (v := 0) rfl ?_
        refine x_istore C dX7_asks_37 (by decide) (lv' := [(6, .int 0), (0, .ref x), (1, .int (nI p)), (2, .int h9), (3, .int sf), (4, .int ws), (5, .int my)]) rfl ?_
        refine x_iload_n C dX7_asks_39 4 rfl ?_
        refine x_iconst C dX7_asks_40 (v := 0) rfl ?_
        refine x_bipush C dX7_asks_41 (v := 91) rfl ?_
        refine x_callS C (As := [.int sf, .int 0, .int 91]) (st := []) (wc := []) (wr := [(x, .inr (6, [.ref tw, .ref pw, .ref uw, .ref o, .ref hh, .ref rd, .ref bk, .ref pl, .ref asd, .ref fd, .int (nI wr), .int hi9])), (tw, .inr (3, [.ref tsk, .ref tkd, .ref tmo, .ref tlv, .ref ttc, .ref tts, .ref ttl, .int (nI ttn), .int trg, .long thp, .int (nI tlw)])), (bk, .inl (cW, 6, .inr (.inr (.inr (.inr bkf))))), (q, .inr (2, [.ref qc, .ref qs, .ref qe, .int sz])), (qc, .inl (cI, 160, .inl cd)), (qs, .inl (cI, 160, .inl sq)), (qe, .inl (cI, 3, .inl en)), (asd, .inl (cI, 6, .inl asf))]) (c_X7_within l dG cI cM cW cS sf 0 91 ) rZ0_ok (fun _ _ _ _ => trivial) kS_X7_92 hy_X7_within ⟨Nat.le_of_ble_eq_true rfl, Nat.le_of_ble_eq_true rfl⟩ ⟨Nat.le_of_ble_eq_true rfl, Nat.le_of_ble_eq_true rfl⟩ dX7_asks_43 [] [0, 1, 2, 3, 4, 5, 6, 7] rfl rfl rfl rfl (by decide) rfl (Nat.le_of_ble_eq_true rfl) ?_
        intro v32 w33 h34
        rcases h34 with h34 | h34
        ·
          obtain ⟨rfl, rfl, hf35⟩ := h34
          show X 0 0 [(x, .inr (6, [.ref tw, .ref pw, .ref uw, .ref o, .ref hh, .ref rd, .ref bk, .ref pl, .ref asd, .ref fd, .int (nI wr), .int hi9])), (tw, .inr (3, [.ref tsk, .ref tkd, .ref tmo, .ref tlv, .ref ttc, .ref tts, .ref ttl, .int (nI ttn), .int trg, .long thp, .int (nI tlw)])), (bk, .inl (cW, 6, .inr (.inr (.inr (.inr bkf))))), (q, .inr (2, [.ref qc, .ref qs, .ref qe, .int sz])), (qc, .inl (cI, 160, .inl cd)), (qs, .inl (cI, 160, .inl sq)), (qe, .inl (cI, 3, .inl en)), (asd, .inl (cI, 6, .inl asf))] [(6, .int 0), (0, .ref x), (1, .int (nI p)), (2, .int h9), (3, .int sf), (4, .int ws), (5, .int my)] 46 [.int 1]
          refine x_if_eq C dX7_asks_46 (tgt := 61) rfl (fun q9 => absurd q9 (by decide)) (fun _ => ?_)
          refine x_iload_n C dX7_asks_49 4 rfl ?_
          refine x_bipush C dX7_asks_50 (v := 10) rfl ?_
          refine x_irem C dX7_asks_52 (by decide) ?_
          refine x_iconst C dX7_asks_53 (v := 1) rfl ?_
          refine x_icmp_gt C dX7_asks_54 (tgt := 61) rfl (fun c36 => ?_) (fun c36 => ?_)
          ·
            have hc9 : 1 < sf - sf / 10 * 10 := c36
            refine x_iconst C dX7_asks_61 (v := 0) rfl ?_
            refine x_istore C dX7_asks_62 (by decide) (lv' := [(7, .int 0), (6, .int 0), (0, .ref x), (1, .int (nI p)), (2, .int h9), (3, .int sf), (4, .int ws), (5, .int my)]) rfl ?_
            refine x_iload C dX7_asks_64 1 rfl ?_
            refine x_if_eq C dX7_asks_66 (tgt := 85) rfl (fun _ => ?_) (fun q9 => by first | exact absurd q9 (by decide) | exact absurd (by decide) q9)
            refine x_bipush C dX7_asks_85 (v := (-2)) rfl ?_
            refine E dX7_asks_87 (rfl) ?_
            exact ⟨(-2), sq, asf, rfl, rfl, by (unfold o_asks); (repeat' split) <;> first | rfl | contradiction⟩
          ·
            have hc9 : ¬ 1 < sf - sf / 10 * 10 := c36
            refine x_iconst C dX7_asks_57 (v := 1) rfl ?_
            refine x_goto C dX7_asks_58 (tgt := 62) rfl ?_
            refine x_istore C dX7_asks_62 (by decide) (lv' := [(7, .int 1), (6, .int 0), (0, .ref x), (1, .int (nI p)), (2, .int h9), (3, .int sf), (4, .int ws), (5, .int my)]) rfl ?_
            refine x_iload C dX7_asks_64 1 rfl ?_
            refine x_if_eq C dX7_asks_66 (tgt := 85) rfl (fun _ => ?_) (fun q9 => by first | exact absurd q9 (by decide) | exact absurd (by decide) q9)
            refine x_bipush C dX7_asks_85 (v := (-2)) rfl ?_
            refine E dX7_asks_87 (rfl) ?_
            exact ⟨(-2), sq, asf, rfl, rfl, by (unfold o_asks); (repeat' split) <;> first | rfl | contradiction⟩
        ·
          obtain ⟨rfl, rfl, hf37⟩ := h34
          show X 0 0 [(x, .inr (6, [.ref tw, .ref pw, .ref uw, .ref o, .ref hh, .ref rd, .ref bk, .ref pl, .ref asd, .ref fd, .int (nI wr), .int hi9])), (tw, .inr (3, [.ref tsk, .ref tkd, .ref tmo, .ref tlv, .ref ttc, .ref tts, .ref ttl, .int (nI ttn), .int trg, .long thp, .int (nI tlw)])), (bk, .inl (cW, 6, .inr (.inr (.inr (.inr bkf))))), (q, .inr (2, [.ref qc, .ref qs, .ref qe, .int sz])), (qc, .inl (cI, 160, .inl cd)), (qs, .inl (cI, 160, .inl sq)), (qe, .inl (cI, 3, .inl en)), (asd, .inl (cI, 6, .inl asf))] [(6, .int 0), (0, .ref x), (1, .int (nI p)), (2, .int h9), (3, .int sf), (4, .int ws), (5, .int my)] 46 [.int 0]
          refine x_if_eq C dX7_asks_46 (tgt := 61) rfl (fun _ => ?_) (fun q9 => by first | exact absurd q9 (by decide) | exact absurd (by decide) q9)
          refine x_iconst C dX7_asks_61 (v := 0) rfl ?_
          refine x_istore C dX7_asks_62 (by decide) (lv' := [(7, .int 0), (6, .int 0), (0, .ref x), (1, .int (nI p)), (2, .int h9), (3, .int sf), (4, .int ws), (5, .int my)]) rfl ?_
          refine x_iload C dX7_asks_64 1 rfl ?_
          refine x_if_eq C dX7_asks_66 (tgt := 85) rfl (fun _ => ?_) (fun q9 => by first | exact absurd q9 (by decide) | exact absurd (by decide) q9)
          refine x_bipush C dX7_asks_85 (v := (-2)) rfl ?_
          refine E dX7_asks_87 (rfl) ?_
          exact ⟨(-2), sq, asf, rfl, rfl, by (unfold o_asks); (repeat' split) <;> first | rfl | contradiction⟩
    ·
      obtain ⟨rfl, rfl, hf38⟩ := h8
      show X 0 0 [(x, .inr (6, [.ref tw, .ref pw, .ref uw, .ref o, .ref hh, .ref rd, .ref bk, .ref pl, .ref asd, .ref fd, .int (nI wr), .int hi9])), (tw, .inr (3, [.ref tsk, .ref tkd, .ref tmo, .ref tlv, .ref ttc, .ref tts, .ref ttl, .int (nI ttn), .int trg, .long thp, .int (nI tlw)])), (bk, .inl (cW, 6, .inr (.inr (.inr (.inr bkf))))), (q, .inr (2, [.ref qc, .ref qs, .ref qe, .int sz])), (qc, .inl (cI, 160, .inl cd)), (qs, .inl (cI, 160, .inl sq)), (qe, .inl (cI, 3, .inl en)), (asd, .inl (cI, 6, .inl asf))] [(0, .ref x), (1, .int (nI p)), (2, .int h9), (3, .int sf), (4, .int ws), (5, .int my)] 17 [.int 0]
      refine x_if_eq C dX7_asks_17 (tgt := 36) rfl (fun _ => ?_) (fun q9 => by first | exact absurd q9 (by decide) | exact absurd (by decide) q9)
      refine x_iconst C dX7_asks_36 (v := 0) rfl ?_
      refine x_istore C dX7_asks_37 (by decide) (lv' := [(6, .int 0), (0, .ref x), (1, .int (nI p)), (2, .int h9), (3, .int sf), (4, .int ws), (5, .int my)]) rfl ?_
      refine x_iload_n C dX7_asks_39 4 rfl ?_
      refine x_iconst C dX7_asks_40 (v := 0) rfl ?_
      refine x_bipush C dX7_asks_41 (v := 91) rfl ?_
      refine x_callS C (As := [.int sf, .int 0, .int 91]) (st := []) (wc := []) (wr := [(x, .inr (6, [.ref tw, .ref pw, .ref uw, .ref o, .ref hh, .ref rd, .ref bk, .ref pl, .ref asd, .ref fd, .int (nI wr), .int hi9])), (tw, .inr (3, [.ref tsk, .ref tkd, .ref tmo, .ref tlv, .ref ttc, .ref tts, .ref ttl, .int (nI ttn), .int trg, .long thp, .int (nI tlw)])), (bk, .inl (cW, 6, .inr (.inr (.inr (.inr bkf))))), (q, .inr (2, [.ref qc, .ref qs, .ref qe, .int sz])), (qc, .inl (cI, 160, .inl cd)), (qs, .inl (cI, 160, .inl sq)), (qe, .inl (cI, 3, .inl en)), (asd, .inl (cI, 6, .inl asf))]) (c_X7_within l dG cI cM cW cS sf 0 91 ) rZ0_ok (fun _ _ _ _ => trivial) kS_X7_92 hy_X7_within ⟨Nat.le_of_ble_eq_true rfl, Nat.le_of_ble_eq_true rfl⟩ ⟨Nat.le_of_ble_eq_true rfl, Nat.le_of_ble_eq_true rfl⟩ dX7_asks_43 [] [0, 1, 2, 3, 4, 5, 6, 7] rfl rfl rfl rfl (by decide) rfl (Nat.le_of_ble_eq_true rfl) ?_
      intro v39 w40 h41
      rcases h41 with h41 | h41
      ·
        obtain ⟨rfl, rfl, hf42⟩ := h41
        show X 0 0 [(x, .inr (6, [.ref tw, .ref pw, .ref uw, .ref o, .ref hh, .ref rd, .ref bk, .ref pl, .ref asd, .ref fd, .int (nI wr), .int hi9])), (tw, .inr (3, [.ref tsk, .ref tkd, .ref tmo, .ref tlv, .ref ttc, .ref tts, .ref ttl, .int (nI ttn), .int trg, .long thp, .int (nI tlw)])), (bk, .inl (cW, 6, .inr (.inr (.inr (.inr bkf))))), (q, .inr (2, [.ref qc, .ref qs, .ref qe, .int sz])), (qc, .inl (cI, 160, .inl cd)), (qs, .inl (cI, 160, .inl sq)), (qe, .inl (cI, 3, .inl en)), (asd, .inl (cI, 6, .inl asf))] [(6, .int 0), (0, .ref x), (1, .int (nI p)), (2, .int h9), (3, .int sf), (4, .int ws), (5, .int my)] 46 [.int 1]
        refine x_if_eq C dX7_asks_46 (tgt := 61) rfl (fun q9 => absurd q9 (by decide)) (fun _ => ?_)
        refine x_iload_n C dX7_asks_49 4 rfl ?_
        refine x_bipush C dX7_asks_50 (v := 10) rfl ?_
        refine x_irem C dX7_asks_52 (by decide) ?_
        refine x_iconst C dX7_asks_53 (v := 1) rfl ?_
        refine x_icmp_gt C dX7_asks_54 (tgt := 61) rfl (fun c43 => ?_) (fun c43 => ?_)
        ·
          have hc9 : 1 < sf - sf / 10 * 10 := c43
          refine x_iconst C dX7_asks_61 (v := 0) rfl ?_
          refine x_istore C dX7_asks_62 (by decide) (lv' := [(7, .int 0), (6, .int 0), (0, .ref x), (1, .int (nI p)), (2, .int h9), (3, .int sf), (4, .int ws), (5, .int my)]) rfl ?_
          refine x_iload C dX7_asks_64 1 rfl ?_
          refine x_if_eq C dX7_asks_66 (tgt := 85) rfl (fun _ => ?_) (fun q9 => by first | exact absurd q9 (by decide) | exact absurd (by decide) q9)
          refine x_bipush C dX7_asks_85 (v := (-2)) rfl ?_
          refine E dX7_asks_87 (rfl) ?_
          exact ⟨(-2), sq, asf, rfl, rfl, by (unfold o_asks); (repeat' split) <;> first | rfl | contradiction⟩
        ·
          have hc9 : ¬ 1 < sf - sf / 10 * 10 := c43
          refine x_iconst C dX7_asks_57 (v := 1) rfl ?_
          refine x_goto C dX7_asks_58 (tgt := 62) rfl ?_
          refine x_istore C dX7_asks_62 (by decide) (lv' := [(7, .int 1), (6, .int 0), (0, .ref x), (1, .int (nI p)), (2, .int h9), (3, .int sf), (4, .int ws), (5, .int my)]) rfl ?_
          refine x_iload C dX7_asks_64 1 rfl ?_
          refine x_if_eq C dX7_asks_66 (tgt := 85) rfl (fun _ => ?_) (fun q9 => by first | exact absurd q9 (by decide) | exact absurd (by decide) q9)
          refine x_bipush C dX7_asks_85 (v := (-2)) rfl ?_
          refine E dX7_asks_87 (rfl) ?_
          exact ⟨(-2), sq, asf, rfl, rfl, by (unfold o_asks); (repeat' split) <;> first | rfl | contradiction⟩
      ·
        obtain ⟨rfl, rfl, hf44⟩ := h41
        show X 0 0 [(x, .inr (6, [.ref tw, .ref pw, .ref uw, .ref o, .ref hh, .ref rd, .ref bk, .ref pl, .ref asd, .ref fd, .int (nI wr), .int hi9])), (tw, .inr (3, [.ref tsk, .ref tkd, .ref tmo, .ref tlv, .ref ttc, .ref tts, .ref ttl, .int (nI ttn), .int trg, .long thp, .int (nI tlw)])), (bk, .inl (cW, 6, .inr (.inr (.inr (.inr bkf))))), (q, .inr (2, [.ref qc, .ref qs, .ref qe, .int sz])), (qc, .inl (cI, 160, .inl cd)), (qs, .inl (cI, 160, .inl sq)), (qe, .inl (cI, 3, .inl en)), (asd, .inl (cI, 6, .inl asf))] [(6, .int 0), (0, .ref x), (1, .int (nI p)), (2, .int h9), (3, .int sf), (4, .int ws), (5, .int my)] 46 [.int 0]
        refine x_if_eq C dX7_asks_46 (tgt := 61) rfl (fun _ => ?_) (fun q9 => by first | exact absurd q9 (by decide) | exact absurd (by decide) q9)
        refine x_iconst C dX7_asks_61 (v := 0) rfl ?_
        refine x_istore C dX7_asks_62 (by decide) (lv' := [(7, .int 0), (6, .int 0), (0, .ref x), (1, .int (nI p)), (2, .int h9), (3, .int sf), (4, .int ws), (5, .int my)]) rfl ?_
        refine x_iload C dX7_asks_64 1 rfl ?_
        refine x_if_eq C dX7_asks_66 (tgt := 85) rfl (fun _ => ?_) (fun q9 => by first | exact absurd q9 (by decide) | exact absurd (by decide) q9)
        refine x_bipush C dX7_asks_85 (v := (-2)) rfl ?_
        refine E dX7_asks_87 (rfl) ?_
        exact ⟨(-2), sq, asf, rfl, rfl, by (unfold o_asks); (repeat' split) <;> first | rfl | contradiction⟩
  ·
    obtain ⟨rfl, rfl, hf45⟩ := h3
    show X 0 0 [(x, .inr (6, [.ref tw, .ref pw, .ref uw, .ref o, .ref hh, .ref rd, .ref bk, .ref pl, .ref asd, .ref fd, .int (nI wr), .int hi9])), (tw, .inr (3, [.ref tsk, .ref tkd, .ref tmo, .ref tlv, .ref ttc, .ref tts, .ref ttl, .int (nI ttn), .int trg, .long thp, .int (nI tlw)])), (bk, .inl (cW, 6, .inr (.inr (.inr (.inr bkf))))), (q, .inr (2, [.ref qc, .ref qs, .ref qe, .int sz])), (qc, .inl (cI, 160, .inl cd)), (qs, .inl (cI, 160, .inl sq)), (qe, .inl (cI, 3, .inl en)), (asd, .inl (cI, 6, .inl asf))] [(0, .ref x), (1, .int p9), (2, .int h9), (3, .int sf), (4, .int ws), (5, .int my)] 6 [.int 0]
    refine x_if_eq C dX7_asks_6 (tgt := 36) rfl (fun _ => ?_) (fun q9 => by first | exact absurd q9 (by decide) | exact absurd (by decide) q9)
    refine x_iconst C dX7_asks_36 (v := 0) rfl ?_
    refine x_istore C dX7_asks_37 (by decide) (lv' := [(6, .int 0), (0, .ref x), (1, .int p9), (2, .int h9), (3, .int sf), (4, .int ws), (5, .int my)]) rfl ?_
    refine x_iload_n C dX7_asks_39 4 rfl ?_
    refine x_iconst C dX7_asks_40 (v := 0) rfl ?_
    refine x_bipush C dX7_asks_41 (v := 91) rfl ?_
    refine x_callS C (As := [.int sf, .int 0, .int 91]) (st := []) (wc := []) (wr := [(x, .inr (6, [.ref tw, .ref pw, .ref uw, .ref o, .ref hh, .ref rd, .ref bk, .ref pl, .ref asd, .ref fd, .int (nI wr), .int hi9])), (tw, .inr (3, [.ref tsk, .ref tkd, .ref tmo, .ref tlv, .ref ttc, .ref tts, .ref ttl, .int (nI ttn), .int trg, .long thp, .int (nI tlw)])), (bk, .inl (cW, 6, .inr (.inr (.inr (.inr bkf))))), (q, .inr (2, [.ref qc, .ref qs, .ref qe, .int sz])), (qc, .inl (cI, 160, .inl cd)), (qs, .inl (cI, 160, .inl sq)), (qe, .inl (cI, 3, .inl en)), (asd, .inl (cI, 6, .inl asf))]) (c_X7_within l dG cI cM cW cS sf 0 91 ) rZ0_ok (fun _ _ _ _ => trivial) kS_X7_92 hy_X7_within ⟨Nat.le_of_ble_eq_true rfl, Nat.le_of_ble_eq_true rfl⟩ ⟨Nat.le_of_ble_eq_true rfl, Nat.le_of_ble_eq_true rfl⟩ dX7_asks_43 [] [0, 1, 2, 3, 4, 5, 6, 7] rfl rfl rfl rfl (by decide) rfl (Nat.le_of_ble_eq_true rfl) ?_
    intro v46 w47 h48
    rcases h48 with h48 | h48
    ·
      obtain ⟨rfl, rfl, hf49⟩ := h48
      show X 0 0 [(x, .inr (6, [.ref tw, .ref pw, .ref uw, .ref o, .ref hh, .ref rd, .ref bk, .ref pl, .ref asd, .ref fd, .int (nI wr), .int hi9])), (tw, .inr (3, [.ref tsk, .ref tkd, .ref tmo, .ref tlv, .ref ttc, .ref tts, .ref ttl, .int (nI ttn), .int trg, .long thp, .int (nI tlw)])), (bk, .inl (cW, 6, .inr (.inr (.inr (.inr bkf))))), (q, .inr (2, [.ref qc, .ref qs, .ref qe, .int sz])), (qc, .inl (cI, 160, .inl cd)), (qs, .inl (cI, 160, .inl sq)), (qe, .inl (cI, 3, .inl en)), (asd, .inl (cI, 6, .inl asf))] [(6, .int 0), (0, .ref x), (1, .int p9), (2, .int h9), (3, .int sf), (4, .int ws), (5, .int my)] 46 [.int 1]
      refine x_if_eq C dX7_asks_46 (tgt := 61) rfl (fun q9 => absurd q9 (by decide)) (fun _ => ?_)
      refine x_iload_n C dX7_asks_49 4 rfl ?_
      refine x_bipush C dX7_asks_50 (v := 10) rfl ?_
      refine x_irem C dX7_asks_52 (by decide) ?_
      refine x_iconst C dX7_asks_53 (v := 1) rfl ?_
      refine x_icmp_gt C dX7_asks_54 (tgt := 61) rfl (fun c50 => ?_) (fun c50 => ?_)
      ·
        have hc9 : 1 < sf - sf / 10 * 10 := c50
        refine x_iconst C dX7_asks_61 (v := 0) rfl ?_
        refine x_istore C dX7_asks_62 (by decide) (lv' := [(7, .int 0), (6, .int 0), (0, .ref x), (1, .int p9), (2, .int h9), (3, .int sf), (4, .int ws), (5, .int my)]) rfl ?_
        refine x_iload C dX7_asks_64 1 rfl ?_
        refine x_if_eq C dX7_asks_66 (tgt := 85) rfl (fun _ => ?_) (fun q9 => by first | exact absurd q9 (by decide) | exact absurd (by decide) q9)
        refine x_bipush C dX7_asks_85 (v := (-2)) rfl ?_
        refine E dX7_asks_87 (rfl) ?_
        exact ⟨(-2), sq, asf, rfl, rfl, by (unfold o_asks); (repeat' split) <;> first | rfl | contradiction⟩
      ·
        have hc9 : ¬ 1 < sf - sf / 10 * 10 := c50
        refine x_iconst C dX7_asks_57 (v := 1) rfl ?_
        refine x_goto C dX7_asks_58 (tgt := 62) rfl ?_
        refine x_istore C dX7_asks_62 (by decide) (lv' := [(7, .int 1), (6, .int 0), (0, .ref x), (1, .int p9), (2, .int h9), (3, .int sf), (4, .int ws), (5, .int my)]) rfl ?_
        refine x_iload C dX7_asks_64 1 rfl ?_
        refine x_if_eq C dX7_asks_66 (tgt := 85) rfl (fun _ => ?_) (fun q9 => by first | exact absurd q9 (by decide) | exact absurd (by decide) q9)
        refine x_bipush C dX7_asks_85 (v := (-2)) rfl ?_
        refine E dX7_asks_87 (rfl) ?_
        exact ⟨(-2), sq, asf, rfl, rfl, by (unfold o_asks); (repeat' split) <;> first | rfl | contradiction⟩
    ·
      obtain ⟨rfl, rfl, hf51⟩ := h48
      show X 0 0 [(x, .inr (6, [.ref tw, .ref pw, .ref uw, .ref o, .ref hh, .ref rd, .ref bk, .ref pl, .ref asd, .ref fd, .int (nI wr), .int hi9])), (tw, .inr (3, [.ref tsk, .ref tkd, .ref tmo, .ref tlv, .ref ttc, .ref tts, .ref ttl, .int (nI ttn), .int trg, .long thp, .int (nI tlw)])), (bk, .inl (cW, 6, .inr (.inr (.inr (.inr bkf))))), (q, .inr (2, [.ref qc, .ref qs, .ref qe, .int sz])), (qc, .inl (cI, 160, .inl cd)), (qs, .inl (cI, 160, .inl sq)), (qe, .inl (cI, 3, .inl en)), (asd, .inl (cI, 6, .inl asf))] [(6, .int 0), (0, .ref x), (1, .int p9), (2, .int h9), (3, .int sf), (4, .int ws), (5, .int my)] 46 [.int 0]
      refine x_if_eq C dX7_asks_46 (tgt := 61) rfl (fun _ => ?_) (fun q9 => by first | exact absurd q9 (by decide) | exact absurd (by decide) q9)
      refine x_iconst C dX7_asks_61 (v := 0) rfl ?_
      refine x_istore C dX7_asks_62 (by decide) (lv' := [(7, .int 0), (6, .int 0), (0, .ref x), (1, .int p9), (2, .int h9), (3, .int sf), (4, .int ws), (5, .int my)]) rfl ?_
      refine x_iload C dX7_asks_64 1 rfl ?_
      refine x_if_eq C dX7_asks_66 (tgt := 85) rfl (fun _ => ?_) (fun q9 => by first | exact absurd q9 (by decide) | exact absurd (by decide) q9)
      refine x_bipush C dX7_asks_85 (v := (-2)) rfl ?_
      refine E dX7_asks_87 (rfl) ?_
      exact ⟨(-2), sq, asf, rfl, rfl, by (unfold o_asks); (repeat' split) <;> first | rfl | contradiction⟩
