theorem nw_X0_68 : (RX0, 68, "LeavesBeforeWind$Lawn", "sky", "[[I", "LeavesBeforeWind") ∈ NWF := List.mem_of_getElem? (i := 28) rfl
theorem nw_X0_55 : (RX0, 55, "LeavesBeforeWind$Lawn", "trees", "I", "LeavesBeforeWind") ∈ NWF := List.mem_of_getElem? (i := 27) rfl
theorem nw_X0_107 : (RX0, 107, "LeavesBeforeWind$Lawn", "treeSort", "[I", "LeavesBeforeWind") ∈ NWF := List.mem_of_getElem? (i := 21) rfl
theorem nw_X0_122 : (RX0, 122, "LeavesBeforeWind$Lawn", "treeCell", "[I", "LeavesBeforeWind") ∈ NWF := List.mem_of_getElem? (i := 22) rfl
set_option maxHeartbeats 4000000 in
set_option maxRecDepth 100000 in
theorem c_X0_shed (l : Launch) (dG : va_G) (cI cM cW cS : ClassId) (o ly l0 l1 bl b0 b1 cv hg fl of_ nm : Nat) (rt rk ct : Int32) (w sk kd mo lv tc ts tl s0 s1 s2 s3 : Nat) (tn lw : Nat) (rg : Int32) (hp : Int64) (q qc qs qe : Nat) (sz : Int32) (cd sq en : Nat → Int32) (T : sT) (D W H0 F0 N0 R1 R2 R3 tsf : Nat → Int32) (tk : Nat → Nat) (d : Nat)  (hd9 : d < 14) (htn : tn ≤ 4) (htk : ∀ t, t < tn → tk t < 36) (hok : s_ok T) (hL : s_law cd en T) : rM l yX0_shed cX0_shed 7 none ({ frames := 3, cells := 0, slots := 0, locals := 67 } : Room) dG (tY cI cM cW cS) rZ0 [.ref o, .ref w, .ref q, .int (nI d)] [(o, .inr (0, [.ref ly, .ref bl, .ref cv, .ref hg, .ref fl, .ref of_, .ref nm, .int rt, .int rk, .int ct])), (ly, .inl (cM, 2, .inr (.inr (.inr (.inr (rr2 l0 l1)))))), (l0, .inl (cI, 36, .inl D)), (l1, .inl (cI, 36, .inl W)), (hg, .inl (cI, 4, .inl H0)), (fl, .inl (cI, 14, .inl F0)), (nm, .inl (cI, 6, .inl N0)), (q, .inr (2, [.ref qc, .ref qs, .ref qe, .int sz])), (qc, .inl (cI, 160, .inl cd)), (qs, .inl (cI, 160, .inl sq)), (qe, .inl (cI, 3, .inl en)), (w, .inr (3, [.ref sk, .ref kd, .ref mo, .ref lv, .ref tc, .ref ts, .ref tl, .int (nI tn), .int rg, .long hp, .int (nI lw)])), (sk, .inl (cM, 4, .inr (.inr (.inr (.inr (rr4 s0 s1 s2 s3)))))), (s1, .inl (cI, 14, .inl R1)), (s2, .inl (cI, 14, .inl R2)), (s3, .inl (cI, 14, .inl R3)), (tc, .inl (cI, 4, .inl (nIf tk))), (ts, .inl (cI, 4, .inl tsf))] (fun ov oz => ∃ (N0' : Nat → Int32) (sq' : Nat → Int32), ov = none ∧ oz = [(o, .inr (0, [.ref ly, .ref bl, .ref cv, .ref hg, .ref fl, .ref of_, .ref nm, .int rt, .int rk, .int ct])), (ly, .inl (cM, 2, .inr (.inr (.inr (.inr (rr2 l0 l1)))))), (l0, .inl (cI, 36, .inl (s_dropD (R3 d) tk (s_k T (R1 d) (R2 d) (R3 d) tsf H0) D tn))), (l1, .inl (cI, 36, .inl (s_dropW (R3 d) tk (s_k T (R1 d) (R2 d) (R3 d) tsf H0) W tn))), (hg, .inl (cI, 4, .inl (s_left tn (s_k T (R1 d) (R2 d) (R3 d) tsf H0) H0))), (fl, .inl (cI, 14, .inl (upd F0 d (s_acc (F0 d) (s_k T (R1 d) (R2 d) (R3 d) tsf H0) tn)))), (nm, .inl (cI, 6, .inl N0')), (q, .inr (2, [.ref qc, .ref qs, .ref qe, .int sz])), (qc, .inl (cI, 160, .inl cd)), (qs, .inl (cI, 160, .inl sq')), (qe, .inl (cI, 3, .inl en)), (w, .inr (3, [.ref sk, .ref kd, .ref mo, .ref lv, .ref tc, .ref ts, .ref tl, .int (nI tn), .int rg, .long hp, .int (nI lw)])), (sk, .inl (cM, 4, .inr (.inr (.inr (.inr (rr4 s0 s1 s2 s3)))))), (s1, .inl (cI, 14, .inl R1)), (s2, .inl (cI, 14, .inl R2)), (s3, .inl (cI, 14, .inl R3)), (tc, .inl (cI, 4, .inl (nIf tk))), (ts, .inl (cI, 4, .inl tsf))] ∧ True) := by
  refine rM_ofV false (by intro h; cases h) rfl (Nat.le_of_ble_eq_true rfl) rfl (fun X C E => ?_)
  show X 0 0 [(o, .inr (0, [.ref ly, .ref bl, .ref cv, .ref hg, .ref fl, .ref of_, .ref nm, .int rt, .int rk, .int ct])), (ly, .inl (cM, 2, .inr (.inr (.inr (.inr (rr2 l0 l1)))))), (l0, .inl (cI, 36, .inl D)), (l1, .inl (cI, 36, .inl W)), (hg, .inl (cI, 4, .inl H0)), (fl, .inl (cI, 14, .inl F0)), (nm, .inl (cI, 6, .inl N0)), (q, .inr (2, [.ref qc, .ref qs, .ref qe, .int sz])), (qc, .inl (cI, 160, .inl cd)), (qs, .inl (cI, 160, .inl sq)), (qe, .inl (cI, 3, .inl en)), (w, .inr (3, [.ref sk, .ref kd, .ref mo, .ref lv, .ref tc, .ref ts, .ref tl, .int (nI tn), .int rg, .long hp, .int (nI lw)])), (sk, .inl (cM, 4, .inr (.inr (.inr (.inr (rr4 s0 s1 s2 s3)))))), (s1, .inl (cI, 14, .inl R1)), (s2, .inl (cI, 14, .inl R2)), (s3, .inl (cI, 14, .inl R3)), (tc, .inl (cI, 4, .inl (nIf tk))), (ts, .inl (cI, 4, .inl tsf))] [(0, .ref o), (1, .ref w), (2, .ref q), (3, .int (nI d))] 0 []
  refine x_aload_n C dX0_shed_0 1 rfl ?_
  refine x_getN C inlX4 rfl 0 (by decide) nw_X0_68 dX0_shed_1 11 rfl rfl ?_
  refine x_iconst C dX0_shed_4 (v := 3) rfl ?_
  refine x_aaloadA C 1 rfl dX0_shed_5 3 rfl (q_ix (rfl : (3 : Int32) = nI 3) (by decide) (by decide)) 12 rfl rfl ?_
  refine x_iload_n C dX0_shed_6 3 rfl ?_
  refine x_iaload C 0 rfl dX0_shed_7 d (q_cl rfl (by omega)) (q_ix rfl (by omega) (by omega)) 15 rfl ?_
  refine x_istore C dX0_shed_8 (by decide) (lv' := [(4, .int (R3 d)), (0, .ref o), (1, .ref w), (2, .ref q), (3, .int (nI d))]) rfl ?_
  refine x_aload_n C dX0_shed_10 1 rfl ?_
  refine x_get C inlX0 rfl 6 (by decide) gw_3_17 dX0_shed_11 0 rfl rfl ?_
  refine x_iconst C dX0_shed_14 (v := 1) rfl ?_
  show X _ _ _ _ 15 _
  refine x_aload_n C dX0_shed_15 2 rfl ?_
  refine x_getN C inlX4 rfl 0 (by decide) nw_X0_68 dX0_shed_16 11 rfl rfl ?_
  refine x_iconst C dX0_shed_19 (v := 1) rfl ?_
  refine x_aaloadA C 1 rfl dX0_shed_20 1 rfl (q_ix (rfl : (1 : Int32) = nI 1) (by decide) (by decide)) 12 rfl rfl ?_
  refine x_iload_n C dX0_shed_21 4 rfl ?_
  refine x_iaload C 0 rfl dX0_shed_22 d (q_cl rfl (by omega)) (q_ix rfl (by omega) (by omega)) 13 rfl ?_
  refine x_iastore C 0 rfl dX0_shed_23 1 rfl (q_ix (rfl : (1 : Int32) = nI 1) (by decide) (by decide)) 6 rfl ?_
  show X _ _ [(o, .inr (0, [.ref ly, .ref bl, .ref cv, .ref hg, .ref fl, .ref of_, .ref nm, .int rt, .int rk, .int ct])), (ly, .inl (cM, 2, .inr (.inr (.inr (.inr (rr2 l0 l1)))))), (l0, .inl (cI, 36, .inl D)), (l1, .inl (cI, 36, .inl W)), (hg, .inl (cI, 4, .inl H0)), (fl, .inl (cI, 14, .inl F0)), (nm, .inl (cI, 6, .inl (upd N0 1 (R1 d)))), (q, .inr (2, [.ref qc, .ref qs, .ref qe, .int sz])), (qc, .inl (cI, 160, .inl cd)), (qs, .inl (cI, 160, .inl sq)), (qe, .inl (cI, 3, .inl en)), (w, .inr (3, [.ref sk, .ref kd, .ref mo, .ref lv, .ref tc, .ref ts, .ref tl, .int (nI tn), .int rg, .long hp, .int (nI lw)])), (sk, .inl (cM, 4, .inr (.inr (.inr (.inr (rr4 s0 s1 s2 s3)))))), (s1, .inl (cI, 14, .inl R1)), (s2, .inl (cI, 14, .inl R2)), (s3, .inl (cI, 14, .inl R3)), (tc, .inl (cI, 4, .inl (nIf tk))), (ts, .inl (cI, 4, .inl tsf))] _ _ _
  refine x_aload_n C dX0_shed_24 1 rfl ?_
  refine x_get C inlX0 rfl 6 (by decide) gw_3_17 dX0_shed_25 0 rfl rfl ?_
  refine x_iconst C dX0_shed_28 (v := 2) rfl ?_
  show X _ _ _ _ 29 _
  refine x_aload_n C dX0_shed_29 2 rfl ?_
  refine x_getN C inlX4 rfl 0 (by decide) nw_X0_68 dX0_shed_30 11 rfl rfl ?_
  refine x_iconst C dX0_shed_33 (v := 2) rfl ?_
  refine x_aaloadA C 1 rfl dX0_shed_34 2 rfl (q_ix (rfl : (2 : Int32) = nI 2) (by decide) (by decide)) 12 rfl rfl ?_
  refine x_iload_n C dX0_shed_35 4 rfl ?_
  refine x_iaload C 0 rfl dX0_shed_36 d (q_cl rfl (by omega)) (q_ix rfl (by omega) (by omega)) 14 rfl ?_
  refine x_iastore C 0 rfl dX0_shed_37 2 rfl (q_ix (rfl : (2 : Int32) = nI 2) (by decide) (by decide)) 6 rfl ?_
  show X _ _ [(o, .inr (0, [.ref ly, .ref bl, .ref cv, .ref hg, .ref fl, .ref of_, .ref nm, .int rt, .int rk, .int ct])), (ly, .inl (cM, 2, .inr (.inr (.inr (.inr (rr2 l0 l1)))))), (l0, .inl (cI, 36, .inl D)), (l1, .inl (cI, 36, .inl W)), (hg, .inl (cI, 4, .inl H0)), (fl, .inl (cI, 14, .inl F0)), (nm, .inl (cI, 6, .inl (upd (upd N0 1 (R1 d)) 2 (R2 d)))), (q, .inr (2, [.ref qc, .ref qs, .ref qe, .int sz])), (qc, .inl (cI, 160, .inl cd)), (qs, .inl (cI, 160, .inl sq)), (qe, .inl (cI, 3, .inl en)), (w, .inr (3, [.ref sk, .ref kd, .ref mo, .ref lv, .ref tc, .ref ts, .ref tl, .int (nI tn), .int rg, .long hp, .int (nI lw)])), (sk, .inl (cM, 4, .inr (.inr (.inr (.inr (rr4 s0 s1 s2 s3)))))), (s1, .inl (cI, 14, .inl R1)), (s2, .inl (cI, 14, .inl R2)), (s3, .inl (cI, 14, .inl R3)), (tc, .inl (cI, 4, .inl (nIf tk))), (ts, .inl (cI, 4, .inl tsf))] _ _ _
  refine x_aload_n C dX0_shed_38 1 rfl ?_
  refine x_get C inlX0 rfl 6 (by decide) gw_3_17 dX0_shed_39 0 rfl rfl ?_
  refine x_iconst C dX0_shed_42 (v := 3) rfl ?_
  show X _ _ _ _ 43 _
  refine x_iload C dX0_shed_43 0 rfl ?_
  refine x_iastore C 0 rfl dX0_shed_45 3 rfl (q_ix (rfl : (3 : Int32) = nI 3) (by decide) (by decide)) 6 rfl ?_
  show X _ _ [(o, .inr (0, [.ref ly, .ref bl, .ref cv, .ref hg, .ref fl, .ref of_, .ref nm, .int rt, .int rk, .int ct])), (ly, .inl (cM, 2, .inr (.inr (.inr (.inr (rr2 l0 l1)))))), (l0, .inl (cI, 36, .inl D)), (l1, .inl (cI, 36, .inl W)), (hg, .inl (cI, 4, .inl H0)), (fl, .inl (cI, 14, .inl F0)), (nm, .inl (cI, 6, .inl (upd (upd (upd N0 1 (R1 d)) 2 (R2 d)) 3 (R3 d)))), (q, .inr (2, [.ref qc, .ref qs, .ref qe, .int sz])), (qc, .inl (cI, 160, .inl cd)), (qs, .inl (cI, 160, .inl sq)), (qe, .inl (cI, 3, .inl en)), (w, .inr (3, [.ref sk, .ref kd, .ref mo, .ref lv, .ref tc, .ref ts, .ref tl, .int (nI tn), .int rg, .long hp, .int (nI lw)])), (sk, .inl (cM, 4, .inr (.inr (.inr (.inr (rr4 s0 s1 s2 s3)))))), (s1, .inl (cI, 14, .inl R1)), (s2, .inl (cI, 14, .inl R2)), (s3, .inl (cI, 14, .inl R3)), (tc, .inl (cI, 4, .inl (nIf tk))), (ts, .inl (cI, 4, .inl tsf))] _ _ _
  refine x_aload_n C dX0_shed_46 1 rfl ?_
  refine x_get C inlX0 rfl 6 (by decide) gw_3_17 dX0_shed_47 0 rfl rfl ?_
  refine x_iconst C dX0_shed_50 (v := 5) rfl ?_
  refine x_iconst C dX0_shed_51 (v := 0) rfl ?_
  refine x_iastore C 0 rfl dX0_shed_52 5 rfl (q_ix (rfl : (5 : Int32) = nI 5) (by decide) (by decide)) 6 rfl ?_
  show X _ _ [(o, .inr (0, [.ref ly, .ref bl, .ref cv, .ref hg, .ref fl, .ref of_, .ref nm, .int rt, .int rk, .int ct])), (ly, .inl (cM, 2, .inr (.inr (.inr (.inr (rr2 l0 l1)))))), (l0, .inl (cI, 36, .inl D)), (l1, .inl (cI, 36, .inl W)), (hg, .inl (cI, 4, .inl H0)), (fl, .inl (cI, 14, .inl F0)), (nm, .inl (cI, 6, .inl (upd (upd (upd (upd N0 1 (R1 d)) 2 (R2 d)) 3 (R3 d)) 5 0))), (q, .inr (2, [.ref qc, .ref qs, .ref qe, .int sz])), (qc, .inl (cI, 160, .inl cd)), (qs, .inl (cI, 160, .inl sq)), (qe, .inl (cI, 3, .inl en)), (w, .inr (3, [.ref sk, .ref kd, .ref mo, .ref lv, .ref tc, .ref ts, .ref tl, .int (nI tn), .int rg, .long hp, .int (nI lw)])), (sk, .inl (cM, 4, .inr (.inr (.inr (.inr (rr4 s0 s1 s2 s3)))))), (s1, .inl (cI, 14, .inl R1)), (s2, .inl (cI, 14, .inl R2)), (s3, .inl (cI, 14, .inl R3)), (tc, .inl (cI, 4, .inl (nIf tk))), (ts, .inl (cI, 4, .inl tsf))] _ _ _
  refine x_iconst C dX0_shed_53 (v := 0) rfl ?_
  refine x_istore C dX0_shed_54 (by decide) (lv' := [(5, .int 0), (4, .int (R3 d)), (0, .ref o), (1, .ref w), (2, .ref q), (3, .int (nI d))]) rfl ?_
  have L56_0 : ∀ (fuel : Nat) (t : Nat) (g D1 W1 N1 F1 sq : Nat → Int32), (ht : t ≤ tn) → (hh : ∀ j, g j = if j < t then (fun t => H0 t - s_k T (R1 d) (R2 d) (R3 d) tsf H0 t) j else H0 j) → (hF : F1 = upd F0 d (s_acc (F0 d) (s_k T (R1 d) (R2 d) (R3 d) tsf H0) t)) → (hD : D1 = s_dropD (R3 d) tk (s_k T (R1 d) (R2 d) (R3 d) tsf H0) D t) → (hW : W1 = s_dropW (R3 d) tk (s_k T (R1 d) (R2 d) (R3 d) tsf H0) W t) → (hn1 : N1 1 = R1 d) → (hn2 : N1 2 = R2 d) → (hn3 : N1 3 = R3 d) → (hn5 : N1 5 = 0) → tn - t < fuel → X 0 0 [(o, .inr (0, [.ref ly, .ref bl, .ref cv, .ref hg, .ref fl, .ref of_, .ref nm, .int rt, .int rk, .int ct])), (ly, .inl (cM, 2, .inr (.inr (.inr (.inr (rr2 l0 l1)))))), (l0, .inl (cI, 36, .inl D1)), (l1, .inl (cI, 36, .inl W1)), (hg, .inl (cI, 4, .inl g)), (fl, .inl (cI, 14, .inl F1)), (nm, .inl (cI, 6, .inl N1)), (q, .inr (2, [.ref qc, .ref qs, .ref qe, .int sz])), (qc, .inl (cI, 160, .inl cd)), (qs, .inl (cI, 160, .inl sq)), (qe, .inl (cI, 3, .inl en)), (w, .inr (3, [.ref sk, .ref kd, .ref mo, .ref lv, .ref tc, .ref ts, .ref tl, .int (nI tn), .int rg, .long hp, .int (nI lw)])), (sk, .inl (cM, 4, .inr (.inr (.inr (.inr (rr4 s0 s1 s2 s3)))))), (s1, .inl (cI, 14, .inl R1)), (s2, .inl (cI, 14, .inl R2)), (s3, .inl (cI, 14, .inl R3)), (tc, .inl (cI, 4, .inl (nIf tk))), (ts, .inl (cI, 4, .inl tsf))] [(5, .int (nI t)), (4, .int (R3 d)), (3, .int (nI d)), (2, .ref q), (1, .ref w), (0, .ref o)] 56 [] := by
    intro fuel
    induction fuel with
    | zero => intros; omega
    | succ fuel ihL56_0 =>
      intro t g D1 W1 N1 F1 sq ht hh hF hD hW hn1 hn2 hn3 hn5 hfu
      refine x_iload C dX0_shed_56 0 rfl ?_
      refine x_aload_n C dX0_shed_58 4 rfl ?_
      refine x_getN C inlX4 rfl 7 (by decide) nw_X0_55 dX0_shed_59 11 rfl rfl ?_
      refine x_icmp_ge C dX0_shed_62 (tgt := 170) rfl (fun c2 => ?_) (fun c2 => ?_)
      ·
        have c2 : t ≥ tn := q_ge_t rfl rfl (by omega) (by omega) c2
        rw [show t = tn by omega] at hh hF hD hW
        refine x_arr C 4 rfl (s_left tn (s_k T (R1 d) (R2 d) (R3 d) tsf H0) H0) (fun j hj => hh j) ?_
        show X _ _ [(o, .inr (0, [.ref ly, .ref bl, .ref cv, .ref hg, .ref fl, .ref of_, .ref nm, .int rt, .int rk, .int ct])), (ly, .inl (cM, 2, .inr (.inr (.inr (.inr (rr2 l0 l1)))))), (l0, .inl (cI, 36, .inl D1)), (l1, .inl (cI, 36, .inl W1)), (hg, .inl (cI, 4, .inl (s_left tn (s_k T (R1 d) (R2 d) (R3 d) tsf H0) H0))), (fl, .inl (cI, 14, .inl F1)), (nm, .inl (cI, 6, .inl N1)), (q, .inr (2, [.ref qc, .ref qs, .ref qe, .int sz])), (qc, .inl (cI, 160, .inl cd)), (qs, .inl (cI, 160, .inl sq)), (qe, .inl (cI, 3, .inl en)), (w, .inr (3, [.ref sk, .ref kd, .ref mo, .ref lv, .ref tc, .ref ts, .ref tl, .int (nI tn), .int rg, .long hp, .int (nI lw)])), (sk, .inl (cM, 4, .inr (.inr (.inr (.inr (rr4 s0 s1 s2 s3)))))), (s1, .inl (cI, 14, .inl R1)), (s2, .inl (cI, 14, .inl R2)), (s3, .inl (cI, 14, .inl R3)), (tc, .inl (cI, 4, .inl (nIf tk))), (ts, .inl (cI, 4, .inl tsf))] _ _ _
        subst hF hD hW
        refine E dX0_shed_170 ?_
        exact ⟨N1, sq, rfl, rfl, by trivial⟩
      ·
        have c2 : t < tn := q_ge_f rfl rfl (by omega) (by omega) c2
        have htk2 := htk t (by omega)
        refine x_aload_n C dX0_shed_65 5 rfl ?_
        refine x_get C inlX0 rfl 6 (by decide) gw_3_17 dX0_shed_66 0 rfl rfl ?_
        refine x_iconst C dX0_shed_69 (v := 0) rfl ?_
        refine x_aload_n C dX0_shed_70 5 rfl ?_
        refine x_get C inlX0 rfl 3 (by decide) gw_3_14 dX0_shed_71 0 rfl rfl ?_
        refine x_iload C dX0_shed_74 0 rfl ?_
        refine x_iaload C 0 rfl dX0_shed_76 t (q_cl rfl (by omega)) (q_ix rfl (by omega) (by omega)) 4 rfl ?_
        refine x_iastore C 0 rfl dX0_shed_77 0 rfl (q_ix (rfl : (0 : Int32) = nI 0) (by decide) (by decide)) 6 rfl ?_
        show X _ _ [(o, .inr (0, [.ref ly, .ref bl, .ref cv, .ref hg, .ref fl, .ref of_, .ref nm, .int rt, .int rk, .int ct])), (ly, .inl (cM, 2, .inr (.inr (.inr (.inr (rr2 l0 l1)))))), (l0, .inl (cI, 36, .inl D1)), (l1, .inl (cI, 36, .inl W1)), (hg, .inl (cI, 4, .inl g)), (fl, .inl (cI, 14, .inl F1)), (nm, .inl (cI, 6, .inl (upd N1 0 (g t)))), (q, .inr (2, [.ref qc, .ref qs, .ref qe, .int sz])), (qc, .inl (cI, 160, .inl cd)), (qs, .inl (cI, 160, .inl sq)), (qe, .inl (cI, 3, .inl en)), (w, .inr (3, [.ref sk, .ref kd, .ref mo, .ref lv, .ref tc, .ref ts, .ref tl, .int (nI tn), .int rg, .long hp, .int (nI lw)])), (sk, .inl (cM, 4, .inr (.inr (.inr (.inr (rr4 s0 s1 s2 s3)))))), (s1, .inl (cI, 14, .inl R1)), (s2, .inl (cI, 14, .inl R2)), (s3, .inl (cI, 14, .inl R3)), (tc, .inl (cI, 4, .inl (nIf tk))), (ts, .inl (cI, 4, .inl tsf))] _ _ _
        refine x_aload_n C dX0_shed_78 5 rfl ?_
        refine x_get C inlX0 rfl 6 (by decide) gw_3_17 dX0_shed_79 0 rfl rfl ?_
        show X _ _ _ _ 82 _
        refine x_iconst C dX0_shed_82 (v := 4) rfl ?_
        refine x_aload_n C dX0_shed_83 4 rfl ?_
        refine x_getN C inlX4 rfl 5 (by decide) nw_X0_107 dX0_shed_84 11 rfl rfl ?_
        refine x_iload C dX0_shed_87 0 rfl ?_
        refine x_iaload C 0 rfl dX0_shed_89 t (q_cl rfl (by omega)) (q_ix rfl (by omega) (by omega)) 17 rfl ?_
        refine x_iastore C 0 rfl dX0_shed_90 4 rfl (q_ix (rfl : (4 : Int32) = nI 4) (by decide) (by decide)) 6 rfl ?_
        show X _ _ [(o, .inr (0, [.ref ly, .ref bl, .ref cv, .ref hg, .ref fl, .ref of_, .ref nm, .int rt, .int rk, .int ct])), (ly, .inl (cM, 2, .inr (.inr (.inr (.inr (rr2 l0 l1)))))), (l0, .inl (cI, 36, .inl D1)), (l1, .inl (cI, 36, .inl W1)), (hg, .inl (cI, 4, .inl g)), (fl, .inl (cI, 14, .inl F1)), (nm, .inl (cI, 6, .inl (upd (upd N1 0 (g t)) 4 (tsf t)))), (q, .inr (2, [.ref qc, .ref qs, .ref qe, .int sz])), (qc, .inl (cI, 160, .inl cd)), (qs, .inl (cI, 160, .inl sq)), (qe, .inl (cI, 3, .inl en)), (w, .inr (3, [.ref sk, .ref kd, .ref mo, .ref lv, .ref tc, .ref ts, .ref tl, .int (nI tn), .int rg, .long hp, .int (nI lw)])), (sk, .inl (cM, 4, .inr (.inr (.inr (.inr (rr4 s0 s1 s2 s3)))))), (s1, .inl (cI, 14, .inl R1)), (s2, .inl (cI, 14, .inl R2)), (s3, .inl (cI, 14, .inl R3)), (tc, .inl (cI, 4, .inl (nIf tk))), (ts, .inl (cI, 4, .inl tsf))] _ _ _
        refine x_aload_n C dX0_shed_91 5 rfl ?_
        refine x_get C inlX0 rfl 3 (by decide) gw_3_14 dX0_shed_92 0 rfl rfl ?_
        refine x_iload C dX0_shed_95 0 rfl ?_
        refine x_iaload C 0 rfl dX0_shed_97 t (q_cl rfl (by omega)) (q_ix rfl (by omega) (by omega)) 4 rfl ?_
        show X _ _ _ _ 98 _
        refine x_aload_n C dX0_shed_98 3 rfl ?_
        refine x_iconst C dX0_shed_99 (v := 0) rfl ?_
        refine x_aload_n C dX0_shed_100 5 rfl ?_
        refine x_get C inlX0 rfl 6 (by decide) gw_3_17 dX0_shed_101 0 rfl rfl ?_
        refine x_arr C 6 rfl (s_nm (H0 t) (R1 d) (R2 d) (R3 d) (tsf t) 0) (q_nms (q_at hh) hn1 hn2 hn3 rfl hn5) ?_
        show X _ _ [(o, .inr (0, [.ref ly, .ref bl, .ref cv, .ref hg, .ref fl, .ref of_, .ref nm, .int rt, .int rk, .int ct])), (ly, .inl (cM, 2, .inr (.inr (.inr (.inr (rr2 l0 l1)))))), (l0, .inl (cI, 36, .inl D1)), (l1, .inl (cI, 36, .inl W1)), (hg, .inl (cI, 4, .inl g)), (fl, .inl (cI, 14, .inl F1)), (nm, .inl (cI, 6, .inl (s_nm (H0 t) (R1 d) (R2 d) (R3 d) (tsf t) 0))), (q, .inr (2, [.ref qc, .ref qs, .ref qe, .int sz])), (qc, .inl (cI, 160, .inl cd)), (qs, .inl (cI, 160, .inl sq)), (qe, .inl (cI, 3, .inl en)), (w, .inr (3, [.ref sk, .ref kd, .ref mo, .ref lv, .ref tc, .ref ts, .ref tl, .int (nI tn), .int rg, .long hp, .int (nI lw)])), (sk, .inl (cM, 4, .inr (.inr (.inr (.inr (rr4 s0 s1 s2 s3)))))), (s1, .inl (cI, 14, .inl R1)), (s2, .inl (cI, 14, .inl R2)), (s3, .inl (cI, 14, .inl R3)), (tc, .inl (cI, 4, .inl (nIf tk))), (ts, .inl (cI, 4, .inl tsf))] _ _ _
        refine x_callV C (As := [.int (nI 0), .ref nm]) (st := [.int (g t)]) (wc := [(q, .inr (2, [.ref qc, .ref qs, .ref qe, .int sz])), (qc, .inl (cI, 160, .inl cd)), (qs, .inl (cI, 160, .inl sq)), (qe, .inl (cI, 3, .inl en)), (nm, .inl (cI, 6, .inl (s_nm (H0 t) (R1 d) (R2 d) (R3 d) (tsf t) 0)))]) (wr := [(o, .inr (0, [.ref ly, .ref bl, .ref cv, .ref hg, .ref fl, .ref of_, .ref nm, .int rt, .int rk, .int ct])), (ly, .inl (cM, 2, .inr (.inr (.inr (.inr (rr2 l0 l1)))))), (l0, .inl (cI, 36, .inl D1)), (l1, .inl (cI, 36, .inl W1)), (hg, .inl (cI, 4, .inl g)), (fl, .inl (cI, 14, .inl F1)), (w, .inr (3, [.ref sk, .ref kd, .ref mo, .ref lv, .ref tc, .ref ts, .ref tl, .int (nI tn), .int rg, .long hp, .int (nI lw)])), (sk, .inl (cM, 4, .inr (.inr (.inr (.inr (rr4 s0 s1 s2 s3)))))), (s1, .inl (cI, 14, .inl R1)), (s2, .inl (cI, 14, .inl R2)), (s3, .inl (cI, 14, .inl R3)), (tc, .inl (cI, 4, .inl (nIf tk))), (ts, .inl (cI, 4, .inl tsf))]) (c_X3_says l dG cI cM cW cS q qc qs qe nm 0 sz cd sq en (s_nm (H0 t) (R1 d) (R2 d) (R3 d) (tsf t) 0) T (by first | assumption | omega | decide) (by first | assumption | omega | decide) (by first | assumption | omega | decide)) rZ0_ok (fun _ _ _ _ => trivial) kV_X0_110 ⟨rfl, hy_X3_says⟩ ⟨Nat.le_of_ble_eq_true rfl, Nat.le_of_ble_eq_true rfl⟩ ⟨Nat.le_of_ble_eq_true rfl, Nat.le_of_ble_eq_true rfl⟩ dX0_shed_104 7 rfl rfl [7, 8, 9, 10, 6] [0, 1, 2, 3, 4, 5, 11, 12, 13, 14, 15, 16, 17] rfl rfl rfl rfl (by decide) rfl (Nat.le_of_ble_eq_true rfl) ?_
        intro v3 w4 h5
        obtain ⟨_, sk_7, rfl, rfl, rfl⟩ := h5
        show X 0 0 [(o, .inr (0, [.ref ly, .ref bl, .ref cv, .ref hg, .ref fl, .ref of_, .ref nm, .int rt, .int rk, .int ct])), (ly, .inl (cM, 2, .inr (.inr (.inr (.inr (rr2 l0 l1)))))), (l0, .inl (cI, 36, .inl D1)), (l1, .inl (cI, 36, .inl W1)), (hg, .inl (cI, 4, .inl g)), (fl, .inl (cI, 14, .inl F1)), (w, .inr (3, [.ref sk, .ref kd, .ref mo, .ref lv, .ref tc, .ref ts, .ref tl, .int (nI tn), .int rg, .long hp, .int (nI lw)])), (sk, .inl (cM, 4, .inr (.inr (.inr (.inr (rr4 s0 s1 s2 s3)))))), (s1, .inl (cI, 14, .inl R1)), (s2, .inl (cI, 14, .inl R2)), (s3, .inl (cI, 14, .inl R3)), (tc, .inl (cI, 4, .inl (nIf tk))), (ts, .inl (cI, 4, .inl tsf)), (q, .inr (2, [.ref qc, .ref qs, .ref qe, .int sz])), (qc, .inl (cI, 160, .inl cd)), (qs, .inl (cI, 160, .inl sk_7)), (qe, .inl (cI, 3, .inl en)), (nm, .inl (cI, 6, .inl (s_nm (H0 t) (R1 d) (R2 d) (R3 d) (tsf t) 0)))] [(5, .int (nI t)), (4, .int (R3 d)), (3, .int (nI d)), (2, .ref q), (1, .ref w), (0, .ref o)] 107 [.int (s_says T 0 (s_nm (H0 t) (R1 d) (R2 d) (R3 d) (tsf t) 0)), .int (g t)]
        refine x_mmin C gw_24_13 gw_17_16 gw_17_17 gw_17_18 (Nat.le_of_ble_eq_true rfl) (Nat.le_of_ble_eq_true rfl) (Nat.le_of_ble_eq_true rfl) (Nat.le_of_ble_eq_true rfl) dX0_shed_107 ?_
        obtain ⟨k, hk⟩ : ∃ z, z = s_k T (R1 d) (R2 d) (R3 d) tsf H0 t := ⟨_, rfl⟩
        refine x_topi C k (by rw [hk, q_at (A := fun t => H0 t - s_k T (R1 d) (R2 d) (R3 d) tsf H0 t) hh]; rfl) ?_
        refine x_istore C dX0_shed_110 (by decide) (lv' := [(6, .int k), (5, .int (nI t)), (4, .int (R3 d)), (3, .int (nI d)), (2, .ref q), (1, .ref w), (0, .ref o)]) rfl ?_
        refine x_aload_n C dX0_shed_112 6 rfl ?_
        refine x_get C inlX0 rfl 3 (by decide) gw_3_14 dX0_shed_113 0 rfl rfl ?_
        refine x_iload C dX0_shed_116 1 rfl ?_
        show X _ _ _ _ 118 _
        refine x_dup2 C dX0_shed_118 rfl rfl ?_
        refine x_iaload C 0 rfl dX0_shed_119 t (q_cl rfl (by omega)) (q_ix rfl (by omega) (by omega)) 4 rfl ?_
        refine x_iload C dX0_shed_120 0 rfl ?_
        refine x_isub C dX0_shed_122 ?_
        refine x_iastore C 0 rfl dX0_shed_123 t (q_cl rfl (by omega)) (q_ix rfl (by omega) (by omega)) 4 rfl ?_
        show X _ _ [(o, .inr (0, [.ref ly, .ref bl, .ref cv, .ref hg, .ref fl, .ref of_, .ref nm, .int rt, .int rk, .int ct])), (ly, .inl (cM, 2, .inr (.inr (.inr (.inr (rr2 l0 l1)))))), (l0, .inl (cI, 36, .inl D1)), (l1, .inl (cI, 36, .inl W1)), (hg, .inl (cI, 4, .inl (upd g t ((g t) - k)))), (fl, .inl (cI, 14, .inl F1)), (w, .inr (3, [.ref sk, .ref kd, .ref mo, .ref lv, .ref tc, .ref ts, .ref tl, .int (nI tn), .int rg, .long hp, .int (nI lw)])), (sk, .inl (cM, 4, .inr (.inr (.inr (.inr (rr4 s0 s1 s2 s3)))))), (s1, .inl (cI, 14, .inl R1)), (s2, .inl (cI, 14, .inl R2)), (s3, .inl (cI, 14, .inl R3)), (tc, .inl (cI, 4, .inl (nIf tk))), (ts, .inl (cI, 4, .inl tsf)), (q, .inr (2, [.ref qc, .ref qs, .ref qe, .int sz])), (qc, .inl (cI, 160, .inl cd)), (qs, .inl (cI, 160, .inl sk_7)), (qe, .inl (cI, 3, .inl en)), (nm, .inl (cI, 6, .inl (s_nm (H0 t) (R1 d) (R2 d) (R3 d) (tsf t) 0)))] _ _ _
        refine x_aload_n C dX0_shed_124 6 rfl ?_
        refine x_get C inlX0 rfl 4 (by decide) gw_3_15 dX0_shed_125 0 rfl rfl ?_
        refine x_iload_n C dX0_shed_128 3 rfl ?_
        refine x_dup2 C dX0_shed_129 rfl rfl ?_
        refine x_iaload C 0 rfl dX0_shed_130 d (q_cl rfl (by omega)) (q_ix rfl (by omega) (by omega)) 5 rfl ?_
        show X _ _ _ _ 131 _
        refine x_iload C dX0_shed_131 0 rfl ?_
        refine x_iadd C dX0_shed_133 ?_
        refine x_iastore C 0 rfl dX0_shed_134 d (q_cl rfl (by omega)) (q_ix rfl (by omega) (by omega)) 5 rfl ?_
        show X _ _ [(o, .inr (0, [.ref ly, .ref bl, .ref cv, .ref hg, .ref fl, .ref of_, .ref nm, .int rt, .int rk, .int ct])), (ly, .inl (cM, 2, .inr (.inr (.inr (.inr (rr2 l0 l1)))))), (l0, .inl (cI, 36, .inl D1)), (l1, .inl (cI, 36, .inl W1)), (hg, .inl (cI, 4, .inl (upd g t ((g t) - k)))), (fl, .inl (cI, 14, .inl (upd F1 d ((F1 d) + k)))), (w, .inr (3, [.ref sk, .ref kd, .ref mo, .ref lv, .ref tc, .ref ts, .ref tl, .int (nI tn), .int rg, .long hp, .int (nI lw)])), (sk, .inl (cM, 4, .inr (.inr (.inr (.inr (rr4 s0 s1 s2 s3)))))), (s1, .inl (cI, 14, .inl R1)), (s2, .inl (cI, 14, .inl R2)), (s3, .inl (cI, 14, .inl R3)), (tc, .inl (cI, 4, .inl (nIf tk))), (ts, .inl (cI, 4, .inl tsf)), (q, .inr (2, [.ref qc, .ref qs, .ref qe, .int sz])), (qc, .inl (cI, 160, .inl cd)), (qs, .inl (cI, 160, .inl sk_7)), (qe, .inl (cI, 3, .inl en)), (nm, .inl (cI, 6, .inl (s_nm (H0 t) (R1 d) (R2 d) (R3 d) (tsf t) 0)))] _ _ _
        refine x_aload_n C dX0_shed_135 6 rfl ?_
        refine x_get C inlX0 rfl 0 (by decide) gw_3_11 dX0_shed_136 0 rfl rfl ?_
        refine x_iload C dX0_shed_139 2 rfl ?_
        refine x_iconst C dX0_shed_141 (v := 1) rfl ?_
        refine x_icmp_ne C dX0_shed_142 (tgt := 149) rfl (fun c9 => ?_) (fun c9 => ?_)
        ·
          have hr := c9
          refine x_iconst C dX0_shed_149 (v := 0) rfl ?_
          refine x_aaloadA C 1 rfl dX0_shed_150 0 rfl (q_ix (rfl : (0 : Int32) = nI 0) (by decide) (by decide)) 1 rfl rfl ?_
          refine x_aload_n C dX0_shed_151 5 rfl ?_
          refine x_getN C inlX4 rfl 4 (by decide) nw_X0_122 dX0_shed_152 6 rfl rfl ?_
          refine x_iload C dX0_shed_155 1 rfl ?_
          refine x_iaload C 0 rfl dX0_shed_157 t (q_cl rfl (by omega)) (q_ix rfl (by omega) (by omega)) 11 rfl ?_
          refine x_dup2 C dX0_shed_158 rfl rfl ?_
          refine x_iaload C 0 rfl dX0_shed_159 (tk t) (q_cl rfl (by omega)) (q_ix rfl (by omega) (by omega)) 2 rfl ?_
          refine x_iload C dX0_shed_160 0 rfl ?_
          refine x_iadd C dX0_shed_162 ?_
          show X _ _ _ _ 163 _
          refine x_iastore C 0 rfl dX0_shed_163 (tk t) (q_cl rfl (by omega)) (q_ix rfl (by omega) (by omega)) 2 rfl ?_
          show X _ _ [(o, .inr (0, [.ref ly, .ref bl, .ref cv, .ref hg, .ref fl, .ref of_, .ref nm, .int rt, .int rk, .int ct])), (ly, .inl (cM, 2, .inr (.inr (.inr (.inr (rr2 l0 l1)))))), (l0, .inl (cI, 36, .inl (upd D1 (tk t) ((D1 (tk t)) + k)))), (l1, .inl (cI, 36, .inl W1)), (hg, .inl (cI, 4, .inl (upd g t ((g t) - k)))), (fl, .inl (cI, 14, .inl (upd F1 d ((F1 d) + k)))), (w, .inr (3, [.ref sk, .ref kd, .ref mo, .ref lv, .ref tc, .ref ts, .ref tl, .int (nI tn), .int rg, .long hp, .int (nI lw)])), (sk, .inl (cM, 4, .inr (.inr (.inr (.inr (rr4 s0 s1 s2 s3)))))), (s1, .inl (cI, 14, .inl R1)), (s2, .inl (cI, 14, .inl R2)), (s3, .inl (cI, 14, .inl R3)), (tc, .inl (cI, 4, .inl (nIf tk))), (ts, .inl (cI, 4, .inl tsf)), (q, .inr (2, [.ref qc, .ref qs, .ref qe, .int sz])), (qc, .inl (cI, 160, .inl cd)), (qs, .inl (cI, 160, .inl sk_7)), (qe, .inl (cI, 3, .inl en)), (nm, .inl (cI, 6, .inl (s_nm (H0 t) (R1 d) (R2 d) (R3 d) (tsf t) 0)))] _ _ _
          refine x_iinc C dX0_shed_164 1 rfl (v := nI (t + 1)) (nI_1 _) (by decide) (lv' := [(5, .int (nI (t + 1))), (6, .int k), (4, .int (R3 d)), (3, .int (nI d)), (2, .ref q), (1, .ref w), (0, .ref o)]) rfl ?_
          refine x_goto C dX0_shed_167 (tgt := 56) rfl ?_
          refine x_lv C [0, 2, 3, 4, 5, 6] (lv' := [(5, .int (nI (t + 1))), (4, .int (R3 d)), (3, .int (nI d)), (2, .ref q), (1, .ref w), (0, .ref o)]) rfl ?_
          refine x_sub C [0, 1, 2, 3, 4, 5, 17, 13, 14, 15, 16, 6, 7, 8, 9, 10, 11, 12] (ws' := [(o, .inr (0, [.ref ly, .ref bl, .ref cv, .ref hg, .ref fl, .ref of_, .ref nm, .int rt, .int rk, .int ct])), (ly, .inl (cM, 2, .inr (.inr (.inr (.inr (rr2 l0 l1)))))), (l0, .inl (cI, 36, .inl (upd D1 (tk t) ((D1 (tk t)) + k)))), (l1, .inl (cI, 36, .inl W1)), (hg, .inl (cI, 4, .inl (upd g t ((g t) - k)))), (fl, .inl (cI, 14, .inl (upd F1 d ((F1 d) + k)))), (nm, .inl (cI, 6, .inl (s_nm (H0 t) (R1 d) (R2 d) (R3 d) (tsf t) 0))), (q, .inr (2, [.ref qc, .ref qs, .ref qe, .int sz])), (qc, .inl (cI, 160, .inl cd)), (qs, .inl (cI, 160, .inl sk_7)), (qe, .inl (cI, 3, .inl en)), (w, .inr (3, [.ref sk, .ref kd, .ref mo, .ref lv, .ref tc, .ref ts, .ref tl, .int (nI tn), .int rg, .long hp, .int (nI lw)])), (sk, .inl (cM, 4, .inr (.inr (.inr (.inr (rr4 s0 s1 s2 s3)))))), (s1, .inl (cI, 14, .inl R1)), (s2, .inl (cI, 14, .inl R2)), (s3, .inl (cI, 14, .inl R3)), (tc, .inl (cI, 4, .inl (nIf tk))), (ts, .inl (cI, 4, .inl tsf))]) rfl rfl ?_
          exact ihL56_0 (t + 1) (upd g t ((g t) - k)) (upd D1 (tk t) ((D1 (tk t)) + k)) W1 (s_nm (H0 t) (R1 d) (R2 d) (R3 d) (tsf t) 0) (upd F1 d ((F1 d) + k)) sk_7 (by omega) (q_up hh (by rw [q_at hh, hk])) (by rw [hF, hk, pk_us, q_uu]; rfl) (by first | (rw [s_dropD_f hr, ← hD, ← hk]; done) | (rw [s_dropD_t hr]; exact hD)) (by first | (rw [s_dropW_t hr, ← hW, ← hk]; done) | (rw [s_dropW_f hr]; exact hW)) (rfl) (rfl) (rfl) (rfl) (by omega)
        ·
          have hr := c9
          refine x_iconst C dX0_shed_145 (v := 1) rfl ?_
          refine x_goto C dX0_shed_146 (tgt := 150) rfl ?_
          refine x_aaloadA C 1 rfl dX0_shed_150 1 rfl (q_ix (rfl : (1 : Int32) = nI 1) (by decide) (by decide)) 1 rfl rfl ?_
          refine x_aload_n C dX0_shed_151 5 rfl ?_
          refine x_getN C inlX4 rfl 4 (by decide) nw_X0_122 dX0_shed_152 6 rfl rfl ?_
          refine x_iload C dX0_shed_155 1 rfl ?_
          refine x_iaload C 0 rfl dX0_shed_157 t (q_cl rfl (by omega)) (q_ix rfl (by omega) (by omega)) 11 rfl ?_
          refine x_dup2 C dX0_shed_158 rfl rfl ?_
          refine x_iaload C 0 rfl dX0_shed_159 (tk t) (q_cl rfl (by omega)) (q_ix rfl (by omega) (by omega)) 3 rfl ?_
          refine x_iload C dX0_shed_160 0 rfl ?_
          show X _ _ _ _ 162 _
          refine x_iadd C dX0_shed_162 ?_
          refine x_iastore C 0 rfl dX0_shed_163 (tk t) (q_cl rfl (by omega)) (q_ix rfl (by omega) (by omega)) 3 rfl ?_
          show X _ _ [(o, .inr (0, [.ref ly, .ref bl, .ref cv, .ref hg, .ref fl, .ref of_, .ref nm, .int rt, .int rk, .int ct])), (ly, .inl (cM, 2, .inr (.inr (.inr (.inr (rr2 l0 l1)))))), (l0, .inl (cI, 36, .inl D1)), (l1, .inl (cI, 36, .inl (upd W1 (tk t) ((W1 (tk t)) + k)))), (hg, .inl (cI, 4, .inl (upd g t ((g t) - k)))), (fl, .inl (cI, 14, .inl (upd F1 d ((F1 d) + k)))), (w, .inr (3, [.ref sk, .ref kd, .ref mo, .ref lv, .ref tc, .ref ts, .ref tl, .int (nI tn), .int rg, .long hp, .int (nI lw)])), (sk, .inl (cM, 4, .inr (.inr (.inr (.inr (rr4 s0 s1 s2 s3)))))), (s1, .inl (cI, 14, .inl R1)), (s2, .inl (cI, 14, .inl R2)), (s3, .inl (cI, 14, .inl R3)), (tc, .inl (cI, 4, .inl (nIf tk))), (ts, .inl (cI, 4, .inl tsf)), (q, .inr (2, [.ref qc, .ref qs, .ref qe, .int sz])), (qc, .inl (cI, 160, .inl cd)), (qs, .inl (cI, 160, .inl sk_7)), (qe, .inl (cI, 3, .inl en)), (nm, .inl (cI, 6, .inl (s_nm (H0 t) (R1 d) (R2 d) (R3 d) (tsf t) 0)))] _ _ _
          refine x_iinc C dX0_shed_164 1 rfl (v := nI (t + 1)) (nI_1 _) (by decide) (lv' := [(5, .int (nI (t + 1))), (6, .int k), (4, .int (R3 d)), (3, .int (nI d)), (2, .ref q), (1, .ref w), (0, .ref o)]) rfl ?_
          refine x_goto C dX0_shed_167 (tgt := 56) rfl ?_
          refine x_lv C [0, 2, 3, 4, 5, 6] (lv' := [(5, .int (nI (t + 1))), (4, .int (R3 d)), (3, .int (nI d)), (2, .ref q), (1, .ref w), (0, .ref o)]) rfl ?_
          refine x_sub C [0, 1, 2, 3, 4, 5, 17, 13, 14, 15, 16, 6, 7, 8, 9, 10, 11, 12] (ws' := [(o, .inr (0, [.ref ly, .ref bl, .ref cv, .ref hg, .ref fl, .ref of_, .ref nm, .int rt, .int rk, .int ct])), (ly, .inl (cM, 2, .inr (.inr (.inr (.inr (rr2 l0 l1)))))), (l0, .inl (cI, 36, .inl D1)), (l1, .inl (cI, 36, .inl (upd W1 (tk t) ((W1 (tk t)) + k)))), (hg, .inl (cI, 4, .inl (upd g t ((g t) - k)))), (fl, .inl (cI, 14, .inl (upd F1 d ((F1 d) + k)))), (nm, .inl (cI, 6, .inl (s_nm (H0 t) (R1 d) (R2 d) (R3 d) (tsf t) 0))), (q, .inr (2, [.ref qc, .ref qs, .ref qe, .int sz])), (qc, .inl (cI, 160, .inl cd)), (qs, .inl (cI, 160, .inl sk_7)), (qe, .inl (cI, 3, .inl en)), (w, .inr (3, [.ref sk, .ref kd, .ref mo, .ref lv, .ref tc, .ref ts, .ref tl, .int (nI tn), .int rg, .long hp, .int (nI lw)])), (sk, .inl (cM, 4, .inr (.inr (.inr (.inr (rr4 s0 s1 s2 s3)))))), (s1, .inl (cI, 14, .inl R1)), (s2, .inl (cI, 14, .inl R2)), (s3, .inl (cI, 14, .inl R3)), (tc, .inl (cI, 4, .inl (nIf tk))), (ts, .inl (cI, 4, .inl tsf))]) rfl rfl ?_
          exact ihL56_0 (t + 1) (upd g t ((g t) - k)) D1 (upd W1 (tk t) ((W1 (tk t)) + k)) (s_nm (H0 t) (R1 d) (R2 d) (R3 d) (tsf t) 0) (upd F1 d ((F1 d) + k)) sk_7 (by omega) (q_up hh (by rw [q_at hh, hk])) (by rw [hF, hk, pk_us, q_uu]; rfl) (by first | (rw [s_dropD_f hr, ← hD, ← hk]; done) | (rw [s_dropD_t hr]; exact hD)) (by first | (rw [s_dropW_t hr, ← hW, ← hk]; done) | (rw [s_dropW_f hr]; exact hW)) (rfl) (rfl) (rfl) (rfl) (by omega)
  refine x_lv C [0, 1, 5, 4, 3, 2] (lv' := [(5, .int 0), (4, .int (R3 d)), (3, .int (nI d)), (2, .ref q), (1, .ref w), (0, .ref o)]) rfl ?_
  show X 0 0 [(o, .inr (0, [.ref ly, .ref bl, .ref cv, .ref hg, .ref fl, .ref of_, .ref nm, .int rt, .int rk, .int ct])), (ly, .inl (cM, 2, .inr (.inr (.inr (.inr (rr2 l0 l1)))))), (l0, .inl (cI, 36, .inl D)), (l1, .inl (cI, 36, .inl W)), (hg, .inl (cI, 4, .inl H0)), (fl, .inl (cI, 14, .inl F0)), (nm, .inl (cI, 6, .inl (upd (upd (upd (upd N0 1 (R1 d)) 2 (R2 d)) 3 (R3 d)) 5 0))), (q, .inr (2, [.ref qc, .ref qs, .ref qe, .int sz])), (qc, .inl (cI, 160, .inl cd)), (qs, .inl (cI, 160, .inl sq)), (qe, .inl (cI, 3, .inl en)), (w, .inr (3, [.ref sk, .ref kd, .ref mo, .ref lv, .ref tc, .ref ts, .ref tl, .int (nI tn), .int rg, .long hp, .int (nI lw)])), (sk, .inl (cM, 4, .inr (.inr (.inr (.inr (rr4 s0 s1 s2 s3)))))), (s1, .inl (cI, 14, .inl R1)), (s2, .inl (cI, 14, .inl R2)), (s3, .inl (cI, 14, .inl R3)), (tc, .inl (cI, 4, .inl (nIf tk))), (ts, .inl (cI, 4, .inl tsf))] [(5, .int (nI 0)), (4, .int (R3 d)), (3, .int (nI d)), (2, .ref q), (1, .ref w), (0, .ref o)] 56 []
  exact L56_0 ((tn - 0) + 1) 0 H0 D W (upd (upd (upd (upd N0 1 (R1 d)) 2 (R2 d)) 3 (R3 d)) 5 0) F0 sq (Nat.zero_le _) (q_0) (q_self F0 d) (s_drop0.1) (s_drop0.2) (rfl) (rfl) (rfl) (rfl) (Nat.lt_succ_self _)
