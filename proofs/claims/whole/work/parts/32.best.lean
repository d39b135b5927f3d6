set_option maxHeartbeats 4000000 in
set_option maxRecDepth 100000 in
theorem c_X7_mostOfSky (l : Launch) (dG : va_G) (cI cM cW cS : ClassId) (k : Int32) : rM l yX7_mostOfSky cX7_mostOfSky 1 (some .int) ({ frames := 0, cells := 0, slots := 0, locals := 0 } : Room) dG (tY cI cM cW cS) rZ0 [.int k] [] (fun ov oz => ∃ (r : Int32), ov = some (.int r) ∧ oz = [] ∧ r = if k = 0 then 3 else if k = 1 then 9 else 1) := by
  refine rM_ofI rfl (Nat.le_of_ble_eq_true rfl) rfl (fun X C E => ?_)
  show X 0 0 [] [(0, .int k)] 0 []
  refine x_iload_n C dX7_mostOfSky_0 0 rfl ?_
  by_cases q1 : k = 0
  ·
    refine x_lookup C dX7_mostOfSky_1 (by decide) (off := 27) (tgt := 28) (by rw [q1]; rfl) rfl ?_
    refine x_iconst C dX7_mostOfSky_28 (v := 3) rfl ?_
    refine E dX7_mostOfSky_29 (rfl) ?_
    exact ⟨3, rfl, rfl, by simp [*]⟩
  ·
    by_cases q2 : k = 1
    ·
      refine x_lookup C dX7_mostOfSky_1 (by decide) (off := 29) (tgt := 30) (by rw [q2]; rfl) rfl ?_
      refine x_bipush C dX7_mostOfSky_30 (v := 9) rfl ?_
      refine E dX7_mostOfSky_32 (rfl) ?_
      exact ⟨9, rfl, rfl, by simp [*]⟩
    ·
      refine x_lookup C dX7_mostOfSky_1 (by decide) (off := 32) (tgt := 33) (by show Op.lookupswitch.offset [(0, 27), (1, 29)] 32 _ = _; rw [Op.lookupswitch.offset_cons, if_neg (q_ne_ti (k := 0) q1 rfl), Op.lookupswitch.offset_cons, if_neg (q_ne_ti (k := 1) q2 rfl)]; rfl) rfl ?_
      refine x_iconst C dX7_mostOfSky_33 (v := 1) rfl ?_
      refine E dX7_mostOfSky_34 (rfl) ?_
      exact ⟨1, rfl, rfl, by simp [*]⟩
theorem nw_X7_183 : (RX7, 183, "LeavesBeforeWind$Course", "lying", "[[I", "LeavesBeforeWind") ∈ NWF := List.mem_of_getElem? (i := 13) rfl
theorem kV_X7_225 : GoodIn GW (wsV RX7 225 yX1_cost.cls yX1_cost (Cond.code yX1_cost cX1_cost 11 (some .int) :: GW)) := r_gV gw_34_3 gw_26_6 gw_26_7 gw_2_1 gw_26_8
set_option maxHeartbeats 4000000 in
set_option maxRecDepth 100000 in
theorem c_X7_bestHeap (l : Launch) (dG : va_G) (cI cM cW cS : ClassId) (x tw pw uw rd bk pl asd fd : Nat) (wr : Nat) (hi9 : Int32) (o ly l0 l1 bl b0 b1 cv hg fl of_ nm : Nat) (rt rk ct : Int32) (hh aa : Nat) (D W f : Nat → Int32) (wh : Int32) : rM l yX7_bestHeap cX7_bestHeap 6 (some .int) ({ frames := 4, cells := 0, slots := 0, locals := 89 } : Room) dG (tY cI cM cW cS) rZ0 [.ref x, .int wh] [(x, .inr (6, [.ref tw, .ref pw, .ref uw, .ref o, .ref hh, .ref rd, .ref bk, .ref pl, .ref asd, .ref fd, .int (nI wr), .int hi9])), (o, .inr (0, [.ref ly, .ref bl, .ref cv, .ref hg, .ref fl, .ref of_, .ref nm, .int rt, .int rk, .int ct])), (ly, .inl (cM, 2, .inr (.inr (.inr (.inr (rr2 l0 l1)))))), (l0, .inl (cI, 36, .inl D)), (l1, .inl (cI, 36, .inl W)), (hh, .inr (1, [.ref aa])), (aa, .inl (cI, 36, .inl f))] (fun ov oz => ∃ (r : Int32) (f' : Nat → Int32), ov = some (.int r) ∧ oz = [(x, .inr (6, [.ref tw, .ref pw, .ref uw, .ref o, .ref hh, .ref rd, .ref bk, .ref pl, .ref asd, .ref fd, .int (nI wr), .int hi9])), (o, .inr (0, [.ref ly, .ref bl, .ref cv, .ref hg, .ref fl, .ref of_, .ref nm, .int rt, .int rk, .int ct])), (ly, .inl (cM, 2, .inr (.inr (.inr (.inr (rr2 l0 l1)))))), (l0, .inl (cI, 36, .inl D)), (l1, .inl (cI, 36, .inl W)), (hh, .inr (1, [.ref aa])), (aa, .inl (cI, 36, .inl f'))] ∧ r = if wh = 0 then (s_bh D W 36).1 else (s_bh D W 36).2) := by
  refine rM_ofI rfl (Nat.le_of_ble_eq_true rfl) rfl (fun X C E => ?_)
  show X 0 0 [(x, .inr (6, [.ref tw, .ref pw, .ref uw, .ref o, .ref hh, .ref rd, .ref bk, .ref pl, .ref asd, .ref fd, .int (nI wr), .int hi9])), (o, .inr (0, [.ref ly, .ref bl, .ref cv, .ref hg, .ref fl, .ref of_, .ref nm, .int rt, .int rk, .int ct])), (ly, .inl (cM, 2, .inr (.inr (.inr (.inr (rr2 l0 l1)))))), (l0, .inl (cI, 36, .inl D)), (l1, .inl (cI, 36, .inl W)), (hh, .inr (1, [.ref aa])), (aa, .inl (cI, 36, .inl f))] [(0, .ref x), (1, .int wh)] 0 []
  refine x_iconst C dX7_bestHeap_0 (v := (-1)) rfl ?_
  refine x_istore_n C dX7_bestHeap_1 (by decide) (lv' := [(2, .int (-1)), (0, .ref x), (1, .int wh)]) rfl ?_
  refine x_iconst C dX7_bestHeap_2 (v := (-1)) rfl ?_
  refine x_istore_n C dX7_bestHeap_3 (by decide) (lv' := [(3, .int (-1)), (2, .int (-1)), (0, .ref x), (1, .int wh)]) rfl ?_
  refine x_iconst C dX7_bestHeap_4 (v := 0) rfl ?_
  refine x_istore C dX7_bestHeap_5 (by decide) (lv' := [(4, .int 0), (3, .int (-1)), (2, .int (-1)), (0, .ref x), (1, .int wh)]) rfl ?_
  have L7_0 : ∀ (fuel : Nat) (c : Nat) (b pr : Int32) (f : Nat → Int32), (hc : c ≤ 36) → (hq : s_bh D W c = (b, pr)) → 36 - c < fuel → X 0 0 [(x, .inr (6, [.ref tw, .ref pw, .ref uw, .ref o, .ref hh, .ref rd, .ref bk, .ref pl, .ref asd, .ref fd, .int (nI wr), .int hi9])), (o, .inr (0, [.ref ly, .ref bl, .ref cv, .ref hg, .ref fl, .ref of_, .ref nm, .int rt, .int rk, .int ct])), (ly, .inl (cM, 2, .inr (.inr (.inr (.inr (rr2 l0 l1)))))), (l0, .inl (cI, 36, .inl D)), (l1, .inl (cI, 36, .inl W)), (hh, .inr (1, [.ref aa])), (aa, .inl (cI, 36, .inl f))] [(4, .int (nI c)), (3, .int pr), (2, .int b), (1, .int wh), (0, .ref x)] 7 [] := by
    intro fuel
    induction fuel with
    | zero => intros; omega
    | succ fuel ihL7_0 =>
      intro c b pr f hc hq hfu
      refine x_iload C dX7_bestHeap_7 0 rfl ?_
      refine x_bipush C dX7_bestHeap_9 (v := 36) rfl ?_
      refine x_icmp_ge C dX7_bestHeap_11 (tgt := 57) rfl (fun c2 => ?_) (fun c2 => ?_)
      ·
        have c2 : c ≥ 36 := q_ge_t rfl (rfl : (36 : Int32) = nI 36) (by omega) (by omega) c2
        refine x_iload_n C dX7_bestHeap_57 3 rfl ?_
        refine x_if_ne C dX7_bestHeap_58 (tgt := 65) rfl (fun c3 => ?_) (fun c3 => ?_)
        ·
          refine x_iload_n C dX7_bestHeap_65 1 rfl ?_
          refine E dX7_bestHeap_66 (rfl) ?_
          exact ⟨pr, f, rfl, rfl, by rw [show c = 36 by omega] at hq; rw [hq]; simp [*]⟩
        ·
          refine x_iload_n C dX7_bestHeap_61 2 rfl ?_
          refine x_goto C dX7_bestHeap_62 (tgt := 66) rfl ?_
          refine E dX7_bestHeap_66 (rfl) ?_
          exact ⟨b, f, rfl, rfl, by rw [show c = 36 by omega] at hq; rw [hq]; simp [*]⟩
      ·
        have c2 : c < 36 := q_ge_f rfl (rfl : (36 : Int32) = nI 36) (by omega) (by omega) c2
        refine x_aload_n C dX7_bestHeap_14 4 rfl ?_
        refine x_get C inlX7 rfl 4 (by decide) gw_2_2 dX7_bestHeap_15 0 rfl rfl ?_
        refine x_lconst C dX7_bestHeap_18 (v := 1) rfl ?_
        refine x_iload C dX7_bestHeap_19 0 rfl ?_
        refine x_lshl C dX7_bestHeap_21 ?_
        refine x_topl C (s_bit c) rfl ?_
        refine x_aload_n C dX7_bestHeap_22 4 rfl ?_
        refine x_get C inlX7 rfl 3 (by decide) gw_1_22 dX7_bestHeap_23 0 rfl rfl ?_
        refine x_getN C inlX0 rfl 0 (by decide) nw_X7_183 dX7_bestHeap_26 1 rfl rfl ?_
        refine x_callV C (As := [.long (s_bit c), .ref ly]) (st := []) (wc := [(hh, .inr (1, [.ref aa])), (aa, .inl (cI, 36, .inl f)), (ly, .inl (cM, 2, .inr (.inr (.inr (.inr (rr2 l0 l1)))))), (l0, .inl (cI, 36, .inl D)), (l1, .inl (cI, 36, .inl W))]) (wr := [(x, .inr (6, [.ref tw, .ref pw, .ref uw, .ref o, .ref hh, .ref rd, .ref bk, .ref pl, .ref asd, .ref fd, .int (nI wr), .int hi9])), (o, .inr (0, [.ref ly, .ref bl, .ref cv, .ref hg, .ref fl, .ref of_, .ref nm, .int rt, .int rk, .int ct]))]) (c_X1_cost l dG cI cM cW cS hh aa ly l0 l1 (s_bit c) f D W (⟨c, by omega, s_bit_self c (by omega)⟩)) rZ0_ok (fun _ _ _ _ => trivial) kV_X7_225 ⟨rfl, hy_X1_cost⟩ ⟨Nat.le_of_ble_eq_true rfl, Nat.le_of_ble_eq_true rfl⟩ ⟨Nat.le_of_ble_eq_true rfl, Nat.le_of_ble_eq_true rfl⟩ dX7_bestHeap_29 5 rfl rfl [5, 6, 2, 3, 4] [0, 1] rfl rfl rfl rfl (by decide) rfl (Nat.le_of_ble_eq_true rfl) ?_
        intro v4 w5 h6
        obtain ⟨_, f_8, rfl, rfl, rfl⟩ := h6
        show X 0 0 [(x, .inr (6, [.ref tw, .ref pw, .ref uw, .ref o, .ref hh, .ref rd, .ref bk, .ref pl, .ref asd, .ref fd, .int (nI wr), .int hi9])), (o, .inr (0, [.ref ly, .ref bl, .ref cv, .ref hg, .ref fl, .ref of_, .ref nm, .int rt, .int rk, .int ct])), (hh, .inr (1, [.ref aa])), (aa, .inl (cI, 36, .inl f_8)), (ly, .inl (cM, 2, .inr (.inr (.inr (.inr (rr2 l0 l1)))))), (l0, .inl (cI, 36, .inl D)), (l1, .inl (cI, 36, .inl W))] [(4, .int (nI c)), (3, .int pr), (2, .int b), (1, .int wh), (0, .ref x)] 32 [.int (s_cost (s_b1 (s_bit c)) D W)]
        obtain ⟨k9, hk9⟩ : ∃ z, z = s_cost (s_b1 (s_bit c)) D W := ⟨_, rfl⟩
        refine x_topi C k9 hk9.symm ?_
        refine x_istore C dX7_bestHeap_32 (by decide) (lv' := [(5, .int k9), (4, .int (nI c)), (3, .int pr), (2, .int b), (1, .int wh), (0, .ref x)]) rfl ?_
        show X _ _ _ _ 34 _
        refine x_iload_n C dX7_bestHeap_34 3 rfl ?_
        refine x_iconst C dX7_bestHeap_35 (v := (-1)) rfl ?_
        refine x_icmp_eq C dX7_bestHeap_36 (tgt := 45) rfl (fun c10 => ?_) (fun c10 => ?_)
        ·
          refine x_iload C dX7_bestHeap_45 1 rfl ?_
          refine x_istore_n C dX7_bestHeap_47 (by decide) (lv' := [(2, .int (nI c)), (5, .int k9), (4, .int (nI c)), (3, .int pr), (1, .int wh), (0, .ref x)]) rfl ?_
          refine x_iload C dX7_bestHeap_48 1 rfl ?_
          refine x_istore_n C dX7_bestHeap_50 (by decide) (lv' := [(3, .int k9), (2, .int (nI c)), (5, .int k9), (4, .int (nI c)), (1, .int wh), (0, .ref x)]) rfl ?_
          refine x_iinc C dX7_bestHeap_51 3 rfl (v := nI (c + 1)) (nI_1 _) (by decide) (lv' := [(4, .int (nI (c + 1))), (3, .int k9), (2, .int (nI c)), (5, .int k9), (1, .int wh), (0, .ref x)]) rfl ?_
          refine x_goto C dX7_bestHeap_54 (tgt := 7) rfl ?_
          refine x_lv C [0, 1, 2, 4, 5] (lv' := [(4, .int (nI (c + 1))), (3, .int k9), (2, .int (nI c)), (1, .int wh), (0, .ref x)]) rfl ?_
          refine x_sub C [0, 1, 4, 5, 6, 2, 3] (ws' := [(x, .inr (6, [.ref tw, .ref pw, .ref uw, .ref o, .ref hh, .ref rd, .ref bk, .ref pl, .ref asd, .ref fd, .int (nI wr), .int hi9])), (o, .inr (0, [.ref ly, .ref bl, .ref cv, .ref hg, .ref fl, .ref of_, .ref nm, .int rt, .int rk, .int ct])), (ly, .inl (cM, 2, .inr (.inr (.inr (.inr (rr2 l0 l1)))))), (l0, .inl (cI, 36, .inl D)), (l1, .inl (cI, 36, .inl W)), (hh, .inr (1, [.ref aa])), (aa, .inl (cI, 36, .inl f_8))]) rfl rfl ?_
          exact ihL7_0 (c + 1) (nI c) k9 f_8 (by omega) (by rw [s_bh, hq]; first | (exact (if_pos (Or.inl (by assumption))).trans (by rw [hk9])) | (exact (if_pos (Or.inr (by rw [← hk9]; exact Int32.not_le.mp (by assumption)))).trans (by rw [hk9])) | (exact if_neg (fun h => h.elim (by assumption) (fun h2 => absurd (by assumption) (Int32.not_le.mpr (by rw [← hk9] at h2; exact h2)))))) (by omega)
        ·
          refine x_iload C dX7_bestHeap_39 0 rfl ?_
          refine x_iload_n C dX7_bestHeap_41 2 rfl ?_
          refine x_icmp_ge C dX7_bestHeap_42 (tgt := 51) rfl (fun c11 => ?_) (fun c11 => ?_)
          ·
            refine x_iinc C dX7_bestHeap_51 1 rfl (v := nI (c + 1)) (nI_1 _) (by decide) (lv' := [(4, .int (nI (c + 1))), (5, .int k9), (3, .int pr), (2, .int b), (1, .int wh), (0, .ref x)]) rfl ?_
            refine x_goto C dX7_bestHeap_54 (tgt := 7) rfl ?_
            refine x_lv C [0, 2, 3, 4, 5] (lv' := [(4, .int (nI (c + 1))), (3, .int pr), (2, .int b), (1, .int wh), (0, .ref x)]) rfl ?_
            refine x_sub C [0, 1, 4, 5, 6, 2, 3] (ws' := [(x, .inr (6, [.ref tw, .ref pw, .ref uw, .ref o, .ref hh, .ref rd, .ref bk, .ref pl, .ref asd, .ref fd, .int (nI wr), .int hi9])), (o, .inr (0, [.ref ly, .ref bl, .ref cv, .ref hg, .ref fl, .ref of_, .ref nm, .int rt, .int rk, .int ct])), (ly, .inl (cM, 2, .inr (.inr (.inr (.inr (rr2 l0 l1)))))), (l0, .inl (cI, 36, .inl D)), (l1, .inl (cI, 36, .inl W)), (hh, .inr (1, [.ref aa])), (aa, .inl (cI, 36, .inl f_8))]) rfl rfl ?_
            exact ihL7_0 (c + 1) b pr f_8 (by omega) (by rw [s_bh, hq]; first | (exact (if_pos (Or.inl (by assumption))).trans (by rw [hk9])) | (exact (if_pos (Or.inr (by rw [← hk9]; exact Int32.not_le.mp (by assumption)))).trans (by rw [hk9])) | (exact if_neg (fun h => h.elim (by assumption) (fun h2 => absurd (by assumption) (Int32.not_le.mpr (by rw [← hk9] at h2; exact h2)))))) (by omega)
          ·
            refine x_iload C dX7_bestHeap_45 1 rfl ?_
            refine x_istore_n C dX7_bestHeap_47 (by decide) (lv' := [(2, .int (nI c)), (5, .int k9), (4, .int (nI c)), (3, .int pr), (1, .int wh), (0, .ref x)]) rfl ?_
            refine x_iload C dX7_bestHeap_48 1 rfl ?_
            refine x_istore_n C dX7_bestHeap_50 (by decide) (lv' := [(3, .int k9), (2, .int (nI c)), (5, .int k9), (4, .int (nI c)), (1, .int wh), (0, .ref x)]) rfl ?_
            refine x_iinc C dX7_bestHeap_51 3 rfl (v := nI (c + 1)) (nI_1 _) (by decide) (lv' := [(4, .int (nI (c + 1))), (3, .int k9), (2, .int (nI c)), (5, .int k9), (1, .int wh), (0, .ref x)]) rfl ?_
            refine x_goto C dX7_bestHeap_54 (tgt := 7) rfl ?_
            refine x_lv C [0, 1, 2, 4, 5] (lv' := [(4, .int (nI (c + 1))), (3, .int k9), (2, .int (nI c)), (1, .int wh), (0, .ref x)]) rfl ?_
            refine x_sub C [0, 1, 4, 5, 6, 2, 3] (ws' := [(x, .inr (6, [.ref tw, .ref pw, .ref uw, .ref o, .ref hh, .ref rd, .ref bk, .ref pl, .ref asd, .ref fd, .int (nI wr), .int hi9])), (o, .inr (0, [.ref ly, .ref bl, .ref cv, .ref hg, .ref fl, .ref of_, .ref nm, .int rt, .int rk, .int ct])), (ly, .inl (cM, 2, .inr (.inr (.inr (.inr (rr2 l0 l1)))))), (l0, .inl (cI, 36, .inl D)), (l1, .inl (cI, 36, .inl W)), (hh, .inr (1, [.ref aa])), (aa, .inl (cI, 36, .inl f_8))]) rfl rfl ?_
            exact ihL7_0 (c + 1) (nI c) k9 f_8 (by omega) (by rw [s_bh, hq]; first | (exact (if_pos (Or.inl (by assumption))).trans (by rw [hk9])) | (exact (if_pos (Or.inr (by rw [← hk9]; exact Int32.not_le.mp (by assumption)))).trans (by rw [hk9])) | (exact if_neg (fun h => h.elim (by assumption) (fun h2 => absurd (by assumption) (Int32.not_le.mpr (by rw [← hk9] at h2; exact h2)))))) (by omega)
  refine x_lv C [0, 1, 2, 4, 3] (lv' := [(4, .int 0), (3, .int (-1)), (2, .int (-1)), (1, .int wh), (0, .ref x)]) rfl ?_
  show X 0 0 [(x, .inr (6, [.ref tw, .ref pw, .ref uw, .ref o, .ref hh, .ref rd, .ref bk, .ref pl, .ref asd, .ref fd, .int (nI wr), .int hi9])), (o, .inr (0, [.ref ly, .ref bl, .ref cv, .ref hg, .ref fl, .ref of_, .ref nm, .int rt, .int rk, .int ct])), (ly, .inl (cM, 2, .inr (.inr (.inr (.inr (rr2 l0 l1)))))), (l0, .inl (cI, 36, .inl D)), (l1, .inl (cI, 36, .inl W)), (hh, .inr (1, [.ref aa])), (aa, .inl (cI, 36, .inl f))] [(4, .int (nI 0)), (3, .int (-1)), (2, .int (-1)), (1, .int wh), (0, .ref x)] 7 []
  exact L7_0 ((36 - 0) + 1) 0 (-1) (-1) f (by omega) (rfl) (Nat.lt_succ_self _)
set_option maxHeartbeats 4000000 in
set_option maxRecDepth 100000 in
theorem c_X7_bestTwoHeaps (l : Launch) (dG : va_G) (cI cM cW cS : ClassId) (x tw pw uw rd bk pl asd fd : Nat) (wr : Nat) (hi9 : Int32) (o ly l0 l1 bl b0 b1 cv hg fl of_ nm : Nat) (rt rk ct : Int32) (hh aa : Nat) (D W f : Nat → Int32) (wh : Int32) : rM l yX7_bestTwoHeaps cX7_bestTwoHeaps 7 (some .int) ({ frames := 4, cells := 0, slots := 0, locals := 89 } : Room) dG (tY cI cM cW cS) rZ0 [.ref x, .int wh] [(x, .inr (6, [.ref tw, .ref pw, .ref uw, .ref o, .ref hh, .ref rd, .ref bk, .ref pl, .ref asd, .ref fd, .int (nI wr), .int hi9])), (o, .inr (0, [.ref ly, .ref bl, .ref cv, .ref hg, .ref fl, .ref of_, .ref nm, .int rt, .int rk, .int ct])), (ly, .inl (cM, 2, .inr (.inr (.inr (.inr (rr2 l0 l1)))))), (l0, .inl (cI, 36, .inl D)), (l1, .inl (cI, 36, .inl W)), (hh, .inr (1, [.ref aa])), (aa, .inl (cI, 36, .inl f))] (fun ov oz => ∃ (r : Int32) (f' : Nat → Int32), ov = some (.int r) ∧ oz = [(x, .inr (6, [.ref tw, .ref pw, .ref uw, .ref o, .ref hh, .ref rd, .ref bk, .ref pl, .ref asd, .ref fd, .int (nI wr), .int hi9])), (o, .inr (0, [.ref ly, .ref bl, .ref cv, .ref hg, .ref fl, .ref of_, .ref nm, .int rt, .int rk, .int ct])), (ly, .inl (cM, 2, .inr (.inr (.inr (.inr (rr2 l0 l1)))))), (l0, .inl (cI, 36, .inl D)), (l1, .inl (cI, 36, .inl W)), (hh, .inr (1, [.ref aa])), (aa, .inl (cI, 36, .inl f'))] ∧ r = if wh = 0 then (s_bo D W 36).1 else (s_bo D W 36).2) := by
  refine rM_ofI rfl (Nat.le_of_ble_eq_true rfl) rfl (fun X C E => ?_)
  show X 0 0 [(x, .inr (6, [.ref tw, .ref pw, .ref uw, .ref o, .ref hh, .ref rd, .ref bk, .ref pl, .ref asd, .ref fd, .int (nI wr), .int hi9])), (o, .inr (0, [.ref ly, .ref bl, .ref cv, .ref hg, .ref fl, .ref of_, .ref nm, .int rt, .int rk, .int ct])), (ly, .inl (cM, 2, .inr (.inr (.inr (.inr (rr2 l0 l1)))))), (l0, .inl (cI, 36, .inl D)), (l1, .inl (cI, 36, .inl W)), (hh, .inr (1, [.ref aa])), (aa, .inl (cI, 36, .inl f))] [(0, .ref x), (1, .int wh)] 0 []
  refine x_iconst C dX7_bestTwoHeaps_0 (v := (-1)) rfl ?_
  refine x_istore_n C dX7_bestTwoHeaps_1 (by decide) (lv' := [(2, .int (-1)), (0, .ref x), (1, .int wh)]) rfl ?_
  refine x_iconst C dX7_bestTwoHeaps_2 (v := (-1)) rfl ?_
  refine x_istore_n C dX7_bestTwoHeaps_3 (by decide) (lv' := [(3, .int (-1)), (2, .int (-1)), (0, .ref x), (1, .int wh)]) rfl ?_
  refine x_iconst C dX7_bestTwoHeaps_4 (v := 0) rfl ?_
  refine x_istore C dX7_bestTwoHeaps_5 (by decide) (lv' := [(4, .int 0), (3, .int (-1)), (2, .int (-1)), (0, .ref x), (1, .int wh)]) rfl ?_
  have L7_0 : ∀ (fuel : Nat) (c : Nat) (b pr : Int32) (f : Nat → Int32), (hc : c ≤ 36) → (hq : s_bo D W c = (b, pr)) → 36 - c < fuel → X 0 0 [(x, .inr (6, [.ref tw, .ref pw, .ref uw, .ref o, .ref hh, .ref rd, .ref bk, .ref pl, .ref asd, .ref fd, .int (nI wr), .int hi9])), (o, .inr (0, [.ref ly, .ref bl, .ref cv, .ref hg, .ref fl, .ref of_, .ref nm, .int rt, .int rk, .int ct])), (ly, .inl (cM, 2, .inr (.inr (.inr (.inr (rr2 l0 l1)))))), (l0, .inl (cI, 36, .inl D)), (l1, .inl (cI, 36, .inl W)), (hh, .inr (1, [.ref aa])), (aa, .inl (cI, 36, .inl f))] [(4, .int (nI c)), (3, .int pr), (2, .int b), (1, .int wh), (0, .ref x)] 7 [] := by
    intro fuel
    induction fuel with
    | zero => intros; omega
    | succ fuel ihL7_0 =>
      intro c b pr f hc hq hfu
      refine x_iload C dX7_bestTwoHeaps_7 0 rfl ?_
      refine x_bipush C dX7_bestTwoHeaps_9 (v := 36) rfl ?_
      refine x_icmp_ge C dX7_bestTwoHeaps_11 (tgt := 87) rfl (fun c2 => ?_) (fun c2 => ?_)
      ·
        have c2 : c ≥ 36 := q_ge_t rfl (rfl : (36 : Int32) = nI 36) (by omega) (by omega) c2
        refine x_iload_n C dX7_bestTwoHeaps_87 3 rfl ?_
        refine x_if_ne C dX7_bestTwoHeaps_88 (tgt := 95) rfl (fun c3 => ?_) (fun c3 => ?_)
        ·
          refine x_iload_n C dX7_bestTwoHeaps_95 1 rfl ?_
          refine E dX7_bestTwoHeaps_96 (rfl) ?_
          exact ⟨pr, f, rfl, rfl, by rw [show c = 36 by omega] at hq; rw [hq]; simp [*]⟩
        ·
          refine x_iload_n C dX7_bestTwoHeaps_91 2 rfl ?_
          refine x_goto C dX7_bestTwoHeaps_92 (tgt := 96) rfl ?_
          refine E dX7_bestTwoHeaps_96 (rfl) ?_
          exact ⟨b, f, rfl, rfl, by rw [show c = 36 by omega] at hq; rw [hq]; simp [*]⟩
      ·
        have c2 : c < 36 := q_ge_f rfl (rfl : (36 : Int32) = nI 36) (by omega) (by omega) c2
        refine x_iload C dX7_bestTwoHeaps_14 0 rfl ?_
        refine x_iconst C dX7_bestTwoHeaps_16 (v := 1) rfl ?_
        refine x_iadd C dX7_bestTwoHeaps_17 ?_
        refine x_istore C dX7_bestTwoHeaps_18 (by decide) (lv' := [(5, .int ((nI c) + 1)), (4, .int (nI c)), (3, .int pr), (2, .int b), (1, .int wh), (0, .ref x)]) rfl ?_
        have L20_3 : ∀ (fuel : Nat) (m : Nat) (bb pr1 : Int32) (f : Nat → Int32), (hm9 : c + 1 + m ≤ 36) → (hbi : s_bi D W c (b, pr) m = (bb, pr1)) → 36 - m < fuel → X 0 0 [(x, .inr (6, [.ref tw, .ref pw, .ref uw, .ref o, .ref hh, .ref rd, .ref bk, .ref pl, .ref asd, .ref fd, .int (nI wr), .int hi9])), (o, .inr (0, [.ref ly, .ref bl, .ref cv, .ref hg, .ref fl, .ref of_, .ref nm, .int rt, .int rk, .int ct])), (ly, .inl (cM, 2, .inr (.inr (.inr (.inr (rr2 l0 l1)))))), (l0, .inl (cI, 36, .inl D)), (l1, .inl (cI, 36, .inl W)), (hh, .inr (1, [.ref aa])), (aa, .inl (cI, 36, .inl f))] [(5, .int (nI (c + 1 + m))), (4, .int (nI c)), (3, .int pr1), (2, .int bb), (1, .int wh), (0, .ref x)] 20 [] := by
          intro fuel
          induction fuel with
          | zero => intros; omega
          | succ fuel ihL20_3 =>
            intro m bb pr1 f hm9 hbi hfu
            refine x_iload C dX7_bestTwoHeaps_20 0 rfl ?_
            refine x_bipush C dX7_bestTwoHeaps_22 (v := 36) rfl ?_
            refine x_icmp_ge C dX7_bestTwoHeaps_24 (tgt := 81) rfl (fun c5 => ?_) (fun c5 => ?_)
            ·
              have c5 : c + 1 + m ≥ 36 := q_ge_t rfl (rfl : (36 : Int32) = nI 36) (by omega) (by omega) c5
              refine x_iinc C dX7_bestTwoHeaps_81 1 rfl (v := nI (c + 1)) (nI_1 _) (by decide) (lv' := [(4, .int (nI (c + 1))), (5, .int (nI (c + 1 + m))), (3, .int pr1), (2, .int bb), (1, .int wh), (0, .ref x)]) rfl ?_
              refine x_goto C dX7_bestTwoHeaps_84 (tgt := 7) rfl ?_
              refine x_lv C [0, 2, 3, 4, 5] (lv' := [(4, .int (nI (c + 1))), (3, .int pr1), (2, .int bb), (1, .int wh), (0, .ref x)]) rfl ?_
              exact ihL7_0 (c + 1) bb pr1 f (by omega) (by rw [s_bo, hq, show 36 - (c + 1) = m by omega]; exact hbi) (by omega)
            ·
              have c5 : c + 1 + m < 36 := q_ge_f rfl (rfl : (36 : Int32) = nI 36) (by omega) (by omega) c5
              refine x_aload_n C dX7_bestTwoHeaps_27 5 rfl ?_
              refine x_get C inlX7 rfl 4 (by decide) gw_2_2 dX7_bestTwoHeaps_28 0 rfl rfl ?_
              refine x_lconst C dX7_bestTwoHeaps_31 (v := 1) rfl ?_
              refine x_iload C dX7_bestTwoHeaps_32 1 rfl ?_
              refine x_lshl C dX7_bestTwoHeaps_34 ?_
              refine x_topl C (s_bit c) rfl ?_
              refine x_lconst C dX7_bestTwoHeaps_35 (v := 1) rfl ?_
              refine x_iload C dX7_bestTwoHeaps_36 0 rfl ?_
              refine x_lshl C dX7_bestTwoHeaps_38 ?_
              refine x_topl C (s_bit (c + 1 + m)) rfl ?_
              refine x_lor C dX7_bestTwoHeaps_39 ?_
              refine x_aload_n C dX7_bestTwoHeaps_40 5 rfl ?_
              show X _ _ _ _ 41 _
              refine x_get C inlX7 rfl 3 (by decide) gw_1_22 dX7_bestTwoHeaps_41 0 rfl rfl ?_
              refine x_getN C inlX0 rfl 0 (by decide) nw_X7_183 dX7_bestTwoHeaps_44 1 rfl rfl ?_
              refine x_callV C (As := [.long ((s_bit c) ||| (s_bit (c + 1 + m))), .ref ly]) (st := []) (wc := [(hh, .inr (1, [.ref aa])), (aa, .inl (cI, 36, .inl f)), (ly, .inl (cM, 2, .inr (.inr (.inr (.inr (rr2 l0 l1)))))), (l0, .inl (cI, 36, .inl D)), (l1, .inl (cI, 36, .inl W))]) (wr := [(x, .inr (6, [.ref tw, .ref pw, .ref uw, .ref o, .ref hh, .ref rd, .ref bk, .ref pl, .ref asd, .ref fd, .int (nI wr), .int hi9])), (o, .inr (0, [.ref ly, .ref bl, .ref cv, .ref hg, .ref fl, .ref of_, .ref nm, .int rt, .int rk, .int ct]))]) (c_X1_cost l dG cI cM cW cS hh aa ly l0 l1 ((s_bit c) ||| (s_bit (c + 1 + m))) f D W (⟨c, by omega, s_bit_or c (by omega) (c + 1 + m) (by omega)⟩)) rZ0_ok (fun _ _ _ _ => trivial) kV_X7_225 ⟨rfl, hy_X1_cost⟩ ⟨Nat.le_of_ble_eq_true rfl, Nat.le_of_ble_eq_true rfl⟩ ⟨Nat.le_of_ble_eq_true rfl, Nat.le_of_ble_eq_true rfl⟩ dX7_bestTwoHeaps_47 5 rfl rfl [5, 6, 2, 3, 4] [0, 1] rfl rfl rfl rfl (by decide) rfl (Nat.le_of_ble_eq_true rfl) ?_
              intro v6 w7 h8
              obtain ⟨_, f_10, rfl, rfl, rfl⟩ := h8
              show X 0 0 [(x, .inr (6, [.ref tw, .ref pw, .ref uw, .ref o, .ref hh, .ref rd, .ref bk, .ref pl, .ref asd, .ref fd, .int (nI wr), .int hi9])), (o, .inr (0, [.ref ly, .ref bl, .ref cv, .ref hg, .ref fl, .ref of_, .ref nm, .int rt, .int rk, .int ct])), (hh, .inr (1, [.ref aa])), (aa, .inl (cI, 36, .inl f_10)), (ly, .inl (cM, 2, .inr (.inr (.inr (.inr (rr2 l0 l1)))))), (l0, .inl (cI, 36, .inl D)), (l1, .inl (cI, 36, .inl W))] [(5, .int (nI (c + 1 + m))), (4, .int (nI c)), (3, .int pr1), (2, .int bb), (1, .int wh), (0, .ref x)] 50 [.int (s_cost (s_b1 ((s_bit c) ||| (s_bit (c + 1 + m)))) D W)]
              obtain ⟨k9, hk9⟩ : ∃ z, z = s_cost (s_b1 (s_bit c ||| s_bit (c + 1 + m))) D W := ⟨_, rfl⟩
              refine x_topi C k9 hk9.symm ?_
              refine x_istore C dX7_bestTwoHeaps_50 (by decide) (lv' := [(6, .int k9), (5, .int (nI (c + 1 + m))), (4, .int (nI c)), (3, .int pr1), (2, .int bb), (1, .int wh), (0, .ref x)]) rfl ?_
              refine x_iload_n C dX7_bestTwoHeaps_52 4 rfl ?_
              refine x_iconst C dX7_bestTwoHeaps_53 (v := (-1)) rfl ?_
              refine x_icmp_eq C dX7_bestTwoHeaps_54 (tgt := 63) rfl (fun c12 => ?_) (fun c12 => ?_)
              ·
                refine x_bipush C dX7_bestTwoHeaps_63 (v := 100) rfl ?_
                refine x_iload C dX7_bestTwoHeaps_65 2 rfl ?_
                refine x_imul C dX7_bestTwoHeaps_67 ?_
                refine x_iload C dX7_bestTwoHeaps_68 1 rfl ?_
                refine x_iadd C dX7_bestTwoHeaps_70 ?_
                refine x_topi C (nI (100 * c + (c + 1 + m))) (q_iadd (a := 100 * c) (b := c + 1 + m) (q_imul (a := 100) (b := c) (rfl : (100 : Int32) = nI 100) rfl) rfl) ?_
                refine x_istore_n C dX7_bestTwoHeaps_71 (by decide) (lv' := [(2, .int (nI (100 * c + (c + 1 + m)))), (6, .int k9), (5, .int (nI (c + 1 + m))), (4, .int (nI c)), (3, .int pr1), (1, .int wh), (0, .ref x)]) rfl ?_
                refine x_iload C dX7_bestTwoHeaps_72 1 rfl ?_
                refine x_istore_n C dX7_bestTwoHeaps_74 (by decide) (lv' := [(3, .int k9), (2, .int (nI (100 * c + (c + 1 + m)))), (6, .int k9), (5, .int (nI (c + 1 + m))), (4, .int (nI c)), (1, .int wh), (0, .ref x)]) rfl ?_
                refine x_iinc C dX7_bestTwoHeaps_75 3 rfl (v := nI (c + 1 + m + 1)) (nI_1 _) (by decide) (lv' := [(5, .int (nI (c + 1 + m + 1))), (3, .int k9), (2, .int (nI (100 * c + (c + 1 + m)))), (6, .int k9), (4, .int (nI c)), (1, .int wh), (0, .ref x)]) rfl ?_
                refine x_goto C dX7_bestTwoHeaps_78 (tgt := 20) rfl ?_
                refine x_lv C [0, 4, 1, 2, 5, 6] (lv' := [(5, .int (nI (c + 1 + m + 1))), (4, .int (nI c)), (3, .int k9), (2, .int (nI (100 * c + (c + 1 + m)))), (1, .int wh), (0, .ref x)]) rfl ?_
                refine x_sub C [0, 1, 4, 5, 6, 2, 3] (ws' := [(x, .inr (6, [.ref tw, .ref pw, .ref uw, .ref o, .ref hh, .ref rd, .ref bk, .ref pl, .ref asd, .ref fd, .int (nI wr), .int hi9])), (o, .inr (0, [.ref ly, .ref bl, .ref cv, .ref hg, .ref fl, .ref of_, .ref nm, .int rt, .int rk, .int ct])), (ly, .inl (cM, 2, .inr (.inr (.inr (.inr (rr2 l0 l1)))))), (l0, .inl (cI, 36, .inl D)), (l1, .inl (cI, 36, .inl W)), (hh, .inr (1, [.ref aa])), (aa, .inl (cI, 36, .inl f_10))]) rfl rfl ?_
                exact ihL20_3 (m + 1) (nI (100 * c + (c + 1 + m))) k9 f_10 (by omega) (by rw [s_bi, hbi]; first | (exact (if_pos (Or.inl (by assumption))).trans (by rw [hk9])) | (exact (if_pos (Or.inr (by rw [← hk9]; exact Int32.not_le.mp (by assumption)))).trans (by rw [hk9])) | (exact if_neg (fun h => h.elim (by assumption) (fun h2 => absurd (by assumption) (Int32.not_le.mpr (by rw [← hk9] at h2; exact h2)))))) (by omega)
              ·
                refine x_iload C dX7_bestTwoHeaps_57 0 rfl ?_
                refine x_iload_n C dX7_bestTwoHeaps_59 3 rfl ?_
                refine x_icmp_ge C dX7_bestTwoHeaps_60 (tgt := 75) rfl (fun c13 => ?_) (fun c13 => ?_)
                ·
                  refine x_iinc C dX7_bestTwoHeaps_75 1 rfl (v := nI (c + 1 + m + 1)) (nI_1 _) (by decide) (lv' := [(5, .int (nI (c + 1 + m + 1))), (6, .int k9), (4, .int (nI c)), (3, .int pr1), (2, .int bb), (1, .int wh), (0, .ref x)]) rfl ?_
                  refine x_goto C dX7_bestTwoHeaps_78 (tgt := 20) rfl ?_
                  refine x_lv C [0, 2, 3, 4, 5, 6] (lv' := [(5, .int (nI (c + 1 + m + 1))), (4, .int (nI c)), (3, .int pr1), (2, .int bb), (1, .int wh), (0, .ref x)]) rfl ?_
                  refine x_sub C [0, 1, 4, 5, 6, 2, 3] (ws' := [(x, .inr (6, [.ref tw, .ref pw, .ref uw, .ref o, .ref hh, .ref rd, .ref bk, .ref pl, .ref asd, .ref fd, .int (nI wr), .int hi9])), (o, .inr (0, [.ref ly, .ref bl, .ref cv, .ref hg, .ref fl, .ref of_, .ref nm, .int rt, .int rk, .int ct])), (ly, .inl (cM, 2, .inr (.inr (.inr (.inr (rr2 l0 l1)))))), (l0, .inl (cI, 36, .inl D)), (l1, .inl (cI, 36, .inl W)), (hh, .inr (1, [.ref aa])), (aa, .inl (cI, 36, .inl f_10))]) rfl rfl ?_
                  exact ihL20_3 (m + 1) bb pr1 f_10 (by omega) (by rw [s_bi, hbi]; first | (exact (if_pos (Or.inl (by assumption))).trans (by rw [hk9])) | (exact (if_pos (Or.inr (by rw [← hk9]; exact Int32.not_le.mp (by assumption)))).trans (by rw [hk9])) | (exact if_neg (fun h => h.elim (by assumption) (fun h2 => absurd (by assumption) (Int32.not_le.mpr (by rw [← hk9] at h2; exact h2)))))) (by omega)
                ·
                  refine x_bipush C dX7_bestTwoHeaps_63 (v := 100) rfl ?_
                  refine x_iload C dX7_bestTwoHeaps_65 2 rfl ?_
                  refine x_imul C dX7_bestTwoHeaps_67 ?_
                  refine x_iload C dX7_bestTwoHeaps_68 1 rfl ?_
                  refine x_iadd C dX7_bestTwoHeaps_70 ?_
                  refine x_topi C (nI (100 * c + (c + 1 + m))) (q_iadd (a := 100 * c) (b := c + 1 + m) (q_imul (a := 100) (b := c) (rfl : (100 : Int32) = nI 100) rfl) rfl) ?_
                  refine x_istore_n C dX7_bestTwoHeaps_71 (by decide) (lv' := [(2, .int (nI (100 * c + (c + 1 + m)))), (6, .int k9), (5, .int (nI (c + 1 + m))), (4, .int (nI c)), (3, .int pr1), (1, .int wh), (0, .ref x)]) rfl ?_
                  refine x_iload C dX7_bestTwoHeaps_72 1 rfl ?_
                  refine x_istore_n C dX7_bestTwoHeaps_74 (by decide) (lv' := [(3, .int k9), (2, .int (nI (100 * c + (c + 1 + m)))), (6, .int k9), (5, .int (nI (c + 1 + m))), (4, .int (nI c)), (1, .int wh), (0, .ref x)]) rfl ?_
                  refine x_iinc C dX7_bestTwoHeaps_75 3 rfl (v := nI (c + 1 + m + 1)) (nI_1 _) (by decide) (lv' := [(5, .int (nI (c + 1 + m + 1))), (3, .int k9), (2, .int (nI (100 * c + (c + 1 + m)))), (6, .int k9), (4, .int (nI c)), (1, .int wh), (0, .ref x)]) rfl ?_
                  refine x_goto C dX7_bestTwoHeaps_78 (tgt := 20) rfl ?_
                  refine x_lv C [0, 4, 1, 2, 5, 6] (lv' := [(5, .int (nI (c + 1 + m + 1))), (4, .int (nI c)), (3, .int k9), (2, .int (nI (100 * c + (c + 1 + m)))), (1, .int wh), (0, .ref x)]) rfl ?_
                  refine x_sub C [0, 1, 4, 5, 6, 2, 3] (ws' := [(x, .inr (6, [.ref tw, .ref pw, .ref uw, .ref o, .ref hh, .ref rd, .ref bk, .ref pl, .ref asd, .ref fd, .int (nI wr), .int hi9])), (o, .inr (0, [.ref ly, .ref bl, .ref cv, .ref hg, .ref fl, .ref of_, .ref nm, .int rt, .int rk, .int ct])), (ly, .inl (cM, 2, .inr (.inr (.inr (.inr (rr2 l0 l1)))))), (l0, .inl (cI, 36, .inl D)), (l1, .inl (cI, 36, .inl W)), (hh, .inr (1, [.ref aa])), (aa, .inl (cI, 36, .inl f_10))]) rfl rfl ?_
                  exact ihL20_3 (m + 1) (nI (100 * c + (c + 1 + m))) k9 f_10 (by omega) (by rw [s_bi, hbi]; first | (exact (if_pos (Or.inl (by assumption))).trans (by rw [hk9])) | (exact (if_pos (Or.inr (by rw [← hk9]; exact Int32.not_le.mp (by assumption)))).trans (by rw [hk9])) | (exact if_neg (fun h => h.elim (by assumption) (fun h2 => absurd (by assumption) (Int32.not_le.mpr (by rw [← hk9] at h2; exact h2)))))) (by omega)
        rw [show ((nI c) + 1 : Int32) = nI (c + 1 + 0) from (q_iadd (a := c) (b := 1) rfl (rfl : (1 : Int32) = nI 1)).trans (congrArg nI (by omega))]
        show X 0 0 [(x, .inr (6, [.ref tw, .ref pw, .ref uw, .ref o, .ref hh, .ref rd, .ref bk, .ref pl, .ref asd, .ref fd, .int (nI wr), .int hi9])), (o, .inr (0, [.ref ly, .ref bl, .ref cv, .ref hg, .ref fl, .ref of_, .ref nm, .int rt, .int rk, .int ct])), (ly, .inl (cM, 2, .inr (.inr (.inr (.inr (rr2 l0 l1)))))), (l0, .inl (cI, 36, .inl D)), (l1, .inl (cI, 36, .inl W)), (hh, .inr (1, [.ref aa])), (aa, .inl (cI, 36, .inl f))] [(5, .int (nI (c + 1 + 0))), (4, .int (nI c)), (3, .int pr), (2, .int b), (1, .int wh), (0, .ref x)] 20 []
        exact L20_3 ((36 - 0) + 1) 0 b pr f (by omega) (rfl) (Nat.lt_succ_self _)
  refine x_lv C [0, 1, 2, 4, 3] (lv' := [(4, .int 0), (3, .int (-1)), (2, .int (-1)), (1, .int wh), (0, .ref x)]) rfl ?_
  show X 0 0 [(x, .inr (6, [.ref tw, .ref pw, .ref uw, .ref o, .ref hh, .ref rd, .ref bk, .ref pl, .ref asd, .ref fd, .int (nI wr), .int hi9])), (o, .inr (0, [.ref ly, .ref bl, .ref cv, .ref hg, .ref fl, .ref of_, .ref nm, .int rt, .int rk, .int ct])), (ly, .inl (cM, 2, .inr (.inr (.inr (.inr (rr2 l0 l1)))))), (l0, .inl (cI, 36, .inl D)), (l1, .inl (cI, 36, .inl W)), (hh, .inr (1, [.ref aa])), (aa, .inl (cI, 36, .inl f))] [(4, .int (nI 0)), (3, .int (-1)), (2, .int (-1)), (1, .int wh), (0, .ref x)] 7 []
  exact L7_0 ((36 - 0) + 1) 0 (-1) (-1) f (by omega) (rfl) (Nat.lt_succ_self _)
set_option maxHeartbeats 4000000 in
set_option maxRecDepth 100000 in
theorem c_X7_inLowestTerms (l : Launch) (dG : va_G) (cI cM cW cS : ClassId) (a b : Nat) (wh : Int32) (hab : a ≤ b) (hb : b < 2 ^ 30) (h0 : 0 < b) : rM l yX7_inLowestTerms cX7_inLowestTerms 7 (some .long) ({ frames := 0, cells := 0, slots := 0, locals := 0 } : Room) dG (tY cI cM cW cS) rZ0 [.int (nI a), .int (nI b), .int wh] [] (fun ov oz => ∃ (r : Int64), ov = some (.long r) ∧ oz = [] ∧ r = s_low a b wh) := by
  refine rM_ofL rfl (Nat.le_of_ble_eq_true rfl) rfl (fun X C E => ?_)
  show X 0 0 [] [(0, .int (nI a)), (1, .int (nI b)), (2, .int wh)] 0 []
  refine x_iload_n C dX7_inLowestTerms_0 1 rfl ?_
  refine x_istore_n C dX7_inLowestTerms_1 (by decide) (lv' := [(3, .int (nI b)), (0, .int (nI a)), (1, .int (nI b)), (2, .int wh)]) rfl ?_
  refine x_iload_n C dX7_inLowestTerms_2 1 rfl ?_
  refine x_istore C dX7_inLowestTerms_3 (by decide) (lv' := [(4, .int (nI a)), (3, .int (nI b)), (0, .int (nI a)), (1, .int (nI b)), (2, .int wh)]) rfl ?_
  refine x_iconst C dX7_inLowestTerms_5 (v := 0) rfl ?_
  refine x_istore C dX7_inLowestTerms_6 (by decide) (lv' := [(5, .int 0), (4, .int (nI a)), (3, .int (nI b)), (0, .int (nI a)), (1, .int (nI b)), (2, .int wh)]) rfl ?_
  have L8_0 : ∀ (fuel : Nat) (r y z : Nat), (hr : r ≤ 64) → (hg9 : Nat.gcd z y = Nat.gcd b a) → (hyz : y ≤ z) → (hz0 : 0 < z) → (hzb : z ≤ b) → (hp : z * y * 2 ^ r ≤ b * a) → 64 - r < fuel → X 0 0 [] [(5, .int (nI r)), (4, .int (nI y)), (3, .int (nI z)), (2, .int wh), (1, .int (nI b)), (0, .int (nI a))] 8 [] := by
    intro fuel
    induction fuel with
    | zero => intros; omega
    | succ fuel ihL8_0 =>
      intro r y z hr hg9 hyz hz0 hzb hp hfu
      refine x_iload C dX7_inLowestTerms_8 0 rfl ?_
      refine x_bipush C dX7_inLowestTerms_10 (v := 64) rfl ?_
      refine x_icmp_ge C dX7_inLowestTerms_12 (tgt := 39) rfl (fun c2 => ?_) (fun c2 => ?_)
      ·
        have c2 : r ≥ 64 := q_ge_t rfl (rfl : (64 : Int32) = nI 64) (by omega) (by omega) c2
        have hy0 : y = 0 := by first | assumption | exact q_low0 (show r = 64 by omega) hb hab hz0 hp
        have hzg : z = Nat.gcd a b := by rw [hy0, Nat.gcd_zero_right] at hg9; rw [hg9, Nat.gcd_comm]
        refine x_iload_n C dX7_inLowestTerms_39 2 rfl ?_
        refine x_if_ne C dX7_inLowestTerms_40 (tgt := 47) rfl (fun c3 => ?_) (fun c3 => ?_)
        ·
          have c3 : z ≠ 0 := q_ne_t rfl (rfl : (0 : Int32) = nI 0) (by omega) (by omega) c3
          refine x_iload_n C dX7_inLowestTerms_47 3 rfl ?_
          refine x_if_ne C dX7_inLowestTerms_48 (tgt := 55) rfl (fun c4 => ?_) (fun c4 => ?_)
          ·
            refine x_iload_n C dX7_inLowestTerms_55 4 rfl ?_
            refine x_iload_n C dX7_inLowestTerms_56 2 rfl ?_
            refine x_idiv C dX7_inLowestTerms_57 (nI_ne0 (by omega) (by omega)) ?_
            refine x_i2l C dX7_inLowestTerms_58 ?_
            have hlow : ((nI b) / (nI z)).toInt64 = s_low a b wh := by rw [s_low, ← hzg]; first | (rw [if_pos (by assumption)]; exact (congrArg Int32.toInt64 (pk_div (by omega) (by omega) (by omega))).trans (nI_l (Nat.lt_of_le_of_lt (Nat.div_le_self _ _) (by omega)))) | (rw [if_neg (by assumption)]; exact (congrArg Int32.toInt64 (pk_div (by omega) (by omega) (by omega))).trans (nI_l (Nat.lt_of_le_of_lt (Nat.div_le_self _ _) (by omega))))
            refine x_topl C (s_low a b wh) hlow ?_
            refine E dX7_inLowestTerms_59 ?_
            exact ⟨(s_low a b wh), rfl, rfl, rfl⟩
          ·
            refine x_iload_n C dX7_inLowestTerms_51 5 rfl ?_
            refine x_goto C dX7_inLowestTerms_52 (tgt := 56) rfl ?_
            refine x_iload_n C dX7_inLowestTerms_56 2 rfl ?_
            refine x_idiv C dX7_inLowestTerms_57 (nI_ne0 (by omega) (by omega)) ?_
            refine x_i2l C dX7_inLowestTerms_58 ?_
            have hlow : ((nI a) / (nI z)).toInt64 = s_low a b wh := by rw [s_low, ← hzg]; first | (rw [if_pos (by assumption)]; exact (congrArg Int32.toInt64 (pk_div (by omega) (by omega) (by omega))).trans (nI_l (Nat.lt_of_le_of_lt (Nat.div_le_self _ _) (by omega)))) | (rw [if_neg (by assumption)]; exact (congrArg Int32.toInt64 (pk_div (by omega) (by omega) (by omega))).trans (nI_l (Nat.lt_of_le_of_lt (Nat.div_le_self _ _) (by omega))))
            refine x_topl C (s_low a b wh) hlow ?_
            refine E dX7_inLowestTerms_59 ?_
            exact ⟨(s_low a b wh), rfl, rfl, rfl⟩
        ·
          have c3 : z = 0 := q_ne_f rfl (rfl : (0 : Int32) = nI 0) (by omega) (by omega) c3
          exfalso; omega
      ·
        have c2 : r < 64 := q_ge_f rfl (rfl : (64 : Int32) = nI 64) (by omega) (by omega) c2
        refine x_iload C dX7_inLowestTerms_15 1 rfl ?_
        refine x_if_eq C dX7_inLowestTerms_17 (tgt := 39) rfl (fun c5 => ?_) (fun c5 => ?_)
        ·
          have c5 : y = 0 := q_eq_t rfl (rfl : (0 : Int32) = nI 0) (by omega) (by omega) c5
          have hy0 : y = 0 := by first | assumption | exact q_low0 (show r = 64 by omega) hb hab hz0 hp
          have hzg : z = Nat.gcd a b := by rw [hy0, Nat.gcd_zero_right] at hg9; rw [hg9, Nat.gcd_comm]
          refine x_iload_n C dX7_inLowestTerms_39 2 rfl ?_
          refine x_if_ne C dX7_inLowestTerms_40 (tgt := 47) rfl (fun c6 => ?_) (fun c6 => ?_)
          ·
            have c6 : z ≠ 0 := q_ne_t rfl (rfl : (0 : Int32) = nI 0) (by omega) (by omega) c6
            refine x_iload_n C dX7_inLowestTerms_47 3 rfl ?_
            refine x_if_ne C dX7_inLowestTerms_48 (tgt := 55) rfl (fun c7 => ?_) (fun c7 => ?_)
            ·
              refine x_iload_n C dX7_inLowestTerms_55 4 rfl ?_
              refine x_iload_n C dX7_inLowestTerms_56 2 rfl ?_
              refine x_idiv C dX7_inLowestTerms_57 (nI_ne0 (by omega) (by omega)) ?_
              refine x_i2l C dX7_inLowestTerms_58 ?_
              have hlow : ((nI b) / (nI z)).toInt64 = s_low a b wh := by rw [s_low, ← hzg]; first | (rw [if_pos (by assumption)]; exact (congrArg Int32.toInt64 (pk_div (by omega) (by omega) (by omega))).trans (nI_l (Nat.lt_of_le_of_lt (Nat.div_le_self _ _) (by omega)))) | (rw [if_neg (by assumption)]; exact (congrArg Int32.toInt64 (pk_div (by omega) (by omega) (by omega))).trans (nI_l (Nat.lt_of_le_of_lt (Nat.div_le_self _ _) (by omega))))
              refine x_topl C (s_low a b wh) hlow ?_
              refine E dX7_inLowestTerms_59 ?_
              exact ⟨(s_low a b wh), rfl, rfl, rfl⟩
            ·
              refine x_iload_n C dX7_inLowestTerms_51 5 rfl ?_
              refine x_goto C dX7_inLowestTerms_52 (tgt := 56) rfl ?_
              refine x_iload_n C dX7_inLowestTerms_56 2 rfl ?_
              refine x_idiv C dX7_inLowestTerms_57 (nI_ne0 (by omega) (by omega)) ?_
              refine x_i2l C dX7_inLowestTerms_58 ?_
              have hlow : ((nI a) / (nI z)).toInt64 = s_low a b wh := by rw [s_low, ← hzg]; first | (rw [if_pos (by assumption)]; exact (congrArg Int32.toInt64 (pk_div (by omega) (by omega) (by omega))).trans (nI_l (Nat.lt_of_le_of_lt (Nat.div_le_self _ _) (by omega)))) | (rw [if_neg (by assumption)]; exact (congrArg Int32.toInt64 (pk_div (by omega) (by omega) (by omega))).trans (nI_l (Nat.lt_of_le_of_lt (Nat.div_le_self _ _) (by omega))))
              refine x_topl C (s_low a b wh) hlow ?_
              refine E dX7_inLowestTerms_59 ?_
              exact ⟨(s_low a b wh), rfl, rfl, rfl⟩
          ·
            have c6 : z = 0 := q_ne_f rfl (rfl : (0 : Int32) = nI 0) (by omega) (by omega) c6
            exfalso; omega
        ·
          have c5 : y ≠ 0 := q_eq_f rfl (rfl : (0 : Int32) = nI 0) (by omega) (by omega) c5
          refine x_iload_n C dX7_inLowestTerms_20 2 rfl ?_
          refine x_iload C dX7_inLowestTerms_21 1 rfl ?_
          refine x_irem C dX7_inLowestTerms_23 (by assumption) ?_
          refine x_istore C dX7_inLowestTerms_24 (by decide) (lv' := [(6, .int ((nI z) - (nI z) / (nI y) * (nI y))), (5, .int (nI r)), (4, .int (nI y)), (3, .int (nI z)), (2, .int wh), (1, .int (nI b)), (0, .int (nI a))]) rfl ?_
          refine x_iload C dX7_inLowestTerms_26 2 rfl ?_
          refine x_istore_n C dX7_inLowestTerms_28 (by decide) (lv' := [(3, .int (nI y)), (6, .int ((nI z) - (nI z) / (nI y) * (nI y))), (5, .int (nI r)), (4, .int (nI y)), (2, .int wh), (1, .int (nI b)), (0, .int (nI a))]) rfl ?_
          refine x_iload C dX7_inLowestTerms_29 1 rfl ?_
          refine x_istore C dX7_inLowestTerms_31 (by decide) (lv' := [(4, .int ((nI z) - (nI z) / (nI y) * (nI y))), (3, .int (nI y)), (6, .int ((nI z) - (nI z) / (nI y) * (nI y))), (5, .int (nI r)), (2, .int wh), (1, .int (nI b)), (0, .int (nI a))]) rfl ?_
          refine x_iinc C dX7_inLowestTerms_33 3 rfl (v := nI (r + 1)) (nI_1 _) (by decide) (lv' := [(5, .int (nI (r + 1))), (4, .int ((nI z) - (nI z) / (nI y) * (nI y))), (3, .int (nI y)), (6, .int ((nI z) - (nI z) / (nI y) * (nI y))), (2, .int wh), (1, .int (nI b)), (0, .int (nI a))]) rfl ?_
          refine x_goto C dX7_inLowestTerms_36 (tgt := 8) rfl ?_
          refine x_lv C [0, 1, 2, 4, 5, 6] (lv' := [(5, .int (nI (r + 1))), (4, .int ((nI z) - (nI z) / (nI y) * (nI y))), (3, .int (nI y)), (2, .int wh), (1, .int (nI b)), (0, .int (nI a))]) rfl ?_
          rw [show ((nI z) - (nI z) / (nI y) * (nI y) : Int32) = nI (z % y) from q_irem (a := z) (b := y) rfl rfl (by omega) (by omega) (by omega)]
          show X 0 0 [] [(5, .int (nI (r + 1))), (4, .int (nI (z % y))), (3, .int (nI y)), (2, .int wh), (1, .int (nI b)), (0, .int (nI a))] 8 []
          exact ihL8_0 (r + 1) (z % y) y (by omega) (q_gcd hg9 (by omega)) (Nat.le_of_lt (Nat.mod_lt _ (by omega))) (by omega) (by omega) (q_lowp hyz (by omega) hp) (by omega)
  refine x_lv C [0, 1, 2, 5, 4, 3] (lv' := [(5, .int 0), (4, .int (nI a)), (3, .int (nI b)), (2, .int wh), (1, .int (nI b)), (0, .int (nI a))]) rfl ?_
  show X 0 0 [] [(5, .int (nI 0)), (4, .int (nI a)), (3, .int (nI b)), (2, .int wh), (1, .int (nI b)), (0, .int (nI a))] 8 []
  exact L8_0 ((64 - 0) + 1) 0 a b (Nat.zero_le _) (rfl) (hab) (h0) (Nat.le_refl _) (by rw [Nat.pow_zero, Nat.mul_one]; exact Nat.le_refl _) (Nat.lt_succ_self _)
