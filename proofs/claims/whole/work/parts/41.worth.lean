theorem q_sw_m17_m11 {x : Int32} (h : (-17) ≤ x.toInt ∧ x.toInt ≤ (-11)) : x = (-17) ∨ x = (-16) ∨ x = (-15) ∨ x = (-14) ∨ x = (-13) ∨ x = (-12) ∨ x = (-11) := by
  have h9 : x.toInt = (-17) ∨ x.toInt = (-16) ∨ x.toInt = (-15) ∨ x.toInt = (-14) ∨ x.toInt = (-13) ∨ x.toInt = (-12) ∨ x.toInt = (-11) := by omega
  rcases h9 with h9 | h9 | h9 | h9 | h9 | h9 | h9
  · exact Or.inl (q_ti (by rw [h9]; rfl))
  · exact Or.inr (Or.inl (q_ti (by rw [h9]; rfl)))
  · exact Or.inr (Or.inr (Or.inl (q_ti (by rw [h9]; rfl))))
  · exact Or.inr (Or.inr (Or.inr (Or.inl (q_ti (by rw [h9]; rfl)))))
  · exact Or.inr (Or.inr (Or.inr (Or.inr (Or.inl (q_ti (by rw [h9]; rfl))))))
  · exact Or.inr (Or.inr (Or.inr (Or.inr (Or.inr (Or.inl (q_ti (by rw [h9]; rfl)))))))
  · exact Or.inr (Or.inr (Or.inr (Or.inr (Or.inr (Or.inr ((q_ti (by rw [h9]; rfl))))))))

set_option maxHeartbeats 4000000 in
set_option maxRecDepth 100000 in
theorem c_X8_worth (l : Launch) (dG : va_G) (cI cM cW cS : ClassId) (m a_sky a_kind a_more a_strewn a_treeCell a_treeSort a_treeLeaves a_tape a_code a_begins a_stack a_dry a_wet a_covered a_hangs a_off a_dryGo a_wetGo a_keptSky a_oldSky a_oldCells a_sheetSort a_sheetSize a_items a_spare : Nat) (tn tz wr lw itn ilw : Nat) (i_raking i_made i_at i_from i_sort i_value i_open i_fell i_fellToday i_rotten i_raked i_cost i_imaged i_oldRaking : Int32) (l_heaps l_oldHeaps : Int64) (mc bg stk : Nat → Int32) (T : sT) (p : Nat) (le so fr we ts my : Int32) (hp : p < 3) (hlw : lw < 6) (hok : s_ok T) (hL : s_mlaw mc bg lw T) : rM l yX8_worth cX8_worth 15 (some .int) ({ frames := 1, cells := 0, slots := 0, locals := 14 } : Room) dG (tY cI cM cW cS) rZ0 [.ref m, .int (nI p), .int le, .int so, .int fr, .int we, .int ts, .int my] [(m, .inr (7, [.ref a_sky, .ref a_kind, .ref a_more, .ref a_strewn, .int (nI tn), .ref a_treeCell, .ref a_treeSort, .ref a_treeLeaves, .int i_raking, .long l_heaps, .int (nI tz), .ref a_tape, .int (nI wr), .int (nI lw), .ref a_code, .ref a_begins, .int i_made, .int i_at, .int i_from, .int i_sort, .int i_value, .int i_open, .ref a_stack, .ref a_dry, .ref a_wet, .ref a_covered, .ref a_hangs, .ref a_off, .int i_fell, .int i_fellToday, .int i_rotten, .int i_raked, .int i_cost, .ref a_dryGo, .ref a_wetGo, .ref a_keptSky, .int i_imaged, .int (nI itn), .int i_oldRaking, .long l_oldHeaps, .int (nI ilw), .ref a_oldSky, .ref a_oldCells, .ref a_sheetSort, .ref a_sheetSize, .ref a_items, .ref a_spare])), (a_begins, .inl (cI, 24, .inl bg)), (a_code, .inl (cI, 1020, .inl mc)), (a_stack, .inl (cI, 170, .inl stk))] (fun ov oz => ∃ (r : Int32) (stk' : Nat → Int32), ov = some (.int r) ∧ oz = [(m, .inr (7, [.ref a_sky, .ref a_kind, .ref a_more, .ref a_strewn, .int (nI tn), .ref a_treeCell, .ref a_treeSort, .ref a_treeLeaves, .int i_raking, .long l_heaps, .int (nI tz), .ref a_tape, .int (nI wr), .int (nI lw), .ref a_code, .ref a_begins, .int i_made, .int i_at, .int i_from, .int i_sort, .int i_value, .int i_open, .ref a_stack, .ref a_dry, .ref a_wet, .ref a_covered, .ref a_hangs, .ref a_off, .int i_fell, .int i_fellToday, .int i_rotten, .int i_raked, .int i_cost, .ref a_dryGo, .ref a_wetGo, .ref a_keptSky, .int i_imaged, .int (nI itn), .int i_oldRaking, .long l_oldHeaps, .int (nI ilw), .ref a_oldSky, .ref a_oldCells, .ref a_sheetSort, .ref a_sheetSize, .ref a_items, .ref a_spare])), (a_begins, .inl (cI, 24, .inl bg)), (a_code, .inl (cI, 1020, .inl mc)), (a_stack, .inl (cI, 170, .inl stk'))] ∧ r = s_says T p (s_nm le so fr we ts my)) := by
  refine rM_ofI rfl (Nat.le_of_ble_eq_true rfl) rfl (fun X C E => ?_)
  show X 0 0 [(m, .inr (7, [.ref a_sky, .ref a_kind, .ref a_more, .ref a_strewn, .int (nI tn), .ref a_treeCell, .ref a_treeSort, .ref a_treeLeaves, .int i_raking, .long l_heaps, .int (nI tz), .ref a_tape, .int (nI wr), .int (nI lw), .ref a_code, .ref a_begins, .int i_made, .int i_at, .int i_from, .int i_sort, .int i_value, .int i_open, .ref a_stack, .ref a_dry, .ref a_wet, .ref a_covered, .ref a_hangs, .ref a_off, .int i_fell, .int i_fellToday, .int i_rotten, .int i_raked, .int i_cost, .ref a_dryGo, .ref a_wetGo, .ref a_keptSky, .int i_imaged, .int (nI itn), .int i_oldRaking, .long l_oldHeaps, .int (nI ilw), .ref a_oldSky, .ref a_oldCells, .ref a_sheetSort, .ref a_sheetSize, .ref a_items, .ref a_spare])), (a_begins, .inl (cI, 24, .inl bg)), (a_code, .inl (cI, 1020, .inl mc)), (a_stack, .inl (cI, 170, .inl stk))] [(0, .ref m), (1, .int (nI p)), (2, .int le), (3, .int so), (4, .int fr), (5, .int we), (6, .int ts), (7, .int my)] 0 []
  have ho := s_off_succ T hp
  have ho2 := s_off_le T hp
  have ho3 := hok.2
  refine x_aload_n C dX8_worth_0 0 rfl ?_
  refine x_get C inlX8 rfl 15 (by decide) gw_11_3 dX8_worth_1 0 rfl rfl ?_
  refine x_iconst C dX8_worth_4 (v := 4) rfl ?_
  refine x_aload_n C dX8_worth_5 0 rfl ?_
  refine x_get C inlX8 rfl 13 (by decide) gw_16_6 dX8_worth_6 0 rfl rfl ?_
  refine x_imul C dX8_worth_9 ?_
  refine x_iload_n C dX8_worth_10 1 rfl ?_
  refine x_iadd C dX8_worth_11 ?_
  refine x_iconst C dX8_worth_12 (v := 1) rfl ?_
  refine x_iadd C dX8_worth_13 ?_
  show X _ _ _ _ 14 _
  refine x_iaload C 0 rfl dX8_worth_14 (((4 * lw) + p) + 1) (q_cl (q_iadd (a := (4 * lw) + p) (b := 1) (q_iadd (a := 4 * lw) (b := p) (q_imul (a := 4) (b := lw) (rfl : (4 : Int32) = nI 4) rfl) rfl) (rfl : (1 : Int32) = nI 1)) (by omega)) (q_ix (q_iadd (a := (4 * lw) + p) (b := 1) (q_iadd (a := 4 * lw) (b := p) (q_imul (a := 4) (b := lw) (rfl : (4 : Int32) = nI 4) rfl) rfl) (rfl : (1 : Int32) = nI 1)) (by omega) (by omega)) 1 rfl ?_
  refine x_topi C (nI (s_off T (p + 1))) (hL.1 (p + 1) (by omega)) ?_
  refine x_istore C dX8_worth_15 (by decide) (lv' := [(8, .int (nI (s_off T (p + 1)))), (0, .ref m), (1, .int (nI p)), (2, .int le), (3, .int so), (4, .int fr), (5, .int we), (6, .int ts), (7, .int my)]) rfl ?_
  refine x_iconst C dX8_worth_17 (v := 0) rfl ?_
  refine x_istore C dX8_worth_18 (by decide) (lv' := [(9, .int 0), (8, .int (nI (s_off T (p + 1)))), (0, .ref m), (1, .int (nI p)), (2, .int le), (3, .int so), (4, .int fr), (5, .int we), (6, .int ts), (7, .int my)]) rfl ?_
  refine x_aload_n C dX8_worth_20 2 rfl ?_
  refine x_get C inlX8 rfl 15 (by decide) gw_11_3 dX8_worth_21 0 rfl rfl ?_
  refine x_iconst C dX8_worth_24 (v := 4) rfl ?_
  refine x_aload_n C dX8_worth_25 2 rfl ?_
  refine x_get C inlX8 rfl 13 (by decide) gw_16_6 dX8_worth_26 0 rfl rfl ?_
  refine x_imul C dX8_worth_29 ?_
  show X _ _ _ _ 30 _
  refine x_iload_n C dX8_worth_30 3 rfl ?_
  refine x_iadd C dX8_worth_31 ?_
  refine x_iaload C 0 rfl dX8_worth_32 ((4 * lw) + p) (q_cl (q_iadd (a := 4 * lw) (b := p) (q_imul (a := 4) (b := lw) (rfl : (4 : Int32) = nI 4) rfl) rfl) (by omega)) (q_ix (q_iadd (a := 4 * lw) (b := p) (q_imul (a := 4) (b := lw) (rfl : (4 : Int32) = nI 4) rfl) rfl) (by omega) (by omega)) 1 rfl ?_
  refine x_topi C (nI (s_off T p)) (hL.1 p (by omega)) ?_
  refine x_istore C dX8_worth_33 (by decide) (lv' := [(10, .int (nI (s_off T p))), (9, .int 0), (8, .int (nI (s_off T (p + 1)))), (0, .ref m), (1, .int (nI p)), (2, .int le), (3, .int so), (4, .int fr), (5, .int we), (6, .int ts), (7, .int my)]) rfl ?_
  have L35_0 : ∀ (fuel : Nat) (t d : Nat) (f : Nat → Int32), (ht : t ≤ (T p).length) → (hr : s_run (s_nm le so fr we ts my) ((T p).take t) (stk, 0) = (f, d)) → (hd : ((T p).take t).foldl s_dp (some 0) = some d) → (T p).length - t < fuel → X 0 0 [(m, .inr (7, [.ref a_sky, .ref a_kind, .ref a_more, .ref a_strewn, .int (nI tn), .ref a_treeCell, .ref a_treeSort, .ref a_treeLeaves, .int i_raking, .long l_heaps, .int (nI tz), .ref a_tape, .int (nI wr), .int (nI lw), .ref a_code, .ref a_begins, .int i_made, .int i_at, .int i_from, .int i_sort, .int i_value, .int i_open, .ref a_stack, .ref a_dry, .ref a_wet, .ref a_covered, .ref a_hangs, .ref a_off, .int i_fell, .int i_fellToday, .int i_rotten, .int i_raked, .int i_cost, .ref a_dryGo, .ref a_wetGo, .ref a_keptSky, .int i_imaged, .int (nI itn), .int i_oldRaking, .long l_oldHeaps, .int (nI ilw), .ref a_oldSky, .ref a_oldCells, .ref a_sheetSort, .ref a_sheetSize, .ref a_items, .ref a_spare])), (a_begins, .inl (cI, 24, .inl bg)), (a_code, .inl (cI, 1020, .inl mc)), (a_stack, .inl (cI, 170, .inl f))] [(10, .int (nI (s_off T p + t))), (9, .int (nI d)), (8, .int (nI (s_off T (p + 1)))), (7, .int my), (6, .int ts), (5, .int we), (4, .int fr), (3, .int so), (2, .int le), (1, .int (nI p)), (0, .ref m)] 35 [] := by
    intro fuel
    induction fuel with
    | zero => intros; omega
    | succ fuel ihL35_0 =>
      intro t d f ht hr hd hfu
      have hdt : d ≤ t := by
        have h9 := s_dp_le _ _ _ hd
        rw [List.length_take] at h9
        omega
      refine x_iload C dX8_worth_35 0 rfl ?_
      refine x_iload C dX8_worth_37 2 rfl ?_
      refine x_icmp_ge C dX8_worth_39 (tgt := 398) rfl (fun c2 => ?_) (fun c2 => ?_)
      ·
        have c2 : s_off T p + t ≥ s_off T (p + 1) := q_ge_t rfl rfl (by omega) (by omega) c2
        refine x_iconst C dX8_worth_398 (v := 0) rfl ?_
        refine x_iload_n C dX8_worth_399 9 rfl ?_
        refine x_if_ne C dX8_worth_400 (tgt := 409) rfl (fun c3 => ?_) (fun c3 => ?_)
        ·
          have c3 : p ≠ 0 := q_ne_t rfl (rfl : (0 : Int32) = nI 0) (by omega) (by omega) c3
          refine x_bipush C dX8_worth_409 (v := 100) rfl ?_
          refine x_aload_n C dX8_worth_411 10 rfl ?_
          refine x_get C inlX8 rfl 22 (by decide) gw_11_4 dX8_worth_412 0 rfl rfl ?_
          refine x_iconst C dX8_worth_415 (v := 0) rfl ?_
          refine x_iaload C 0 rfl dX8_worth_416 0 rfl (q_ix (rfl : (0 : Int32) = nI 0) (by decide) (by decide)) 3 rfl ?_
          refine x_mmin C gw_18_15 gw_17_16 gw_17_17 gw_17_18 (Nat.le_of_ble_eq_true rfl) (Nat.le_of_ble_eq_true rfl) (Nat.le_of_ble_eq_true rfl) (Nat.le_of_ble_eq_true rfl) dX8_worth_417 ?_
          refine x_mmax C gw_18_16 gw_17_20 gw_17_17 gw_17_21 (Nat.le_of_ble_eq_true rfl) (Nat.le_of_ble_eq_true rfl) (Nat.le_of_ble_eq_true rfl) (Nat.le_of_ble_eq_true rfl) dX8_worth_420 ?_
          refine E dX8_worth_423 (rfl) ?_
          exact ⟨(if 0 < (if (f 0) < 100 then (f 0) else 100) then (if (f 0) < 100 then (f 0) else 100) else 0), f, rfl, rfl, by ((have et : t = (T p).length := by omega); (subst et); (rw [List.take_length] at hr); (have hv := s_val_of (nm := (s_nm le so fr we ts my)) (f := stk) (hok.1 p hp)); (rw [hr] at hv); (show s_clamp _ (f 0) = _); (rw [show f 0 = s_val (s_nm le so fr we ts my) (T p) from hv]); simp [s_says, s_most, *])⟩
        ·
          have c3 : p = 0 := q_ne_f rfl (rfl : (0 : Int32) = nI 0) (by omega) (by omega) c3
          refine x_sipush C dX8_worth_403 (v := 999) rfl ?_
          refine x_goto C dX8_worth_406 (tgt := 411) rfl ?_
          refine x_aload_n C dX8_worth_411 10 rfl ?_
          refine x_get C inlX8 rfl 22 (by decide) gw_11_4 dX8_worth_412 0 rfl rfl ?_
          refine x_iconst C dX8_worth_415 (v := 0) rfl ?_
          refine x_iaload C 0 rfl dX8_worth_416 0 rfl (q_ix (rfl : (0 : Int32) = nI 0) (by decide) (by decide)) 3 rfl ?_
          refine x_mmin C gw_18_15 gw_17_16 gw_17_17 gw_17_18 (Nat.le_of_ble_eq_true rfl) (Nat.le_of_ble_eq_true rfl) (Nat.le_of_ble_eq_true rfl) (Nat.le_of_ble_eq_true rfl) dX8_worth_417 ?_
          refine x_mmax C gw_18_16 gw_17_20 gw_17_17 gw_17_21 (Nat.le_of_ble_eq_true rfl) (Nat.le_of_ble_eq_true rfl) (Nat.le_of_ble_eq_true rfl) (Nat.le_of_ble_eq_true rfl) dX8_worth_420 ?_
          refine E dX8_worth_423 (rfl) ?_
          exact ⟨(if 0 < (if (f 0) < 999 then (f 0) else 999) then (if (f 0) < 999 then (f 0) else 999) else 0), f, rfl, rfl, by ((have et : t = (T p).length := by omega); (subst et); (rw [List.take_length] at hr); (have hv := s_val_of (nm := (s_nm le so fr we ts my)) (f := stk) (hok.1 p hp)); (rw [hr] at hv); (show s_clamp _ (f 0) = _); (rw [show f 0 = s_val (s_nm le so fr we ts my) (T p) from hv]); simp [s_says, s_most, *])⟩
      ·
        have c2 : s_off T p + t < s_off T (p + 1) := q_ge_f rfl rfl (by omega) (by omega) c2
        refine x_aload_n C dX8_worth_42 10 rfl ?_
        refine x_get C inlX8 rfl 14 (by decide) gw_11_2 dX8_worth_43 0 rfl rfl ?_
        refine x_sipush C dX8_worth_46 (v := 170) rfl ?_
        refine x_aload_n C dX8_worth_49 10 rfl ?_
        refine x_get C inlX8 rfl 13 (by decide) gw_16_6 dX8_worth_50 0 rfl rfl ?_
        refine x_imul C dX8_worth_53 ?_
        refine x_iload C dX8_worth_54 0 rfl ?_
        refine x_iadd C dX8_worth_56 ?_
        refine x_iaload C 0 rfl dX8_worth_57 ((170 * lw) + (s_off T p + t)) (q_cl (q_iadd (a := 170 * lw) (b := s_off T p + t) (q_imul (a := 170) (b := lw) (rfl : (170 : Int32) = nI 170) rfl) rfl) (by omega)) (q_ix (q_iadd (a := 170 * lw) (b := s_off T p + t) (q_imul (a := 170) (b := lw) (rfl : (170 : Int32) = nI 170) rfl) rfl) (by omega) (by omega)) 2 rfl ?_
        have ht2 : t < (T p).length := by omega
        obtain ⟨op, hop⟩ : ∃ z, z = (T p).getD t 0 := ⟨_, rfl⟩
        have hnx := s_dp_next (hok.1 p hp) ht2 hop hd
        refine x_topi C (s_mop op) (by rw [hop]; exact (congrArg mc (by omega)).trans (hL.2 p hp t ht2)) ?_
        refine x_istore C dX8_worth_58 (by decide) (lv' := [(11, .int (s_mop op)), (10, .int (nI (s_off T p + t))), (9, .int (nI d)), (8, .int (nI (s_off T (p + 1)))), (7, .int my), (6, .int ts), (5, .int we), (4, .int fr), (3, .int so), (2, .int le), (1, .int (nI p)), (0, .ref m)]) rfl ?_
        show X _ _ _ _ 60 _
        refine x_iload C dX8_worth_60 0 rfl ?_
        refine x_if_lt C dX8_worth_62 (tgt := 80) rfl (fun c4 => ?_) (fun c4 => ?_)
        ·
          have hneg := c4
          refine x_iload C dX8_worth_80 0 rfl ?_
          refine x_bipush C dX8_worth_82 (v := (-7)) rfl ?_
          refine x_icmp_le C dX8_worth_84 (tgt := 159) rfl (fun c5 => ?_) (fun c5 => ?_)
          ·
            have hn6 : ¬ -6 ≤ op := s_mop_op c5
            have hd1 : 1 ≤ d := s_dp_1 hnx hn6
            refine x_aload_n C dX8_worth_159 11 rfl ?_
            refine x_get C inlX8 rfl 22 (by decide) gw_11_4 dX8_worth_160 0 rfl rfl ?_
            refine x_iload C dX8_worth_163 2 rfl ?_
            refine x_iconst C dX8_worth_165 (v := 1) rfl ?_
            refine x_isub C dX8_worth_166 ?_
            refine x_iaload C 0 rfl dX8_worth_167 (d - 1) (q_cl (q_isub (a := d) (b := 1) rfl (rfl : (1 : Int32) = nI 1) (by omega)) (by omega)) (q_ix (q_isub (a := d) (b := 1) rfl (rfl : (1 : Int32) = nI 1) (by omega)) (by omega) (by omega)) 3 rfl ?_
            refine x_istore C dX8_worth_168 (by decide) (lv' := [(12, .int (f (d - 1))), (11, .int (s_mop op)), (10, .int (nI (s_off T p + t))), (9, .int (nI d)), (8, .int (nI (s_off T (p + 1)))), (7, .int my), (6, .int ts), (5, .int we), (4, .int fr), (3, .int so), (2, .int le), (1, .int (nI p)), (0, .ref m)]) rfl ?_
            refine x_iload C dX8_worth_170 1 rfl ?_
            refine x_bipush C dX8_worth_172 (v := (-13)) rfl ?_
            refine x_icmp_ne C dX8_worth_174 (tgt := 199) rfl (fun c6 => ?_) (fun c6 => ?_)
            ·
              have hn8 : ¬ op = -8 := fun e => c6 ((s_mop_13 hn6).mpr e)
              have hn13 := c6
              refine x_iload C dX8_worth_199 1 rfl ?_
              refine x_bipush C dX8_worth_201 (v := (-19)) rfl ?_
              refine x_icmp_ne C dX8_worth_203 (tgt := 221) rfl (fun c7 => ?_) (fun c7 => ?_)
              ·
                have hn7 : ¬ op = -7 := fun e => c7 ((s_mop_19 hn6).mpr e)
                have hb8 := q_m8 hn6 hn8 hn7
                have hdd := s_dp_bi hnx hn6 hb8
                have hdd1 := hdd.1
                refine x_aload_n C dX8_worth_221 12 rfl ?_
                refine x_get C inlX8 rfl 22 (by decide) gw_11_4 dX8_worth_222 0 rfl rfl ?_
                refine x_iload C dX8_worth_225 3 rfl ?_
                refine x_iconst C dX8_worth_227 (v := 2) rfl ?_
                refine x_isub C dX8_worth_228 ?_
                refine x_iaload C 0 rfl dX8_worth_229 (d - 2) (q_cl (q_isub (a := d) (b := 2) rfl (rfl : (2 : Int32) = nI 2) (by omega)) (by omega)) (q_ix (q_isub (a := d) (b := 2) rfl (rfl : (2 : Int32) = nI 2) (by omega)) (by omega) (by omega)) 3 rfl ?_
                refine x_istore C dX8_worth_230 (by decide) (lv' := [(13, .int (f (d - 2))), (12, .int (f (d - 1))), (11, .int (s_mop op)), (10, .int (nI (s_off T p + t))), (9, .int (nI d)), (8, .int (nI (s_off T (p + 1)))), (7, .int my), (6, .int ts), (5, .int we), (4, .int fr), (3, .int so), (2, .int le), (1, .int (nI p)), (0, .ref m)]) rfl ?_
                refine x_iinc C dX8_worth_232 4 rfl (v := nI (d - 1)) (q_dec (by omega)) (by decide) (lv' := [(9, .int (nI (d - 1))), (13, .int (f (d - 2))), (12, .int (f (d - 1))), (11, .int (s_mop op)), (10, .int (nI (s_off T p + t))), (8, .int (nI (s_off T (p + 1)))), (7, .int my), (6, .int ts), (5, .int we), (4, .int fr), (3, .int so), (2, .int le), (1, .int (nI p)), (0, .ref m)]) rfl ?_
                refine x_iload C dX8_worth_235 3 rfl ?_
                rcases q_sw (s_mop op) (-17) (-11) with q8 | q8
                ·
                  refine x_tableOut C dX8_worth_237 q8 (tgt := 374) rfl ?_
                  have hsw : ¬ s_mop op = -17 ∧ ¬ s_mop op = -16 ∧ ¬ s_mop op = -15 ∧ ¬ s_mop op = -14 ∧ ¬ s_mop op = -12 ∧ ¬ s_mop op = -11 := by refine ⟨?_, ?_, ?_, ?_, ?_, ?_⟩ <;> (intro h; rw [h] at q8; revert q8; decide)
                  have hsm := s_mop_18 hn6 hn8 hn7 hsw
                  refine x_iload C dX8_worth_374 1 rfl ?_
                  refine x_iload C dX8_worth_376 2 rfl ?_
                  refine x_imul C dX8_worth_378 ?_
                  refine x_istore C dX8_worth_379 (by decide) (lv' := [(14, .int ((f (d - 2)) * (f (d - 1)))), (9, .int (nI (d - 1))), (13, .int (f (d - 2))), (12, .int (f (d - 1))), (11, .int (s_mop op)), (10, .int (nI (s_off T p + t))), (8, .int (nI (s_off T (p + 1)))), (7, .int my), (6, .int ts), (5, .int we), (4, .int fr), (3, .int so), (2, .int le), (1, .int (nI p)), (0, .ref m)]) rfl ?_
                  refine x_aload_n C dX8_worth_381 14 rfl ?_
                  refine x_get C inlX8 rfl 22 (by decide) gw_11_4 dX8_worth_382 0 rfl rfl ?_
                  refine x_iload C dX8_worth_385 1 rfl ?_
                  refine x_iconst C dX8_worth_387 (v := 1) rfl ?_
                  refine x_isub C dX8_worth_388 ?_
                  refine x_iload C dX8_worth_389 0 rfl ?_
                  show X _ _ _ _ 391 _
                  refine x_iastore C 0 rfl dX8_worth_391 ((d - 1) - 1) (q_cl (q_isub (a := d - 1) (b := 1) rfl (rfl : (1 : Int32) = nI 1) (by omega)) (by omega)) (q_ix (q_isub (a := d - 1) (b := 1) rfl (rfl : (1 : Int32) = nI 1) (by omega)) (by omega) (by omega)) 3 rfl ?_
                  show X _ _ [(m, .inr (7, [.ref a_sky, .ref a_kind, .ref a_more, .ref a_strewn, .int (nI tn), .ref a_treeCell, .ref a_treeSort, .ref a_treeLeaves, .int i_raking, .long l_heaps, .int (nI tz), .ref a_tape, .int (nI wr), .int (nI lw), .ref a_code, .ref a_begins, .int i_made, .int i_at, .int i_from, .int i_sort, .int i_value, .int i_open, .ref a_stack, .ref a_dry, .ref a_wet, .ref a_covered, .ref a_hangs, .ref a_off, .int i_fell, .int i_fellToday, .int i_rotten, .int i_raked, .int i_cost, .ref a_dryGo, .ref a_wetGo, .ref a_keptSky, .int i_imaged, .int (nI itn), .int i_oldRaking, .long l_oldHeaps, .int (nI ilw), .ref a_oldSky, .ref a_oldCells, .ref a_sheetSort, .ref a_sheetSize, .ref a_items, .ref a_spare])), (a_begins, .inl (cI, 24, .inl bg)), (a_code, .inl (cI, 1020, .inl mc)), (a_stack, .inl (cI, 170, .inl (upd f ((d - 1) - 1) ((f (d - 2)) * (f (d - 1))))))] _ _ _
                  refine x_iinc C dX8_worth_392 5 rfl (v := nI (s_off T p + t + 1)) (nI_1 _) (by decide) (lv' := [(10, .int (nI (s_off T p + t + 1))), (14, .int ((f (d - 2)) * (f (d - 1)))), (9, .int (nI (d - 1))), (13, .int (f (d - 2))), (12, .int (f (d - 1))), (11, .int (s_mop op)), (8, .int (nI (s_off T (p + 1)))), (7, .int my), (6, .int ts), (5, .int we), (4, .int fr), (3, .int so), (2, .int le), (1, .int (nI p)), (0, .ref m)]) rfl ?_
                  refine x_goto C dX8_worth_395 (tgt := 35) rfl ?_
                  refine x_lv C [0, 2, 6, 7, 8, 9, 10, 11, 12, 13, 14] (lv' := [(10, .int (nI (s_off T p + t + 1))), (9, .int (nI (d - 1))), (8, .int (nI (s_off T (p + 1)))), (7, .int my), (6, .int ts), (5, .int we), (4, .int fr), (3, .int so), (2, .int le), (1, .int (nI p)), (0, .ref m)]) rfl ?_
                  exact ihL35_0 (t + 1) (d - 1) (upd f ((d - 1) - 1) ((f (d - 2)) * (f (d - 1)))) (by omega) (by rw [s_run_succ _ _ ht2 hop, hr]; first | (simp only [s_st, if_pos hop6]; rw [if_pos hop0]; done) | (simp only [s_st, if_pos hop6]; rw [if_neg hop0, s_nm_name hop6 hop0]; first | (simp [hq1, hq2, hq3, hq4, hq5]; done) | (simp [hq1, hq2, hq3, hq4]; done) | (simp [hq1, hq2, hq3]; done) | (simp [hq1, hq2]; done) | (simp [hq1]; done)) | (simp only [s_st, if_neg hn6]; rw [if_pos (by rw [h8]; decide), h8]; simp [s_turn, s_tru, *]; done) | (simp only [s_st, if_neg hn6]; rw [if_pos (by rw [h7]; decide), h7]; simp [s_turn, s_tru]; done) | (simp only [s_st, if_neg hn6, if_neg hb8]; rw [s_join_m hn6 hn8 hn7, hsm, show d - 1 - 1 = d - 2 from rfl]; first | (simp [s_tru, hlt]; done) | (simp [s_tru, *]; done))) (by rw [s_dpl_succ _ ht2 hop, hd]; first | (simp [s_dp, hop6]; done) | exact hdd.2) (by omega)
                ·
                  rcases q_sw_m17_m11 q8 with q8 | q8 | q8 | q8 | q8 | q8 | q8
                  ·
                    have q8 : (s_mop op) = (-17) := q8
                    refine x_tableIn C dX8_worth_237 (by rw [q8]; decide) (by rw [q8]; decide) (off := 127) (tgt := 364) (by rw [q8]; rfl) rfl ?_
                    have hsm := q8
                    refine x_iload C dX8_worth_364 1 rfl ?_
                    refine x_iload C dX8_worth_366 2 rfl ?_
                    refine x_isub C dX8_worth_368 ?_
                    refine x_istore C dX8_worth_369 (by decide) (lv' := [(14, .int ((f (d - 2)) - (f (d - 1)))), (9, .int (nI (d - 1))), (13, .int (f (d - 2))), (12, .int (f (d - 1))), (11, .int (s_mop op)), (10, .int (nI (s_off T p + t))), (8, .int (nI (s_off T (p + 1)))), (7, .int my), (6, .int ts), (5, .int we), (4, .int fr), (3, .int so), (2, .int le), (1, .int (nI p)), (0, .ref m)]) rfl ?_
                    refine x_goto C dX8_worth_371 (tgt := 381) rfl ?_
                    refine x_aload_n C dX8_worth_381 14 rfl ?_
                    refine x_get C inlX8 rfl 22 (by decide) gw_11_4 dX8_worth_382 0 rfl rfl ?_
                    refine x_iload C dX8_worth_385 1 rfl ?_
                    refine x_iconst C dX8_worth_387 (v := 1) rfl ?_
                    refine x_isub C dX8_worth_388 ?_
                    show X _ _ _ _ 389 _
                    refine x_iload C dX8_worth_389 0 rfl ?_
                    refine x_iastore C 0 rfl dX8_worth_391 ((d - 1) - 1) (q_cl (q_isub (a := d - 1) (b := 1) rfl (rfl : (1 : Int32) = nI 1) (by omega)) (by omega)) (q_ix (q_isub (a := d - 1) (b := 1) rfl (rfl : (1 : Int32) = nI 1) (by omega)) (by omega) (by omega)) 3 rfl ?_
                    show X _ _ [(m, .inr (7, [.ref a_sky, .ref a_kind, .ref a_more, .ref a_strewn, .int (nI tn), .ref a_treeCell, .ref a_treeSort, .ref a_treeLeaves, .int i_raking, .long l_heaps, .int (nI tz), .ref a_tape, .int (nI wr), .int (nI lw), .ref a_code, .ref a_begins, .int i_made, .int i_at, .int i_from, .int i_sort, .int i_value, .int i_open, .ref a_stack, .ref a_dry, .ref a_wet, .ref a_covered, .ref a_hangs, .ref a_off, .int i_fell, .int i_fellToday, .int i_rotten, .int i_raked, .int i_cost, .ref a_dryGo, .ref a_wetGo, .ref a_keptSky, .int i_imaged, .int (nI itn), .int i_oldRaking, .long l_oldHeaps, .int (nI ilw), .ref a_oldSky, .ref a_oldCells, .ref a_sheetSort, .ref a_sheetSize, .ref a_items, .ref a_spare])), (a_begins, .inl (cI, 24, .inl bg)), (a_code, .inl (cI, 1020, .inl mc)), (a_stack, .inl (cI, 170, .inl (upd f ((d - 1) - 1) ((f (d - 2)) - (f (d - 1))))))] _ _ _
                    refine x_iinc C dX8_worth_392 5 rfl (v := nI (s_off T p + t + 1)) (nI_1 _) (by decide) (lv' := [(10, .int (nI (s_off T p + t + 1))), (14, .int ((f (d - 2)) - (f (d - 1)))), (9, .int (nI (d - 1))), (13, .int (f (d - 2))), (12, .int (f (d - 1))), (11, .int (s_mop op)), (8, .int (nI (s_off T (p + 1)))), (7, .int my), (6, .int ts), (5, .int we), (4, .int fr), (3, .int so), (2, .int le), (1, .int (nI p)), (0, .ref m)]) rfl ?_
                    refine x_goto C dX8_worth_395 (tgt := 35) rfl ?_
                    refine x_lv C [0, 2, 6, 7, 8, 9, 10, 11, 12, 13, 14] (lv' := [(10, .int (nI (s_off T p + t + 1))), (9, .int (nI (d - 1))), (8, .int (nI (s_off T (p + 1)))), (7, .int my), (6, .int ts), (5, .int we), (4, .int fr), (3, .int so), (2, .int le), (1, .int (nI p)), (0, .ref m)]) rfl ?_
                    exact ihL35_0 (t + 1) (d - 1) (upd f ((d - 1) - 1) ((f (d - 2)) - (f (d - 1)))) (by omega) (by rw [s_run_succ _ _ ht2 hop, hr]; first | (simp only [s_st, if_pos hop6]; rw [if_pos hop0]; done) | (simp only [s_st, if_pos hop6]; rw [if_neg hop0, s_nm_name hop6 hop0]; first | (simp [hq1, hq2, hq3, hq4, hq5]; done) | (simp [hq1, hq2, hq3, hq4]; done) | (simp [hq1, hq2, hq3]; done) | (simp [hq1, hq2]; done) | (simp [hq1]; done)) | (simp only [s_st, if_neg hn6]; rw [if_pos (by rw [h8]; decide), h8]; simp [s_turn, s_tru, *]; done) | (simp only [s_st, if_neg hn6]; rw [if_pos (by rw [h7]; decide), h7]; simp [s_turn, s_tru]; done) | (simp only [s_st, if_neg hn6, if_neg hb8]; rw [s_join_m hn6 hn8 hn7, hsm, show d - 1 - 1 = d - 2 from rfl]; first | (simp [s_tru, hlt]; done) | (simp [s_tru, *]; done))) (by rw [s_dpl_succ _ ht2 hop, hd]; first | (simp [s_dp, hop6]; done) | exact hdd.2) (by omega)
                  ·
                    have q8 : (s_mop op) = (-16) := q8
                    refine x_tableIn C dX8_worth_237 (by rw [q8]; decide) (by rw [q8]; decide) (off := 117) (tgt := 354) (by rw [q8]; rfl) rfl ?_
                    have hsm := q8
                    refine x_iload C dX8_worth_354 1 rfl ?_
                    refine x_iload C dX8_worth_356 2 rfl ?_
                    refine x_iadd C dX8_worth_358 ?_
                    refine x_istore C dX8_worth_359 (by decide) (lv' := [(14, .int ((f (d - 2)) + (f (d - 1)))), (9, .int (nI (d - 1))), (13, .int (f (d - 2))), (12, .int (f (d - 1))), (11, .int (s_mop op)), (10, .int (nI (s_off T p + t))), (8, .int (nI (s_off T (p + 1)))), (7, .int my), (6, .int ts), (5, .int we), (4, .int fr), (3, .int so), (2, .int le), (1, .int (nI p)), (0, .ref m)]) rfl ?_
                    refine x_goto C dX8_worth_361 (tgt := 381) rfl ?_
                    refine x_aload_n C dX8_worth_381 14 rfl ?_
                    refine x_get C inlX8 rfl 22 (by decide) gw_11_4 dX8_worth_382 0 rfl rfl ?_
                    refine x_iload C dX8_worth_385 1 rfl ?_
                    refine x_iconst C dX8_worth_387 (v := 1) rfl ?_
                    refine x_isub C dX8_worth_388 ?_
                    show X _ _ _ _ 389 _
                    refine x_iload C dX8_worth_389 0 rfl ?_
                    refine x_iastore C 0 rfl dX8_worth_391 ((d - 1) - 1) (q_cl (q_isub (a := d - 1) (b := 1) rfl (rfl : (1 : Int32) = nI 1) (by omega)) (by omega)) (q_ix (q_isub (a := d - 1) (b := 1) rfl (rfl : (1 : Int32) = nI 1) (by omega)) (by omega) (by omega)) 3 rfl ?_
                    show X _ _ [(m, .inr (7, [.ref a_sky, .ref a_kind, .ref a_more, .ref a_strewn, .int (nI tn), .ref a_treeCell, .ref a_treeSort, .ref a_treeLeaves, .int i_raking, .long l_heaps, .int (nI tz), .ref a_tape, .int (nI wr), .int (nI lw), .ref a_code, .ref a_begins, .int i_made, .int i_at, .int i_from, .int i_sort, .int i_value, .int i_open, .ref a_stack, .ref a_dry, .ref a_wet, .ref a_covered, .ref a_hangs, .ref a_off, .int i_fell, .int i_fellToday, .int i_rotten, .int i_raked, .int i_cost, .ref a_dryGo, .ref a_wetGo, .ref a_keptSky, .int i_imaged, .int (nI itn), .int i_oldRaking, .long l_oldHeaps, .int (nI ilw), .ref a_oldSky, .ref a_oldCells, .ref a_sheetSort, .ref a_sheetSize, .ref a_items, .ref a_spare])), (a_begins, .inl (cI, 24, .inl bg)), (a_code, .inl (cI, 1020, .inl mc)), (a_stack, .inl (cI, 170, .inl (upd f ((d - 1) - 1) ((f (d - 2)) + (f (d - 1))))))] _ _ _
                    refine x_iinc C dX8_worth_392 5 rfl (v := nI (s_off T p + t + 1)) (nI_1 _) (by decide) (lv' := [(10, .int (nI (s_off T p + t + 1))), (14, .int ((f (d - 2)) + (f (d - 1)))), (9, .int (nI (d - 1))), (13, .int (f (d - 2))), (12, .int (f (d - 1))), (11, .int (s_mop op)), (8, .int (nI (s_off T (p + 1)))), (7, .int my), (6, .int ts), (5, .int we), (4, .int fr), (3, .int so), (2, .int le), (1, .int (nI p)), (0, .ref m)]) rfl ?_
                    refine x_goto C dX8_worth_395 (tgt := 35) rfl ?_
                    refine x_lv C [0, 2, 6, 7, 8, 9, 10, 11, 12, 13, 14] (lv' := [(10, .int (nI (s_off T p + t + 1))), (9, .int (nI (d - 1))), (8, .int (nI (s_off T (p + 1)))), (7, .int my), (6, .int ts), (5, .int we), (4, .int fr), (3, .int so), (2, .int le), (1, .int (nI p)), (0, .ref m)]) rfl ?_
                    exact ihL35_0 (t + 1) (d - 1) (upd f ((d - 1) - 1) ((f (d - 2)) + (f (d - 1)))) (by omega) (by rw [s_run_succ _ _ ht2 hop, hr]; first | (simp only [s_st, if_pos hop6]; rw [if_pos hop0]; done) | (simp only [s_st, if_pos hop6]; rw [if_neg hop0, s_nm_name hop6 hop0]; first | (simp [hq1, hq2, hq3, hq4, hq5]; done) | (simp [hq1, hq2, hq3, hq4]; done) | (simp [hq1, hq2, hq3]; done) | (simp [hq1, hq2]; done) | (simp [hq1]; done)) | (simp only [s_st, if_neg hn6]; rw [if_pos (by rw [h8]; decide), h8]; simp [s_turn, s_tru, *]; done) | (simp only [s_st, if_neg hn6]; rw [if_pos (by rw [h7]; decide), h7]; simp [s_turn, s_tru]; done) | (simp only [s_st, if_neg hn6, if_neg hb8]; rw [s_join_m hn6 hn8 hn7, hsm, show d - 1 - 1 = d - 2 from rfl]; first | (simp [s_tru, hlt]; done) | (simp [s_tru, *]; done))) (by rw [s_dpl_succ _ ht2 hop, hd]; first | (simp [s_dp, hop6]; done) | exact hdd.2) (by omega)
                  ·
                    have q8 : (s_mop op) = (-15) := q8
                    refine x_tableIn C dX8_worth_237 (by rw [q8]; decide) (by rw [q8]; decide) (off := 100) (tgt := 337) (by rw [q8]; rfl) rfl ?_
                    have hsm := q8
                    refine x_iload C dX8_worth_337 1 rfl ?_
                    refine x_iload C dX8_worth_339 2 rfl ?_
                    refine x_icmp_ne C dX8_worth_341 (tgt := 348) rfl (fun c9 => ?_) (fun c9 => ?_)
                    ·
                      refine x_iconst C dX8_worth_348 (v := 0) rfl ?_
                      refine x_istore C dX8_worth_349 (by decide) (lv' := [(14, .int 0), (9, .int (nI (d - 1))), (13, .int (f (d - 2))), (12, .int (f (d - 1))), (11, .int (s_mop op)), (10, .int (nI (s_off T p + t))), (8, .int (nI (s_off T (p + 1)))), (7, .int my), (6, .int ts), (5, .int we), (4, .int fr), (3, .int so), (2, .int le), (1, .int (nI p)), (0, .ref m)]) rfl ?_
                      refine x_goto C dX8_worth_351 (tgt := 381) rfl ?_
                      refine x_aload_n C dX8_worth_381 14 rfl ?_
                      refine x_get C inlX8 rfl 22 (by decide) gw_11_4 dX8_worth_382 0 rfl rfl ?_
                      refine x_iload C dX8_worth_385 1 rfl ?_
                      refine x_iconst C dX8_worth_387 (v := 1) rfl ?_
                      refine x_isub C dX8_worth_388 ?_
                      refine x_iload C dX8_worth_389 0 rfl ?_
                      refine x_iastore C 0 rfl dX8_worth_391 ((d - 1) - 1) (q_cl (q_isub (a := d - 1) (b := 1) rfl (rfl : (1 : Int32) = nI 1) (by omega)) (by omega)) (q_ix (q_isub (a := d - 1) (b := 1) rfl (rfl : (1 : Int32) = nI 1) (by omega)) (by omega) (by omega)) 3 rfl ?_
                      show X _ _ [(m, .inr (7, [.ref a_sky, .ref a_kind, .ref a_more, .ref a_strewn, .int (nI tn), .ref a_treeCell, .ref a_treeSort, .ref a_treeLeaves, .int i_raking, .long l_heaps, .int (nI tz), .ref a_tape, .int (nI wr), .int (nI lw), .ref a_code, .ref a_begins, .int i_made, .int i_at, .int i_from, .int i_sort, .int i_value, .int i_open, .ref a_stack, .ref a_dry, .ref a_wet, .ref a_covered, .ref a_hangs, .ref a_off, .int i_fell, .int i_fellToday, .int i_rotten, .int i_raked, .int i_cost, .ref a_dryGo, .ref a_wetGo, .ref a_keptSky, .int i_imaged, .int (nI itn), .int i_oldRaking, .long l_oldHeaps, .int (nI ilw), .ref a_oldSky, .ref a_oldCells, .ref a_sheetSort, .ref a_sheetSize, .ref a_items, .ref a_spare])), (a_begins, .inl (cI, 24, .inl bg)), (a_code, .inl (cI, 1020, .inl mc)), (a_stack, .inl (cI, 170, .inl (upd f ((d - 1) - 1) 0)))] _ _ _
                      show X _ _ _ _ 392 _
                      refine x_iinc C dX8_worth_392 5 rfl (v := nI (s_off T p + t + 1)) (nI_1 _) (by decide) (lv' := [(10, .int (nI (s_off T p + t + 1))), (14, .int 0), (9, .int (nI (d - 1))), (13, .int (f (d - 2))), (12, .int (f (d - 1))), (11, .int (s_mop op)), (8, .int (nI (s_off T (p + 1)))), (7, .int my), (6, .int ts), (5, .int we), (4, .int fr), (3, .int so), (2, .int le), (1, .int (nI p)), (0, .ref m)]) rfl ?_
                      refine x_goto C dX8_worth_395 (tgt := 35) rfl ?_
                      refine x_lv C [0, 2, 6, 7, 8, 9, 10, 11, 12, 13, 14] (lv' := [(10, .int (nI (s_off T p + t + 1))), (9, .int (nI (d - 1))), (8, .int (nI (s_off T (p + 1)))), (7, .int my), (6, .int ts), (5, .int we), (4, .int fr), (3, .int so), (2, .int le), (1, .int (nI p)), (0, .ref m)]) rfl ?_
                      exact ihL35_0 (t + 1) (d - 1) (upd f ((d - 1) - 1) 0) (by omega) (by rw [s_run_succ _ _ ht2 hop, hr]; first | (simp only [s_st, if_pos hop6]; rw [if_pos hop0]; done) | (simp only [s_st, if_pos hop6]; rw [if_neg hop0, s_nm_name hop6 hop0]; first | (simp [hq1, hq2, hq3, hq4, hq5]; done) | (simp [hq1, hq2, hq3, hq4]; done) | (simp [hq1, hq2, hq3]; done) | (simp [hq1, hq2]; done) | (simp [hq1]; done)) | (simp only [s_st, if_neg hn6]; rw [if_pos (by rw [h8]; decide), h8]; simp [s_turn, s_tru, *]; done) | (simp only [s_st, if_neg hn6]; rw [if_pos (by rw [h7]; decide), h7]; simp [s_turn, s_tru]; done) | (simp only [s_st, if_neg hn6, if_neg hb8]; rw [s_join_m hn6 hn8 hn7, hsm, show d - 1 - 1 = d - 2 from rfl]; first | (simp [s_tru, hlt]; done) | (simp [s_tru, *]; done))) (by rw [s_dpl_succ _ ht2 hop, hd]; first | (simp [s_dp, hop6]; done) | exact hdd.2) (by omega)
                    ·
                      refine x_iconst C dX8_worth_344 (v := 1) rfl ?_
                      refine x_goto C dX8_worth_345 (tgt := 349) rfl ?_
                      refine x_istore C dX8_worth_349 (by decide) (lv' := [(14, .int 1), (9, .int (nI (d - 1))), (13, .int (f (d - 2))), (12, .int (f (d - 1))), (11, .int (s_mop op)), (10, .int (nI (s_off T p + t))), (8, .int (nI (s_off T (p + 1)))), (7, .int my), (6, .int ts), (5, .int we), (4, .int fr), (3, .int so), (2, .int le), (1, .int (nI p)), (0, .ref m)]) rfl ?_
                      refine x_goto C dX8_worth_351 (tgt := 381) rfl ?_
                      refine x_aload_n C dX8_worth_381 14 rfl ?_
                      refine x_get C inlX8 rfl 22 (by decide) gw_11_4 dX8_worth_382 0 rfl rfl ?_
                      refine x_iload C dX8_worth_385 1 rfl ?_
                      refine x_iconst C dX8_worth_387 (v := 1) rfl ?_
                      refine x_isub C dX8_worth_388 ?_
                      refine x_iload C dX8_worth_389 0 rfl ?_
                      show X _ _ _ _ 391 _
                      refine x_iastore C 0 rfl dX8_worth_391 ((d - 1) - 1) (q_cl (q_isub (a := d - 1) (b := 1) rfl (rfl : (1 : Int32) = nI 1) (by omega)) (by omega)) (q_ix (q_isub (a := d - 1) (b := 1) rfl (rfl : (1 : Int32) = nI 1) (by omega)) (by omega) (by omega)) 3 rfl ?_
                      show X _ _ [(m, .inr (7, [.ref a_sky, .ref a_kind, .ref a_more, .ref a_strewn, .int (nI tn), .ref a_treeCell, .ref a_treeSort, .ref a_treeLeaves, .int i_raking, .long l_heaps, .int (nI tz), .ref a_tape, .int (nI wr), .int (nI lw), .ref a_code, .ref a_begins, .int i_made, .int i_at, .int i_from, .int i_sort, .int i_value, .int i_open, .ref a_stack, .ref a_dry, .ref a_wet, .ref a_covered, .ref a_hangs, .ref a_off, .int i_fell, .int i_fellToday, .int i_rotten, .int i_raked, .int i_cost, .ref a_dryGo, .ref a_wetGo, .ref a_keptSky, .int i_imaged, .int (nI itn), .int i_oldRaking, .long l_oldHeaps, .int (nI ilw), .ref a_oldSky, .ref a_oldCells, .ref a_sheetSort, .ref a_sheetSize, .ref a_items, .ref a_spare])), (a_begins, .inl (cI, 24, .inl bg)), (a_code, .inl (cI, 1020, .inl mc)), (a_stack, .inl (cI, 170, .inl (upd f ((d - 1) - 1) 1)))] _ _ _
                      refine x_iinc C dX8_worth_392 5 rfl (v := nI (s_off T p + t + 1)) (nI_1 _) (by decide) (lv' := [(10, .int (nI (s_off T p + t + 1))), (14, .int 1), (9, .int (nI (d - 1))), (13, .int (f (d - 2))), (12, .int (f (d - 1))), (11, .int (s_mop op)), (8, .int (nI (s_off T (p + 1)))), (7, .int my), (6, .int ts), (5, .int we), (4, .int fr), (3, .int so), (2, .int le), (1, .int (nI p)), (0, .ref m)]) rfl ?_
                      refine x_goto C dX8_worth_395 (tgt := 35) rfl ?_
                      refine x_lv C [0, 2, 6, 7, 8, 9, 10, 11, 12, 13, 14] (lv' := [(10, .int (nI (s_off T p + t + 1))), (9, .int (nI (d - 1))), (8, .int (nI (s_off T (p + 1)))), (7, .int my), (6, .int ts), (5, .int we), (4, .int fr), (3, .int so), (2, .int le), (1, .int (nI p)), (0, .ref m)]) rfl ?_
                      exact ihL35_0 (t + 1) (d - 1) (upd f ((d - 1) - 1) 1) (by omega) (by rw [s_run_succ _ _ ht2 hop, hr]; first | (simp only [s_st, if_pos hop6]; rw [if_pos hop0]; done) | (simp only [s_st, if_pos hop6]; rw [if_neg hop0, s_nm_name hop6 hop0]; first | (simp [hq1, hq2, hq3, hq4, hq5]; done) | (simp [hq1, hq2, hq3, hq4]; done) | (simp [hq1, hq2, hq3]; done) | (simp [hq1, hq2]; done) | (simp [hq1]; done)) | (simp only [s_st, if_neg hn6]; rw [if_pos (by rw [h8]; decide), h8]; simp [s_turn, s_tru, *]; done) | (simp only [s_st, if_neg hn6]; rw [if_pos (by rw [h7]; decide), h7]; simp [s_turn, s_tru]; done) | (simp only [s_st, if_neg hn6, if_neg hb8]; rw [s_join_m hn6 hn8 hn7, hsm, show d - 1 - 1 = d - 2 from rfl]; first | (simp [s_tru, hlt]; done) | (simp [s_tru, *]; done))) (by rw [s_dpl_succ _ ht2 hop, hd]; first | (simp [s_dp, hop6]; done) | exact hdd.2) (by omega)
                  ·
                    have q8 : (s_mop op) = (-14) := q8
                    refine x_tableIn C dX8_worth_237 (by rw [q8]; decide) (by rw [q8]; decide) (off := 83) (tgt := 320) (by rw [q8]; rfl) rfl ?_
                    have hsm := q8
                    refine x_iload C dX8_worth_320 1 rfl ?_
                    refine x_iload C dX8_worth_322 2 rfl ?_
                    refine x_icmp_ge C dX8_worth_324 (tgt := 331) rfl (fun c10 => ?_) (fun c10 => ?_)
                    ·
                      have hlt : ¬ f (d - 2) < f (d - 1) := Int32.not_lt.mpr c10
                      refine x_iconst C dX8_worth_331 (v := 0) rfl ?_
                      refine x_istore C dX8_worth_332 (by decide) (lv' := [(14, .int 0), (9, .int (nI (d - 1))), (13, .int (f (d - 2))), (12, .int (f (d - 1))), (11, .int (s_mop op)), (10, .int (nI (s_off T p + t))), (8, .int (nI (s_off T (p + 1)))), (7, .int my), (6, .int ts), (5, .int we), (4, .int fr), (3, .int so), (2, .int le), (1, .int (nI p)), (0, .ref m)]) rfl ?_
                      refine x_goto C dX8_worth_334 (tgt := 381) rfl ?_
                      refine x_aload_n C dX8_worth_381 14 rfl ?_
                      refine x_get C inlX8 rfl 22 (by decide) gw_11_4 dX8_worth_382 0 rfl rfl ?_
                      refine x_iload C dX8_worth_385 1 rfl ?_
                      refine x_iconst C dX8_worth_387 (v := 1) rfl ?_
                      refine x_isub C dX8_worth_388 ?_
                      refine x_iload C dX8_worth_389 0 rfl ?_
                      refine x_iastore C 0 rfl dX8_worth_391 ((d - 1) - 1) (q_cl (q_isub (a := d - 1) (b := 1) rfl (rfl : (1 : Int32) = nI 1) (by omega)) (by omega)) (q_ix (q_isub (a := d - 1) (b := 1) rfl (rfl : (1 : Int32) = nI 1) (by omega)) (by omega) (by omega)) 3 rfl ?_
                      show X _ _ [(m, .inr (7, [.ref a_sky, .ref a_kind, .ref a_more, .ref a_strewn, .int (nI tn), .ref a_treeCell, .ref a_treeSort, .ref a_treeLeaves, .int i_raking, .long l_heaps, .int (nI tz), .ref a_tape, .int (nI wr), .int (nI lw), .ref a_code, .ref a_begins, .int i_made, .int i_at, .int i_from, .int i_sort, .int i_value, .int i_open, .ref a_stack, .ref a_dry, .ref a_wet, .ref a_covered, .ref a_hangs, .ref a_off, .int i_fell, .int i_fellToday, .int i_rotten, .int i_raked, .int i_cost, .ref a_dryGo, .ref a_wetGo, .ref a_keptSky, .int i_imaged, .int (nI itn), .int i_oldRaking, .long l_oldHeaps, .int (nI ilw), .ref a_oldSky, .ref a_oldCells, .ref a_sheetSort, .ref a_sheetSize, .ref a_items, .ref a_spare])), (a_begins, .inl (cI, 24, .inl bg)), (a_code, .inl (cI, 1020, .inl mc)), (a_stack, .inl (cI, 170, .inl (upd f ((d - 1) - 1) 0)))] _ _ _
                      show X _ _ _ _ 392 _
                      refine x_iinc C dX8_worth_392 5 rfl (v := nI (s_off T p + t + 1)) (nI_1 _) (by decide) (lv' := [(10, .int (nI (s_off T p + t + 1))), (14, .int 0), (9, .int (nI (d - 1))), (13, .int (f (d - 2))), (12, .int (f (d - 1))), (11, .int (s_mop op)), (8, .int (nI (s_off T (p + 1)))), (7, .int my), (6, .int ts), (5, .int we), (4, .int fr), (3, .int so), (2, .int le), (1, .int (nI p)), (0, .ref m)]) rfl ?_
                      refine x_goto C dX8_worth_395 (tgt := 35) rfl ?_
                      refine x_lv C [0, 2, 6, 7, 8, 9, 10, 11, 12, 13, 14] (lv' := [(10, .int (nI (s_off T p + t + 1))), (9, .int (nI (d - 1))), (8, .int (nI (s_off T (p + 1)))), (7, .int my), (6, .int ts), (5, .int we), (4, .int fr), (3, .int so), (2, .int le), (1, .int (nI p)), (0, .ref m)]) rfl ?_
                      exact ihL35_0 (t + 1) (d - 1) (upd f ((d - 1) - 1) 0) (by omega) (by rw [s_run_succ _ _ ht2 hop, hr]; first | (simp only [s_st, if_pos hop6]; rw [if_pos hop0]; done) | (simp only [s_st, if_pos hop6]; rw [if_neg hop0, s_nm_name hop6 hop0]; first | (simp [hq1, hq2, hq3, hq4, hq5]; done) | (simp [hq1, hq2, hq3, hq4]; done) | (simp [hq1, hq2, hq3]; done) | (simp [hq1, hq2]; done) | (simp [hq1]; done)) | (simp only [s_st, if_neg hn6]; rw [if_pos (by rw [h8]; decide), h8]; simp [s_turn, s_tru, *]; done) | (simp only [s_st, if_neg hn6]; rw [if_pos (by rw [h7]; decide), h7]; simp [s_turn, s_tru]; done) | (simp only [s_st, if_neg hn6, if_neg hb8]; rw [s_join_m hn6 hn8 hn7, hsm, show d - 1 - 1 = d - 2 from rfl]; first | (simp [s_tru, hlt]; done) | (simp [s_tru, *]; done))) (by rw [s_dpl_succ _ ht2 hop, hd]; first | (simp [s_dp, hop6]; done) | exact hdd.2) (by omega)
                    ·
                      have hlt : f (d - 2) < f (d - 1) := Int32.not_le.mp c10
                      refine x_iconst C dX8_worth_327 (v := 1) rfl ?_
                      refine x_goto C dX8_worth_328 (tgt := 332) rfl ?_
                      refine x_istore C dX8_worth_332 (by decide) (lv' := [(14, .int 1), (9, .int (nI (d - 1))), (13, .int (f (d - 2))), (12, .int (f (d - 1))), (11, .int (s_mop op)), (10, .int (nI (s_off T p + t))), (8, .int (nI (s_off T (p + 1)))), (7, .int my), (6, .int ts), (5, .int we), (4, .int fr), (3, .int so), (2, .int le), (1, .int (nI p)), (0, .ref m)]) rfl ?_
                      refine x_goto C dX8_worth_334 (tgt := 381) rfl ?_
                      refine x_aload_n C dX8_worth_381 14 rfl ?_
                      refine x_get C inlX8 rfl 22 (by decide) gw_11_4 dX8_worth_382 0 rfl rfl ?_
                      refine x_iload C dX8_worth_385 1 rfl ?_
                      refine x_iconst C dX8_worth_387 (v := 1) rfl ?_
                      refine x_isub C dX8_worth_388 ?_
                      refine x_iload C dX8_worth_389 0 rfl ?_
                      show X _ _ _ _ 391 _
                      refine x_iastore C 0 rfl dX8_worth_391 ((d - 1) - 1) (q_cl (q_isub (a := d - 1) (b := 1) rfl (rfl : (1 : Int32) = nI 1) (by omega)) (by omega)) (q_ix (q_isub (a := d - 1) (b := 1) rfl (rfl : (1 : Int32) = nI 1) (by omega)) (by omega) (by omega)) 3 rfl ?_
                      show X _ _ [(m, .inr (7, [.ref a_sky, .ref a_kind, .ref a_more, .ref a_strewn, .int (nI tn), .ref a_treeCell, .ref a_treeSort, .ref a_treeLeaves, .int i_raking, .long l_heaps, .int (nI tz), .ref a_tape, .int (nI wr), .int (nI lw), .ref a_code, .ref a_begins, .int i_made, .int i_at, .int i_from, .int i_sort, .int i_value, .int i_open, .ref a_stack, .ref a_dry, .ref a_wet, .ref a_covered, .ref a_hangs, .ref a_off, .int i_fell, .int i_fellToday, .int i_rotten, .int i_raked, .int i_cost, .ref a_dryGo, .ref a_wetGo, .ref a_keptSky, .int i_imaged, .int (nI itn), .int i_oldRaking, .long l_oldHeaps, .int (nI ilw), .ref a_oldSky, .ref a_oldCells, .ref a_sheetSort, .ref a_sheetSize, .ref a_items, .ref a_spare])), (a_begins, .inl (cI, 24, .inl bg)), (a_code, .inl (cI, 1020, .inl mc)), (a_stack, .inl (cI, 170, .inl (upd f ((d - 1) - 1) 1)))] _ _ _
                      refine x_iinc C dX8_worth_392 5 rfl (v := nI (s_off T p + t + 1)) (nI_1 _) (by decide) (lv' := [(10, .int (nI (s_off T p + t + 1))), (14, .int 1), (9, .int (nI (d - 1))), (13, .int (f (d - 2))), (12, .int (f (d - 1))), (11, .int (s_mop op)), (8, .int (nI (s_off T (p + 1)))), (7, .int my), (6, .int ts), (5, .int we), (4, .int fr), (3, .int so), (2, .int le), (1, .int (nI p)), (0, .ref m)]) rfl ?_
                      refine x_goto C dX8_worth_395 (tgt := 35) rfl ?_
                      refine x_lv C [0, 2, 6, 7, 8, 9, 10, 11, 12, 13, 14] (lv' := [(10, .int (nI (s_off T p + t + 1))), (9, .int (nI (d - 1))), (8, .int (nI (s_off T (p + 1)))), (7, .int my), (6, .int ts), (5, .int we), (4, .int fr), (3, .int so), (2, .int le), (1, .int (nI p)), (0, .ref m)]) rfl ?_
                      exact ihL35_0 (t + 1) (d - 1) (upd f ((d - 1) - 1) 1) (by omega) (by rw [s_run_succ _ _ ht2 hop, hr]; first | (simp only [s_st, if_pos hop6]; rw [if_pos hop0]; done) | (simp only [s_st, if_pos hop6]; rw [if_neg hop0, s_nm_name hop6 hop0]; first | (simp [hq1, hq2, hq3, hq4, hq5]; done) | (simp [hq1, hq2, hq3, hq4]; done) | (simp [hq1, hq2, hq3]; done) | (simp [hq1, hq2]; done) | (simp [hq1]; done)) | (simp only [s_st, if_neg hn6]; rw [if_pos (by rw [h8]; decide), h8]; simp [s_turn, s_tru, *]; done) | (simp only [s_st, if_neg hn6]; rw [if_pos (by rw [h7]; decide), h7]; simp [s_turn, s_tru]; done) | (simp only [s_st, if_neg hn6, if_neg hb8]; rw [s_join_m hn6 hn8 hn7, hsm, show d - 1 - 1 = d - 2 from rfl]; first | (simp [s_tru, hlt]; done) | (simp [s_tru, *]; done))) (by rw [s_dpl_succ _ ht2 hop, hd]; first | (simp [s_dp, hop6]; done) | exact hdd.2) (by omega)
                  ·
                    have q8 : (s_mop op) = (-13) := q8
                    refine x_tableIn C dX8_worth_237 (by rw [q8]; decide) (by rw [q8]; decide) (off := 137) (tgt := 374) (by rw [q8]; rfl) rfl ?_
                    exact absurd q8 hn13
                  ·
                    have q8 : (s_mop op) = (-12) := q8
                    refine x_tableIn C dX8_worth_237 (by rw [q8]; decide) (by rw [q8]; decide) (off := 63) (tgt := 300) (by rw [q8]; rfl) rfl ?_
                    have hsm := q8
                    refine x_iload C dX8_worth_300 1 rfl ?_
                    refine x_if_eq C dX8_worth_302 (tgt := 314) rfl (fun c11 => ?_) (fun c11 => ?_)
                    ·
                      refine x_iconst C dX8_worth_314 (v := 0) rfl ?_
                      refine x_istore C dX8_worth_315 (by decide) (lv' := [(14, .int 0), (9, .int (nI (d - 1))), (13, .int (f (d - 2))), (12, .int (f (d - 1))), (11, .int (s_mop op)), (10, .int (nI (s_off T p + t))), (8, .int (nI (s_off T (p + 1)))), (7, .int my), (6, .int ts), (5, .int we), (4, .int fr), (3, .int so), (2, .int le), (1, .int (nI p)), (0, .ref m)]) rfl ?_
                      refine x_goto C dX8_worth_317 (tgt := 381) rfl ?_
                      refine x_aload_n C dX8_worth_381 14 rfl ?_
                      refine x_get C inlX8 rfl 22 (by decide) gw_11_4 dX8_worth_382 0 rfl rfl ?_
                      refine x_iload C dX8_worth_385 1 rfl ?_
                      refine x_iconst C dX8_worth_387 (v := 1) rfl ?_
                      refine x_isub C dX8_worth_388 ?_
                      refine x_iload C dX8_worth_389 0 rfl ?_
                      refine x_iastore C 0 rfl dX8_worth_391 ((d - 1) - 1) (q_cl (q_isub (a := d - 1) (b := 1) rfl (rfl : (1 : Int32) = nI 1) (by omega)) (by omega)) (q_ix (q_isub (a := d - 1) (b := 1) rfl (rfl : (1 : Int32) = nI 1) (by omega)) (by omega) (by omega)) 3 rfl ?_
                      show X _ _ [(m, .inr (7, [.ref a_sky, .ref a_kind, .ref a_more, .ref a_strewn, .int (nI tn), .ref a_treeCell, .ref a_treeSort, .ref a_treeLeaves, .int i_raking, .long l_heaps, .int (nI tz), .ref a_tape, .int (nI wr), .int (nI lw), .ref a_code, .ref a_begins, .int i_made, .int i_at, .int i_from, .int i_sort, .int i_value, .int i_open, .ref a_stack, .ref a_dry, .ref a_wet, .ref a_covered, .ref a_hangs, .ref a_off, .int i_fell, .int i_fellToday, .int i_rotten, .int i_raked, .int i_cost, .ref a_dryGo, .ref a_wetGo, .ref a_keptSky, .int i_imaged, .int (nI itn), .int i_oldRaking, .long l_oldHeaps, .int (nI ilw), .ref a_oldSky, .ref a_oldCells, .ref a_sheetSort, .ref a_sheetSize, .ref a_items, .ref a_spare])), (a_begins, .inl (cI, 24, .inl bg)), (a_code, .inl (cI, 1020, .inl mc)), (a_stack, .inl (cI, 170, .inl (upd f ((d - 1) - 1) 0)))] _ _ _
                      show X _ _ _ _ 392 _
                      refine x_iinc C dX8_worth_392 5 rfl (v := nI (s_off T p + t + 1)) (nI_1 _) (by decide) (lv' := [(10, .int (nI (s_off T p + t + 1))), (14, .int 0), (9, .int (nI (d - 1))), (13, .int (f (d - 2))), (12, .int (f (d - 1))), (11, .int (s_mop op)), (8, .int (nI (s_off T (p + 1)))), (7, .int my), (6, .int ts), (5, .int we), (4, .int fr), (3, .int so), (2, .int le), (1, .int (nI p)), (0, .ref m)]) rfl ?_
                      refine x_goto C dX8_worth_395 (tgt := 35) rfl ?_
                      refine x_lv C [0, 2, 6, 7, 8, 9, 10, 11, 12, 13, 14] (lv' := [(10, .int (nI (s_off T p + t + 1))), (9, .int (nI (d - 1))), (8, .int (nI (s_off T (p + 1)))), (7, .int my), (6, .int ts), (5, .int we), (4, .int fr), (3, .int so), (2, .int le), (1, .int (nI p)), (0, .ref m)]) rfl ?_
                      exact ihL35_0 (t + 1) (d - 1) (upd f ((d - 1) - 1) 0) (by omega) (by rw [s_run_succ _ _ ht2 hop, hr]; first | (simp only [s_st, if_pos hop6]; rw [if_pos hop0]; done) | (simp only [s_st, if_pos hop6]; rw [if_neg hop0, s_nm_name hop6 hop0]; first | (simp [hq1, hq2, hq3, hq4, hq5]; done) | (simp [hq1, hq2, hq3, hq4]; done) | (simp [hq1, hq2, hq3]; done) | (simp [hq1, hq2]; done) | (simp [hq1]; done)) | (simp only [s_st, if_neg hn6]; rw [if_pos (by rw [h8]; decide), h8]; simp [s_turn, s_tru, *]; done) | (simp only [s_st, if_neg hn6]; rw [if_pos (by rw [h7]; decide), h7]; simp [s_turn, s_tru]; done) | (simp only [s_st, if_neg hn6, if_neg hb8]; rw [s_join_m hn6 hn8 hn7, hsm, show d - 1 - 1 = d - 2 from rfl]; first | (simp [s_tru, hlt]; done) | (simp [s_tru, *]; done))) (by rw [s_dpl_succ _ ht2 hop, hd]; first | (simp [s_dp, hop6]; done) | exact hdd.2) (by omega)
                    ·
                      refine x_iload C dX8_worth_305 2 rfl ?_
                      refine x_if_eq C dX8_worth_307 (tgt := 314) rfl (fun c12 => ?_) (fun c12 => ?_)
                      ·
                        refine x_iconst C dX8_worth_314 (v := 0) rfl ?_
                        refine x_istore C dX8_worth_315 (by decide) (lv' := [(14, .int 0), (9, .int (nI (d - 1))), (13, .int (f (d - 2))), (12, .int (f (d - 1))), (11, .int (s_mop op)), (10, .int (nI (s_off T p + t))), (8, .int (nI (s_off T (p + 1)))), (7, .int my), (6, .int ts), (5, .int we), (4, .int fr), (3, .int so), (2, .int le), (1, .int (nI p)), (0, .ref m)]) rfl ?_
                        refine x_goto C dX8_worth_317 (tgt := 381) rfl ?_
                        refine x_aload_n C dX8_worth_381 14 rfl ?_
                        refine x_get C inlX8 rfl 22 (by decide) gw_11_4 dX8_worth_382 0 rfl rfl ?_
                        refine x_iload C dX8_worth_385 1 rfl ?_
                        refine x_iconst C dX8_worth_387 (v := 1) rfl ?_
                        refine x_isub C dX8_worth_388 ?_
                        refine x_iload C dX8_worth_389 0 rfl ?_
                        refine x_iastore C 0 rfl dX8_worth_391 ((d - 1) - 1) (q_cl (q_isub (a := d - 1) (b := 1) rfl (rfl : (1 : Int32) = nI 1) (by omega)) (by omega)) (q_ix (q_isub (a := d - 1) (b := 1) rfl (rfl : (1 : Int32) = nI 1) (by omega)) (by omega) (by omega)) 3 rfl ?_
                        show X _ _ [(m, .inr (7, [.ref a_sky, .ref a_kind, .ref a_more, .ref a_strewn, .int (nI tn), .ref a_treeCell, .ref a_treeSort, .ref a_treeLeaves, .int i_raking, .long l_heaps, .int (nI tz), .ref a_tape, .int (nI wr), .int (nI lw), .ref a_code, .ref a_begins, .int i_made, .int i_at, .int i_from, .int i_sort, .int i_value, .int i_open, .ref a_stack, .ref a_dry, .ref a_wet, .ref a_covered, .ref a_hangs, .ref a_off, .int i_fell, .int i_fellToday, .int i_rotten, .int i_raked, .int i_cost, .ref a_dryGo, .ref a_wetGo, .ref a_keptSky, .int i_imaged, .int (nI itn), .int i_oldRaking, .long l_oldHeaps, .int (nI ilw), .ref a_oldSky, .ref a_oldCells, .ref a_sheetSort, .ref a_sheetSize, .ref a_items, .ref a_spare])), (a_begins, .inl (cI, 24, .inl bg)), (a_code, .inl (cI, 1020, .inl mc)), (a_stack, .inl (cI, 170, .inl (upd f ((d - 1) - 1) 0)))] _ _ _
                        show X _ _ _ _ 392 _
                        refine x_iinc C dX8_worth_392 5 rfl (v := nI (s_off T p + t + 1)) (nI_1 _) (by decide) (lv' := [(10, .int (nI (s_off T p + t + 1))), (14, .int 0), (9, .int (nI (d - 1))), (13, .int (f (d - 2))), (12, .int (f (d - 1))), (11, .int (s_mop op)), (8, .int (nI (s_off T (p + 1)))), (7, .int my), (6, .int ts), (5, .int we), (4, .int fr), (3, .int so), (2, .int le), (1, .int (nI p)), (0, .ref m)]) rfl ?_
                        refine x_goto C dX8_worth_395 (tgt := 35) rfl ?_
                        refine x_lv C [0, 2, 6, 7, 8, 9, 10, 11, 12, 13, 14] (lv' := [(10, .int (nI (s_off T p + t + 1))), (9, .int (nI (d - 1))), (8, .int (nI (s_off T (p + 1)))), (7, .int my), (6, .int ts), (5, .int we), (4, .int fr), (3, .int so), (2, .int le), (1, .int (nI p)), (0, .ref m)]) rfl ?_
                        exact ihL35_0 (t + 1) (d - 1) (upd f ((d - 1) - 1) 0) (by omega) (by rw [s_run_succ _ _ ht2 hop, hr]; first | (simp only [s_st, if_pos hop6]; rw [if_pos hop0]; done) | (simp only [s_st, if_pos hop6]; rw [if_neg hop0, s_nm_name hop6 hop0]; first | (simp [hq1, hq2, hq3, hq4, hq5]; done) | (simp [hq1, hq2, hq3, hq4]; done) | (simp [hq1, hq2, hq3]; done) | (simp [hq1, hq2]; done) | (simp [hq1]; done)) | (simp only [s_st, if_neg hn6]; rw [if_pos (by rw [h8]; decide), h8]; simp [s_turn, s_tru, *]; done) | (simp only [s_st, if_neg hn6]; rw [if_pos (by rw [h7]; decide), h7]; simp [s_turn, s_tru]; done) | (simp only [s_st, if_neg hn6, if_neg hb8]; rw [s_join_m hn6 hn8 hn7, hsm, show d - 1 - 1 = d - 2 from rfl]; first | (simp [s_tru, hlt]; done) | (simp [s_tru, *]; done))) (by rw [s_dpl_succ _ ht2 hop, hd]; first | (simp [s_dp, hop6]; done) | exact hdd.2) (by omega)
                      ·
                        refine x_iconst C dX8_worth_310 (v := 1) rfl ?_
                        refine x_goto C dX8_worth_311 (tgt := 315) rfl ?_
                        refine x_istore C dX8_worth_315 (by decide) (lv' := [(14, .int 1), (9, .int (nI (d - 1))), (13, .int (f (d - 2))), (12, .int (f (d - 1))), (11, .int (s_mop op)), (10, .int (nI (s_off T p + t))), (8, .int (nI (s_off T (p + 1)))), (7, .int my), (6, .int ts), (5, .int we), (4, .int fr), (3, .int so), (2, .int le), (1, .int (nI p)), (0, .ref m)]) rfl ?_
                        refine x_goto C dX8_worth_317 (tgt := 381) rfl ?_
                        refine x_aload_n C dX8_worth_381 14 rfl ?_
                        refine x_get C inlX8 rfl 22 (by decide) gw_11_4 dX8_worth_382 0 rfl rfl ?_
                        refine x_iload C dX8_worth_385 1 rfl ?_
                        refine x_iconst C dX8_worth_387 (v := 1) rfl ?_
                        refine x_isub C dX8_worth_388 ?_
                        refine x_iload C dX8_worth_389 0 rfl ?_
                        show X _ _ _ _ 391 _
                        refine x_iastore C 0 rfl dX8_worth_391 ((d - 1) - 1) (q_cl (q_isub (a := d - 1) (b := 1) rfl (rfl : (1 : Int32) = nI 1) (by omega)) (by omega)) (q_ix (q_isub (a := d - 1) (b := 1) rfl (rfl : (1 : Int32) = nI 1) (by omega)) (by omega) (by omega)) 3 rfl ?_
                        show X _ _ [(m, .inr (7, [.ref a_sky, .ref a_kind, .ref a_more, .ref a_strewn, .int (nI tn), .ref a_treeCell, .ref a_treeSort, .ref a_treeLeaves, .int i_raking, .long l_heaps, .int (nI tz), .ref a_tape, .int (nI wr), .int (nI lw), .ref a_code, .ref a_begins, .int i_made, .int i_at, .int i_from, .int i_sort, .int i_value, .int i_open, .ref a_stack, .ref a_dry, .ref a_wet, .ref a_covered, .ref a_hangs, .ref a_off, .int i_fell, .int i_fellToday, .int i_rotten, .int i_raked, .int i_cost, .ref a_dryGo, .ref a_wetGo, .ref a_keptSky, .int i_imaged, .int (nI itn), .int i_oldRaking, .long l_oldHeaps, .int (nI ilw), .ref a_oldSky, .ref a_oldCells, .ref a_sheetSort, .ref a_sheetSize, .ref a_items, .ref a_spare])), (a_begins, .inl (cI, 24, .inl bg)), (a_code, .inl (cI, 1020, .inl mc)), (a_stack, .inl (cI, 170, .inl (upd f ((d - 1) - 1) 1)))] _ _ _
                        refine x_iinc C dX8_worth_392 5 rfl (v := nI (s_off T p + t + 1)) (nI_1 _) (by decide) (lv' := [(10, .int (nI (s_off T p + t + 1))), (14, .int 1), (9, .int (nI (d - 1))), (13, .int (f (d - 2))), (12, .int (f (d - 1))), (11, .int (s_mop op)), (8, .int (nI (s_off T (p + 1)))), (7, .int my), (6, .int ts), (5, .int we), (4, .int fr), (3, .int so), (2, .int le), (1, .int (nI p)), (0, .ref m)]) rfl ?_
                        refine x_goto C dX8_worth_395 (tgt := 35) rfl ?_
                        refine x_lv C [0, 2, 6, 7, 8, 9, 10, 11, 12, 13, 14] (lv' := [(10, .int (nI (s_off T p + t + 1))), (9, .int (nI (d - 1))), (8, .int (nI (s_off T (p + 1)))), (7, .int my), (6, .int ts), (5, .int we), (4, .int fr), (3, .int so), (2, .int le), (1, .int (nI p)), (0, .ref m)]) rfl ?_
                        exact ihL35_0 (t + 1) (d - 1) (upd f ((d - 1) - 1) 1) (by omega) (by rw [s_run_succ _ _ ht2 hop, hr]; first | (simp only [s_st, if_pos hop6]; rw [if_pos hop0]; done) | (simp only [s_st, if_pos hop6]; rw [if_neg hop0, s_nm_name hop6 hop0]; first | (simp [hq1, hq2, hq3, hq4, hq5]; done) | (simp [hq1, hq2, hq3, hq4]; done) | (simp [hq1, hq2, hq3]; done) | (simp [hq1, hq2]; done) | (simp [hq1]; done)) | (simp only [s_st, if_neg hn6]; rw [if_pos (by rw [h8]; decide), h8]; simp [s_turn, s_tru, *]; done) | (simp only [s_st, if_neg hn6]; rw [if_pos (by rw [h7]; decide), h7]; simp [s_turn, s_tru]; done) | (simp only [s_st, if_neg hn6, if_neg hb8]; rw [s_join_m hn6 hn8 hn7, hsm, show d - 1 - 1 = d - 2 from rfl]; first | (simp [s_tru, hlt]; done) | (simp [s_tru, *]; done))) (by rw [s_dpl_succ _ ht2 hop, hd]; first | (simp [s_dp, hop6]; done) | exact hdd.2) (by omega)
                  ·
                    have q8 : (s_mop op) = (-11) := q8
                    refine x_tableIn C dX8_worth_237 (by rw [q8]; decide) (by rw [q8]; decide) (off := 43) (tgt := 280) (by rw [q8]; rfl) rfl ?_
                    have hsm := q8
                    refine x_iload C dX8_worth_280 1 rfl ?_
                    refine x_if_ne C dX8_worth_282 (tgt := 290) rfl (fun c13 => ?_) (fun c13 => ?_)
                    ·
                      refine x_iconst C dX8_worth_290 (v := 1) rfl ?_
                      refine x_goto C dX8_worth_291 (tgt := 295) rfl ?_
                      refine x_istore C dX8_worth_295 (by decide) (lv' := [(14, .int 1), (9, .int (nI (d - 1))), (13, .int (f (d - 2))), (12, .int (f (d - 1))), (11, .int (s_mop op)), (10, .int (nI (s_off T p + t))), (8, .int (nI (s_off T (p + 1)))), (7, .int my), (6, .int ts), (5, .int we), (4, .int fr), (3, .int so), (2, .int le), (1, .int (nI p)), (0, .ref m)]) rfl ?_
                      refine x_goto C dX8_worth_297 (tgt := 381) rfl ?_
                      refine x_aload_n C dX8_worth_381 14 rfl ?_
                      refine x_get C inlX8 rfl 22 (by decide) gw_11_4 dX8_worth_382 0 rfl rfl ?_
                      refine x_iload C dX8_worth_385 1 rfl ?_
                      refine x_iconst C dX8_worth_387 (v := 1) rfl ?_
                      refine x_isub C dX8_worth_388 ?_
                      refine x_iload C dX8_worth_389 0 rfl ?_
                      show X _ _ _ _ 391 _
                      refine x_iastore C 0 rfl dX8_worth_391 ((d - 1) - 1) (q_cl (q_isub (a := d - 1) (b := 1) rfl (rfl : (1 : Int32) = nI 1) (by omega)) (by omega)) (q_ix (q_isub (a := d - 1) (b := 1) rfl (rfl : (1 : Int32) = nI 1) (by omega)) (by omega) (by omega)) 3 rfl ?_
                      show X _ _ [(m, .inr (7, [.ref a_sky, .ref a_kind, .ref a_more, .ref a_strewn, .int (nI tn), .ref a_treeCell, .ref a_treeSort, .ref a_treeLeaves, .int i_raking, .long l_heaps, .int (nI tz), .ref a_tape, .int (nI wr), .int (nI lw), .ref a_code, .ref a_begins, .int i_made, .int i_at, .int i_from, .int i_sort, .int i_value, .int i_open, .ref a_stack, .ref a_dry, .ref a_wet, .ref a_covered, .ref a_hangs, .ref a_off, .int i_fell, .int i_fellToday, .int i_rotten, .int i_raked, .int i_cost, .ref a_dryGo, .ref a_wetGo, .ref a_keptSky, .int i_imaged, .int (nI itn), .int i_oldRaking, .long l_oldHeaps, .int (nI ilw), .ref a_oldSky, .ref a_oldCells, .ref a_sheetSort, .ref a_sheetSize, .ref a_items, .ref a_spare])), (a_begins, .inl (cI, 24, .inl bg)), (a_code, .inl (cI, 1020, .inl mc)), (a_stack, .inl (cI, 170, .inl (upd f ((d - 1) - 1) 1)))] _ _ _
                      refine x_iinc C dX8_worth_392 5 rfl (v := nI (s_off T p + t + 1)) (nI_1 _) (by decide) (lv' := [(10, .int (nI (s_off T p + t + 1))), (14, .int 1), (9, .int (nI (d - 1))), (13, .int (f (d - 2))), (12, .int (f (d - 1))), (11, .int (s_mop op)), (8, .int (nI (s_off T (p + 1)))), (7, .int my), (6, .int ts), (5, .int we), (4, .int fr), (3, .int so), (2, .int le), (1, .int (nI p)), (0, .ref m)]) rfl ?_
                      refine x_goto C dX8_worth_395 (tgt := 35) rfl ?_
                      refine x_lv C [0, 2, 6, 7, 8, 9, 10, 11, 12, 13, 14] (lv' := [(10, .int (nI (s_off T p + t + 1))), (9, .int (nI (d - 1))), (8, .int (nI (s_off T (p + 1)))), (7, .int my), (6, .int ts), (5, .int we), (4, .int fr), (3, .int so), (2, .int le), (1, .int (nI p)), (0, .ref m)]) rfl ?_
                      exact ihL35_0 (t + 1) (d - 1) (upd f ((d - 1) - 1) 1) (by omega) (by rw [s_run_succ _ _ ht2 hop, hr]; first | (simp only [s_st, if_pos hop6]; rw [if_pos hop0]; done) | (simp only [s_st, if_pos hop6]; rw [if_neg hop0, s_nm_name hop6 hop0]; first | (simp [hq1, hq2, hq3, hq4, hq5]; done) | (simp [hq1, hq2, hq3, hq4]; done) | (simp [hq1, hq2, hq3]; done) | (simp [hq1, hq2]; done) | (simp [hq1]; done)) | (simp only [s_st, if_neg hn6]; rw [if_pos (by rw [h8]; decide), h8]; simp [s_turn, s_tru, *]; done) | (simp only [s_st, if_neg hn6]; rw [if_pos (by rw [h7]; decide), h7]; simp [s_turn, s_tru]; done) | (simp only [s_st, if_neg hn6, if_neg hb8]; rw [s_join_m hn6 hn8 hn7, hsm, show d - 1 - 1 = d - 2 from rfl]; first | (simp [s_tru, hlt]; done) | (simp [s_tru, *]; done))) (by rw [s_dpl_succ _ ht2 hop, hd]; first | (simp [s_dp, hop6]; done) | exact hdd.2) (by omega)
                    ·
                      refine x_iload C dX8_worth_285 2 rfl ?_
                      refine x_if_eq C dX8_worth_287 (tgt := 294) rfl (fun c14 => ?_) (fun c14 => ?_)
                      ·
                        refine x_iconst C dX8_worth_294 (v := 0) rfl ?_
                        refine x_istore C dX8_worth_295 (by decide) (lv' := [(14, .int 0), (9, .int (nI (d - 1))), (13, .int (f (d - 2))), (12, .int (f (d - 1))), (11, .int (s_mop op)), (10, .int (nI (s_off T p + t))), (8, .int (nI (s_off T (p + 1)))), (7, .int my), (6, .int ts), (5, .int we), (4, .int fr), (3, .int so), (2, .int le), (1, .int (nI p)), (0, .ref m)]) rfl ?_
                        refine x_goto C dX8_worth_297 (tgt := 381) rfl ?_
                        refine x_aload_n C dX8_worth_381 14 rfl ?_
                        refine x_get C inlX8 rfl 22 (by decide) gw_11_4 dX8_worth_382 0 rfl rfl ?_
                        refine x_iload C dX8_worth_385 1 rfl ?_
                        refine x_iconst C dX8_worth_387 (v := 1) rfl ?_
                        refine x_isub C dX8_worth_388 ?_
                        refine x_iload C dX8_worth_389 0 rfl ?_
                        refine x_iastore C 0 rfl dX8_worth_391 ((d - 1) - 1) (q_cl (q_isub (a := d - 1) (b := 1) rfl (rfl : (1 : Int32) = nI 1) (by omega)) (by omega)) (q_ix (q_isub (a := d - 1) (b := 1) rfl (rfl : (1 : Int32) = nI 1) (by omega)) (by omega) (by omega)) 3 rfl ?_
                        show X _ _ [(m, .inr (7, [.ref a_sky, .ref a_kind, .ref a_more, .ref a_strewn, .int (nI tn), .ref a_treeCell, .ref a_treeSort, .ref a_treeLeaves, .int i_raking, .long l_heaps, .int (nI tz), .ref a_tape, .int (nI wr), .int (nI lw), .ref a_code, .ref a_begins, .int i_made, .int i_at, .int i_from, .int i_sort, .int i_value, .int i_open, .ref a_stack, .ref a_dry, .ref a_wet, .ref a_covered, .ref a_hangs, .ref a_off, .int i_fell, .int i_fellToday, .int i_rotten, .int i_raked, .int i_cost, .ref a_dryGo, .ref a_wetGo, .ref a_keptSky, .int i_imaged, .int (nI itn), .int i_oldRaking, .long l_oldHeaps, .int (nI ilw), .ref a_oldSky, .ref a_oldCells, .ref a_sheetSort, .ref a_sheetSize, .ref a_items, .ref a_spare])), (a_begins, .inl (cI, 24, .inl bg)), (a_code, .inl (cI, 1020, .inl mc)), (a_stack, .inl (cI, 170, .inl (upd f ((d - 1) - 1) 0)))] _ _ _
                        show X _ _ _ _ 392 _
                        refine x_iinc C dX8_worth_392 5 rfl (v := nI (s_off T p + t + 1)) (nI_1 _) (by decide) (lv' := [(10, .int (nI (s_off T p + t + 1))), (14, .int 0), (9, .int (nI (d - 1))), (13, .int (f (d - 2))), (12, .int (f (d - 1))), (11, .int (s_mop op)), (8, .int (nI (s_off T (p + 1)))), (7, .int my), (6, .int ts), (5, .int we), (4, .int fr), (3, .int so), (2, .int le), (1, .int (nI p)), (0, .ref m)]) rfl ?_
                        refine x_goto C dX8_worth_395 (tgt := 35) rfl ?_
                        refine x_lv C [0, 2, 6, 7, 8, 9, 10, 11, 12, 13, 14] (lv' := [(10, .int (nI (s_off T p + t + 1))), (9, .int (nI (d - 1))), (8, .int (nI (s_off T (p + 1)))), (7, .int my), (6, .int ts), (5, .int we), (4, .int fr), (3, .int so), (2, .int le), (1, .int (nI p)), (0, .ref m)]) rfl ?_
                        exact ihL35_0 (t + 1) (d - 1) (upd f ((d - 1) - 1) 0) (by omega) (by rw [s_run_succ _ _ ht2 hop, hr]; first | (simp only [s_st, if_pos hop6]; rw [if_pos hop0]; done) | (simp only [s_st, if_pos hop6]; rw [if_neg hop0, s_nm_name hop6 hop0]; first | (simp [hq1, hq2, hq3, hq4, hq5]; done) | (simp [hq1, hq2, hq3, hq4]; done) | (simp [hq1, hq2, hq3]; done) | (simp [hq1, hq2]; done) | (simp [hq1]; done)) | (simp only [s_st, if_neg hn6]; rw [if_pos (by rw [h8]; decide), h8]; simp [s_turn, s_tru, *]; done) | (simp only [s_st, if_neg hn6]; rw [if_pos (by rw [h7]; decide), h7]; simp [s_turn, s_tru]; done) | (simp only [s_st, if_neg hn6, if_neg hb8]; rw [s_join_m hn6 hn8 hn7, hsm, show d - 1 - 1 = d - 2 from rfl]; first | (simp [s_tru, hlt]; done) | (simp [s_tru, *]; done))) (by rw [s_dpl_succ _ ht2 hop, hd]; first | (simp [s_dp, hop6]; done) | exact hdd.2) (by omega)
                      ·
                        refine x_iconst C dX8_worth_290 (v := 1) rfl ?_
                        refine x_goto C dX8_worth_291 (tgt := 295) rfl ?_
                        refine x_istore C dX8_worth_295 (by decide) (lv' := [(14, .int 1), (9, .int (nI (d - 1))), (13, .int (f (d - 2))), (12, .int (f (d - 1))), (11, .int (s_mop op)), (10, .int (nI (s_off T p + t))), (8, .int (nI (s_off T (p + 1)))), (7, .int my), (6, .int ts), (5, .int we), (4, .int fr), (3, .int so), (2, .int le), (1, .int (nI p)), (0, .ref m)]) rfl ?_
                        refine x_goto C dX8_worth_297 (tgt := 381) rfl ?_
                        refine x_aload_n C dX8_worth_381 14 rfl ?_
                        refine x_get C inlX8 rfl 22 (by decide) gw_11_4 dX8_worth_382 0 rfl rfl ?_
                        refine x_iload C dX8_worth_385 1 rfl ?_
                        refine x_iconst C dX8_worth_387 (v := 1) rfl ?_
                        refine x_isub C dX8_worth_388 ?_
                        refine x_iload C dX8_worth_389 0 rfl ?_
                        show X _ _ _ _ 391 _
                        refine x_iastore C 0 rfl dX8_worth_391 ((d - 1) - 1) (q_cl (q_isub (a := d - 1) (b := 1) rfl (rfl : (1 : Int32) = nI 1) (by omega)) (by omega)) (q_ix (q_isub (a := d - 1) (b := 1) rfl (rfl : (1 : Int32) = nI 1) (by omega)) (by omega) (by omega)) 3 rfl ?_
                        show X _ _ [(m, .inr (7, [.ref a_sky, .ref a_kind, .ref a_more, .ref a_strewn, .int (nI tn), .ref a_treeCell, .ref a_treeSort, .ref a_treeLeaves, .int i_raking, .long l_heaps, .int (nI tz), .ref a_tape, .int (nI wr), .int (nI lw), .ref a_code, .ref a_begins, .int i_made, .int i_at, .int i_from, .int i_sort, .int i_value, .int i_open, .ref a_stack, .ref a_dry, .ref a_wet, .ref a_covered, .ref a_hangs, .ref a_off, .int i_fell, .int i_fellToday, .int i_rotten, .int i_raked, .int i_cost, .ref a_dryGo, .ref a_wetGo, .ref a_keptSky, .int i_imaged, .int (nI itn), .int i_oldRaking, .long l_oldHeaps, .int (nI ilw), .ref a_oldSky, .ref a_oldCells, .ref a_sheetSort, .ref a_sheetSize, .ref a_items, .ref a_spare])), (a_begins, .inl (cI, 24, .inl bg)), (a_code, .inl (cI, 1020, .inl mc)), (a_stack, .inl (cI, 170, .inl (upd f ((d - 1) - 1) 1)))] _ _ _
                        refine x_iinc C dX8_worth_392 5 rfl (v := nI (s_off T p + t + 1)) (nI_1 _) (by decide) (lv' := [(10, .int (nI (s_off T p + t + 1))), (14, .int 1), (9, .int (nI (d - 1))), (13, .int (f (d - 2))), (12, .int (f (d - 1))), (11, .int (s_mop op)), (8, .int (nI (s_off T (p + 1)))), (7, .int my), (6, .int ts), (5, .int we), (4, .int fr), (3, .int so), (2, .int le), (1, .int (nI p)), (0, .ref m)]) rfl ?_
                        refine x_goto C dX8_worth_395 (tgt := 35) rfl ?_
                        refine x_lv C [0, 2, 6, 7, 8, 9, 10, 11, 12, 13, 14] (lv' := [(10, .int (nI (s_off T p + t + 1))), (9, .int (nI (d - 1))), (8, .int (nI (s_off T (p + 1)))), (7, .int my), (6, .int ts), (5, .int we), (4, .int fr), (3, .int so), (2, .int le), (1, .int (nI p)), (0, .ref m)]) rfl ?_
                        exact ihL35_0 (t + 1) (d - 1) (upd f ((d - 1) - 1) 1) (by omega) (by rw [s_run_succ _ _ ht2 hop, hr]; first | (simp only [s_st, if_pos hop6]; rw [if_pos hop0]; done) | (simp only [s_st, if_pos hop6]; rw [if_neg hop0, s_nm_name hop6 hop0]; first | (simp [hq1, hq2, hq3, hq4, hq5]; done) | (simp [hq1, hq2, hq3, hq4]; done) | (simp [hq1, hq2, hq3]; done) | (simp [hq1, hq2]; done) | (simp [hq1]; done)) | (simp only [s_st, if_neg hn6]; rw [if_pos (by rw [h8]; decide), h8]; simp [s_turn, s_tru, *]; done) | (simp only [s_st, if_neg hn6]; rw [if_pos (by rw [h7]; decide), h7]; simp [s_turn, s_tru]; done) | (simp only [s_st, if_neg hn6, if_neg hb8]; rw [s_join_m hn6 hn8 hn7, hsm, show d - 1 - 1 = d - 2 from rfl]; first | (simp [s_tru, hlt]; done) | (simp [s_tru, *]; done))) (by rw [s_dpl_succ _ ht2 hop, hd]; first | (simp [s_dp, hop6]; done) | exact hdd.2) (by omega)
              ·
                have h7 : op = -7 := (s_mop_19 hn6).mp c7
                have hdd := s_dp_un hnx hn6 (by rw [h7]; decide)
                refine x_aload_n C dX8_worth_206 12 rfl ?_
                refine x_get C inlX8 rfl 22 (by decide) gw_11_4 dX8_worth_207 0 rfl rfl ?_
                refine x_iload C dX8_worth_210 3 rfl ?_
                refine x_iconst C dX8_worth_212 (v := 1) rfl ?_
                refine x_isub C dX8_worth_213 ?_
                refine x_iload C dX8_worth_214 0 rfl ?_
                refine x_ineg C dX8_worth_216 ?_
                refine x_iastore C 0 rfl dX8_worth_217 (d - 1) (q_cl (q_isub (a := d) (b := 1) rfl (rfl : (1 : Int32) = nI 1) (by omega)) (by omega)) (q_ix (q_isub (a := d) (b := 1) rfl (rfl : (1 : Int32) = nI 1) (by omega)) (by omega) (by omega)) 3 rfl ?_
                show X _ _ [(m, .inr (7, [.ref a_sky, .ref a_kind, .ref a_more, .ref a_strewn, .int (nI tn), .ref a_treeCell, .ref a_treeSort, .ref a_treeLeaves, .int i_raking, .long l_heaps, .int (nI tz), .ref a_tape, .int (nI wr), .int (nI lw), .ref a_code, .ref a_begins, .int i_made, .int i_at, .int i_from, .int i_sort, .int i_value, .int i_open, .ref a_stack, .ref a_dry, .ref a_wet, .ref a_covered, .ref a_hangs, .ref a_off, .int i_fell, .int i_fellToday, .int i_rotten, .int i_raked, .int i_cost, .ref a_dryGo, .ref a_wetGo, .ref a_keptSky, .int i_imaged, .int (nI itn), .int i_oldRaking, .long l_oldHeaps, .int (nI ilw), .ref a_oldSky, .ref a_oldCells, .ref a_sheetSort, .ref a_sheetSize, .ref a_items, .ref a_spare])), (a_begins, .inl (cI, 24, .inl bg)), (a_code, .inl (cI, 1020, .inl mc)), (a_stack, .inl (cI, 170, .inl (upd f (d - 1) (-(f (d - 1))))))] _ _ _
                refine x_goto C dX8_worth_218 (tgt := 392) rfl ?_
                refine x_iinc C dX8_worth_392 2 rfl (v := nI (s_off T p + t + 1)) (nI_1 _) (by decide) (lv' := [(10, .int (nI (s_off T p + t + 1))), (12, .int (f (d - 1))), (11, .int (s_mop op)), (9, .int (nI d)), (8, .int (nI (s_off T (p + 1)))), (7, .int my), (6, .int ts), (5, .int we), (4, .int fr), (3, .int so), (2, .int le), (1, .int (nI p)), (0, .ref m)]) rfl ?_
                show X _ _ _ _ 395 _
                refine x_goto C dX8_worth_395 (tgt := 35) rfl ?_
                refine x_lv C [0, 3, 4, 5, 6, 7, 8, 9, 10, 11, 12] (lv' := [(10, .int (nI (s_off T p + t + 1))), (9, .int (nI d)), (8, .int (nI (s_off T (p + 1)))), (7, .int my), (6, .int ts), (5, .int we), (4, .int fr), (3, .int so), (2, .int le), (1, .int (nI p)), (0, .ref m)]) rfl ?_
                exact ihL35_0 (t + 1) d (upd f (d - 1) (-(f (d - 1)))) (by omega) (by rw [s_run_succ _ _ ht2 hop, hr]; first | (simp only [s_st, if_pos hop6]; rw [if_pos hop0]; done) | (simp only [s_st, if_pos hop6]; rw [if_neg hop0, s_nm_name hop6 hop0]; first | (simp [hq1, hq2, hq3, hq4, hq5]; done) | (simp [hq1, hq2, hq3, hq4]; done) | (simp [hq1, hq2, hq3]; done) | (simp [hq1, hq2]; done) | (simp [hq1]; done)) | (simp only [s_st, if_neg hn6]; rw [if_pos (by rw [h8]; decide), h8]; simp [s_turn, s_tru, *]; done) | (simp only [s_st, if_neg hn6]; rw [if_pos (by rw [h7]; decide), h7]; simp [s_turn, s_tru]; done) | (simp only [s_st, if_neg hn6, if_neg hb8]; rw [s_join_m hn6 hn8 hn7, hsm, show d - 1 - 1 = d - 2 from rfl]; first | (simp [s_tru, hlt]; done) | (simp [s_tru, *]; done))) (by rw [s_dpl_succ _ ht2 hop, hd]; first | (simp [s_dp, hop6]; done) | exact hdd.2) (by omega)
            ·
              have h8 : op = -8 := (s_mop_13 hn6).mp c6
              have hdd := s_dp_un hnx hn6 (by rw [h8]; decide)
              refine x_aload_n C dX8_worth_177 12 rfl ?_
              refine x_get C inlX8 rfl 22 (by decide) gw_11_4 dX8_worth_178 0 rfl rfl ?_
              refine x_iload C dX8_worth_181 3 rfl ?_
              refine x_iconst C dX8_worth_183 (v := 1) rfl ?_
              refine x_isub C dX8_worth_184 ?_
              refine x_iload C dX8_worth_185 0 rfl ?_
              refine x_if_ne C dX8_worth_187 (tgt := 194) rfl (fun c15 => ?_) (fun c15 => ?_)
              ·
                refine x_iconst C dX8_worth_194 (v := 0) rfl ?_
                refine x_iastore C 0 rfl dX8_worth_195 (d - 1) (q_cl (q_isub (a := d) (b := 1) rfl (rfl : (1 : Int32) = nI 1) (by omega)) (by omega)) (q_ix (q_isub (a := d) (b := 1) rfl (rfl : (1 : Int32) = nI 1) (by omega)) (by omega) (by omega)) 3 rfl ?_
                show X _ _ [(m, .inr (7, [.ref a_sky, .ref a_kind, .ref a_more, .ref a_strewn, .int (nI tn), .ref a_treeCell, .ref a_treeSort, .ref a_treeLeaves, .int i_raking, .long l_heaps, .int (nI tz), .ref a_tape, .int (nI wr), .int (nI lw), .ref a_code, .ref a_begins, .int i_made, .int i_at, .int i_from, .int i_sort, .int i_value, .int i_open, .ref a_stack, .ref a_dry, .ref a_wet, .ref a_covered, .ref a_hangs, .ref a_off, .int i_fell, .int i_fellToday, .int i_rotten, .int i_raked, .int i_cost, .ref a_dryGo, .ref a_wetGo, .ref a_keptSky, .int i_imaged, .int (nI itn), .int i_oldRaking, .long l_oldHeaps, .int (nI ilw), .ref a_oldSky, .ref a_oldCells, .ref a_sheetSort, .ref a_sheetSize, .ref a_items, .ref a_spare])), (a_begins, .inl (cI, 24, .inl bg)), (a_code, .inl (cI, 1020, .inl mc)), (a_stack, .inl (cI, 170, .inl (upd f (d - 1) 0)))] _ _ _
                refine x_goto C dX8_worth_196 (tgt := 392) rfl ?_
                refine x_iinc C dX8_worth_392 2 rfl (v := nI (s_off T p + t + 1)) (nI_1 _) (by decide) (lv' := [(10, .int (nI (s_off T p + t + 1))), (12, .int (f (d - 1))), (11, .int (s_mop op)), (9, .int (nI d)), (8, .int (nI (s_off T (p + 1)))), (7, .int my), (6, .int ts), (5, .int we), (4, .int fr), (3, .int so), (2, .int le), (1, .int (nI p)), (0, .ref m)]) rfl ?_
                refine x_goto C dX8_worth_395 (tgt := 35) rfl ?_
                refine x_lv C [0, 3, 4, 5, 6, 7, 8, 9, 10, 11, 12] (lv' := [(10, .int (nI (s_off T p + t + 1))), (9, .int (nI d)), (8, .int (nI (s_off T (p + 1)))), (7, .int my), (6, .int ts), (5, .int we), (4, .int fr), (3, .int so), (2, .int le), (1, .int (nI p)), (0, .ref m)]) rfl ?_
                exact ihL35_0 (t + 1) d (upd f (d - 1) 0) (by omega) (by rw [s_run_succ _ _ ht2 hop, hr]; first | (simp only [s_st, if_pos hop6]; rw [if_pos hop0]; done) | (simp only [s_st, if_pos hop6]; rw [if_neg hop0, s_nm_name hop6 hop0]; first | (simp [hq1, hq2, hq3, hq4, hq5]; done) | (simp [hq1, hq2, hq3, hq4]; done) | (simp [hq1, hq2, hq3]; done) | (simp [hq1, hq2]; done) | (simp [hq1]; done)) | (simp only [s_st, if_neg hn6]; rw [if_pos (by rw [h8]; decide), h8]; simp [s_turn, s_tru, *]; done) | (simp only [s_st, if_neg hn6]; rw [if_pos (by rw [h7]; decide), h7]; simp [s_turn, s_tru]; done) | (simp only [s_st, if_neg hn6, if_neg hb8]; rw [s_join_m hn6 hn8 hn7, hsm, show d - 1 - 1 = d - 2 from rfl]; first | (simp [s_tru, hlt]; done) | (simp [s_tru, *]; done))) (by rw [s_dpl_succ _ ht2 hop, hd]; first | (simp [s_dp, hop6]; done) | exact hdd.2) (by omega)
              ·
                refine x_iconst C dX8_worth_190 (v := 1) rfl ?_
                refine x_goto C dX8_worth_191 (tgt := 195) rfl ?_
                refine x_iastore C 0 rfl dX8_worth_195 (d - 1) (q_cl (q_isub (a := d) (b := 1) rfl (rfl : (1 : Int32) = nI 1) (by omega)) (by omega)) (q_ix (q_isub (a := d) (b := 1) rfl (rfl : (1 : Int32) = nI 1) (by omega)) (by omega) (by omega)) 3 rfl ?_
                show X _ _ [(m, .inr (7, [.ref a_sky, .ref a_kind, .ref a_more, .ref a_strewn, .int (nI tn), .ref a_treeCell, .ref a_treeSort, .ref a_treeLeaves, .int i_raking, .long l_heaps, .int (nI tz), .ref a_tape, .int (nI wr), .int (nI lw), .ref a_code, .ref a_begins, .int i_made, .int i_at, .int i_from, .int i_sort, .int i_value, .int i_open, .ref a_stack, .ref a_dry, .ref a_wet, .ref a_covered, .ref a_hangs, .ref a_off, .int i_fell, .int i_fellToday, .int i_rotten, .int i_raked, .int i_cost, .ref a_dryGo, .ref a_wetGo, .ref a_keptSky, .int i_imaged, .int (nI itn), .int i_oldRaking, .long l_oldHeaps, .int (nI ilw), .ref a_oldSky, .ref a_oldCells, .ref a_sheetSort, .ref a_sheetSize, .ref a_items, .ref a_spare])), (a_begins, .inl (cI, 24, .inl bg)), (a_code, .inl (cI, 1020, .inl mc)), (a_stack, .inl (cI, 170, .inl (upd f (d - 1) 1)))] _ _ _
                refine x_goto C dX8_worth_196 (tgt := 392) rfl ?_
                refine x_iinc C dX8_worth_392 2 rfl (v := nI (s_off T p + t + 1)) (nI_1 _) (by decide) (lv' := [(10, .int (nI (s_off T p + t + 1))), (12, .int (f (d - 1))), (11, .int (s_mop op)), (9, .int (nI d)), (8, .int (nI (s_off T (p + 1)))), (7, .int my), (6, .int ts), (5, .int we), (4, .int fr), (3, .int so), (2, .int le), (1, .int (nI p)), (0, .ref m)]) rfl ?_
                refine x_goto C dX8_worth_395 (tgt := 35) rfl ?_
                refine x_lv C [0, 3, 4, 5, 6, 7, 8, 9, 10, 11, 12] (lv' := [(10, .int (nI (s_off T p + t + 1))), (9, .int (nI d)), (8, .int (nI (s_off T (p + 1)))), (7, .int my), (6, .int ts), (5, .int we), (4, .int fr), (3, .int so), (2, .int le), (1, .int (nI p)), (0, .ref m)]) rfl ?_
                exact ihL35_0 (t + 1) d (upd f (d - 1) 1) (by omega) (by rw [s_run_succ _ _ ht2 hop, hr]; first | (simp only [s_st, if_pos hop6]; rw [if_pos hop0]; done) | (simp only [s_st, if_pos hop6]; rw [if_neg hop0, s_nm_name hop6 hop0]; first | (simp [hq1, hq2, hq3, hq4, hq5]; done) | (simp [hq1, hq2, hq3, hq4]; done) | (simp [hq1, hq2, hq3]; done) | (simp [hq1, hq2]; done) | (simp [hq1]; done)) | (simp only [s_st, if_neg hn6]; rw [if_pos (by rw [h8]; decide), h8]; simp [s_turn, s_tru, *]; done) | (simp only [s_st, if_neg hn6]; rw [if_pos (by rw [h7]; decide), h7]; simp [s_turn, s_tru]; done) | (simp only [s_st, if_neg hn6, if_neg hb8]; rw [s_join_m hn6 hn8 hn7, hsm, show d - 1 - 1 = d - 2 from rfl]; first | (simp [s_tru, hlt]; done) | (simp [s_tru, *]; done))) (by rw [s_dpl_succ _ ht2 hop, hd]; first | (simp [s_dp, hop6]; done) | exact hdd.2) (by omega)
          ·
            obtain ⟨hop6, hop0, hmo⟩ := s_mop_name hneg c5
            rw [hmo]
            refine x_aload_n C dX8_worth_87 11 rfl ?_
            refine x_get C inlX8 rfl 22 (by decide) gw_11_4 dX8_worth_88 0 rfl rfl ?_
            refine x_iload C dX8_worth_91 2 rfl ?_
            refine x_iinc C dX8_worth_93 2 rfl (v := nI (d + 1)) (nI_1 _) (by decide) (lv' := [(9, .int (nI (d + 1))), (11, .int op), (10, .int (nI (s_off T p + t))), (8, .int (nI (s_off T (p + 1)))), (7, .int my), (6, .int ts), (5, .int we), (4, .int fr), (3, .int so), (2, .int le), (1, .int (nI p)), (0, .ref m)]) rfl ?_
            refine x_iload C dX8_worth_96 1 rfl ?_
            refine x_iconst C dX8_worth_98 (v := (-1)) rfl ?_
            refine x_icmp_ne C dX8_worth_99 (tgt := 106) rfl (fun c16 => ?_) (fun c16 => ?_)
            ·
              have hq1 : ¬ op = -1 := c16
              refine x_iload C dX8_worth_106 1 rfl ?_
              refine x_bipush C dX8_worth_108 (v := (-2)) rfl ?_
              refine x_icmp_ne C dX8_worth_110 (tgt := 117) rfl (fun c17 => ?_) (fun c17 => ?_)
              ·
                have hq2 : ¬ op = -2 := c17
                refine x_iload C dX8_worth_117 1 rfl ?_
                refine x_bipush C dX8_worth_119 (v := (-3)) rfl ?_
                refine x_icmp_ne C dX8_worth_121 (tgt := 129) rfl (fun c18 => ?_) (fun c18 => ?_)
                ·
                  have hq3 : ¬ op = -3 := c18
                  refine x_iload C dX8_worth_129 1 rfl ?_
                  refine x_bipush C dX8_worth_131 (v := (-4)) rfl ?_
                  refine x_icmp_ne C dX8_worth_133 (tgt := 141) rfl (fun c19 => ?_) (fun c19 => ?_)
                  ·
                    have hq4 : ¬ op = -4 := c19
                    refine x_iload C dX8_worth_141 1 rfl ?_
                    refine x_bipush C dX8_worth_143 (v := (-5)) rfl ?_
                    refine x_icmp_ne C dX8_worth_145 (tgt := 153) rfl (fun c20 => ?_) (fun c20 => ?_)
                    ·
                      have hq5 : ¬ op = -5 := c20
                      refine x_iload C dX8_worth_153 4 rfl ?_
                      refine x_iastore C 0 rfl dX8_worth_155 d (q_cl rfl (by omega)) (q_ix rfl (by omega) (by omega)) 3 rfl ?_
                      show X _ _ [(m, .inr (7, [.ref a_sky, .ref a_kind, .ref a_more, .ref a_strewn, .int (nI tn), .ref a_treeCell, .ref a_treeSort, .ref a_treeLeaves, .int i_raking, .long l_heaps, .int (nI tz), .ref a_tape, .int (nI wr), .int (nI lw), .ref a_code, .ref a_begins, .int i_made, .int i_at, .int i_from, .int i_sort, .int i_value, .int i_open, .ref a_stack, .ref a_dry, .ref a_wet, .ref a_covered, .ref a_hangs, .ref a_off, .int i_fell, .int i_fellToday, .int i_rotten, .int i_raked, .int i_cost, .ref a_dryGo, .ref a_wetGo, .ref a_keptSky, .int i_imaged, .int (nI itn), .int i_oldRaking, .long l_oldHeaps, .int (nI ilw), .ref a_oldSky, .ref a_oldCells, .ref a_sheetSort, .ref a_sheetSize, .ref a_items, .ref a_spare])), (a_begins, .inl (cI, 24, .inl bg)), (a_code, .inl (cI, 1020, .inl mc)), (a_stack, .inl (cI, 170, .inl (upd f d my)))] _ _ _
                      refine x_goto C dX8_worth_156 (tgt := 392) rfl ?_
                      refine x_iinc C dX8_worth_392 2 rfl (v := nI (s_off T p + t + 1)) (nI_1 _) (by decide) (lv' := [(10, .int (nI (s_off T p + t + 1))), (9, .int (nI (d + 1))), (11, .int op), (8, .int (nI (s_off T (p + 1)))), (7, .int my), (6, .int ts), (5, .int we), (4, .int fr), (3, .int so), (2, .int le), (1, .int (nI p)), (0, .ref m)]) rfl ?_
                      refine x_goto C dX8_worth_395 (tgt := 35) rfl ?_
                      refine x_lv C [0, 1, 3, 4, 5, 6, 7, 8, 9, 10, 11] (lv' := [(10, .int (nI (s_off T p + t + 1))), (9, .int (nI (d + 1))), (8, .int (nI (s_off T (p + 1)))), (7, .int my), (6, .int ts), (5, .int we), (4, .int fr), (3, .int so), (2, .int le), (1, .int (nI p)), (0, .ref m)]) rfl ?_
                      exact ihL35_0 (t + 1) (d + 1) (upd f d my) (by omega) (by rw [s_run_succ _ _ ht2 hop, hr]; first | (simp only [s_st, if_pos hop6]; rw [if_pos hop0]; done) | (simp only [s_st, if_pos hop6]; rw [if_neg hop0, s_nm_name hop6 hop0]; first | (simp [hq1, hq2, hq3, hq4, hq5]; done) | (simp [hq1, hq2, hq3, hq4]; done) | (simp [hq1, hq2, hq3]; done) | (simp [hq1, hq2]; done) | (simp [hq1]; done)) | (simp only [s_st, if_neg hn6]; rw [if_pos (by rw [h8]; decide), h8]; simp [s_turn, s_tru, *]; done) | (simp only [s_st, if_neg hn6]; rw [if_pos (by rw [h7]; decide), h7]; simp [s_turn, s_tru]; done) | (simp only [s_st, if_neg hn6, if_neg hb8]; rw [s_join_m hn6 hn8 hn7, hsm, show d - 1 - 1 = d - 2 from rfl]; first | (simp [s_tru, hlt]; done) | (simp [s_tru, *]; done))) (by rw [s_dpl_succ _ ht2 hop, hd]; first | (simp [s_dp, hop6]; done) | exact hdd.2) (by omega)
                    ·
                      have hq5 : op = -5 := c20
                      refine x_iload C dX8_worth_148 5 rfl ?_
                      refine x_goto C dX8_worth_150 (tgt := 155) rfl ?_
                      refine x_iastore C 0 rfl dX8_worth_155 d (q_cl rfl (by omega)) (q_ix rfl (by omega) (by omega)) 3 rfl ?_
                      show X _ _ [(m, .inr (7, [.ref a_sky, .ref a_kind, .ref a_more, .ref a_strewn, .int (nI tn), .ref a_treeCell, .ref a_treeSort, .ref a_treeLeaves, .int i_raking, .long l_heaps, .int (nI tz), .ref a_tape, .int (nI wr), .int (nI lw), .ref a_code, .ref a_begins, .int i_made, .int i_at, .int i_from, .int i_sort, .int i_value, .int i_open, .ref a_stack, .ref a_dry, .ref a_wet, .ref a_covered, .ref a_hangs, .ref a_off, .int i_fell, .int i_fellToday, .int i_rotten, .int i_raked, .int i_cost, .ref a_dryGo, .ref a_wetGo, .ref a_keptSky, .int i_imaged, .int (nI itn), .int i_oldRaking, .long l_oldHeaps, .int (nI ilw), .ref a_oldSky, .ref a_oldCells, .ref a_sheetSort, .ref a_sheetSize, .ref a_items, .ref a_spare])), (a_begins, .inl (cI, 24, .inl bg)), (a_code, .inl (cI, 1020, .inl mc)), (a_stack, .inl (cI, 170, .inl (upd f d ts)))] _ _ _
                      refine x_goto C dX8_worth_156 (tgt := 392) rfl ?_
                      refine x_iinc C dX8_worth_392 2 rfl (v := nI (s_off T p + t + 1)) (nI_1 _) (by decide) (lv' := [(10, .int (nI (s_off T p + t + 1))), (9, .int (nI (d + 1))), (11, .int op), (8, .int (nI (s_off T (p + 1)))), (7, .int my), (6, .int ts), (5, .int we), (4, .int fr), (3, .int so), (2, .int le), (1, .int (nI p)), (0, .ref m)]) rfl ?_
                      refine x_goto C dX8_worth_395 (tgt := 35) rfl ?_
                      refine x_lv C [0, 1, 3, 4, 5, 6, 7, 8, 9, 10, 11] (lv' := [(10, .int (nI (s_off T p + t + 1))), (9, .int (nI (d + 1))), (8, .int (nI (s_off T (p + 1)))), (7, .int my), (6, .int ts), (5, .int we), (4, .int fr), (3, .int so), (2, .int le), (1, .int (nI p)), (0, .ref m)]) rfl ?_
                      exact ihL35_0 (t + 1) (d + 1) (upd f d ts) (by omega) (by rw [s_run_succ _ _ ht2 hop, hr]; first | (simp only [s_st, if_pos hop6]; rw [if_pos hop0]; done) | (simp only [s_st, if_pos hop6]; rw [if_neg hop0, s_nm_name hop6 hop0]; first | (simp [hq1, hq2, hq3, hq4, hq5]; done) | (simp [hq1, hq2, hq3, hq4]; done) | (simp [hq1, hq2, hq3]; done) | (simp [hq1, hq2]; done) | (simp [hq1]; done)) | (simp only [s_st, if_neg hn6]; rw [if_pos (by rw [h8]; decide), h8]; simp [s_turn, s_tru, *]; done) | (simp only [s_st, if_neg hn6]; rw [if_pos (by rw [h7]; decide), h7]; simp [s_turn, s_tru]; done) | (simp only [s_st, if_neg hn6, if_neg hb8]; rw [s_join_m hn6 hn8 hn7, hsm, show d - 1 - 1 = d - 2 from rfl]; first | (simp [s_tru, hlt]; done) | (simp [s_tru, *]; done))) (by rw [s_dpl_succ _ ht2 hop, hd]; first | (simp [s_dp, hop6]; done) | exact hdd.2) (by omega)
                  ·
                    have hq4 : op = -4 := c19
                    refine x_iload C dX8_worth_136 6 rfl ?_
                    refine x_goto C dX8_worth_138 (tgt := 155) rfl ?_
                    refine x_iastore C 0 rfl dX8_worth_155 d (q_cl rfl (by omega)) (q_ix rfl (by omega) (by omega)) 3 rfl ?_
                    show X _ _ [(m, .inr (7, [.ref a_sky, .ref a_kind, .ref a_more, .ref a_strewn, .int (nI tn), .ref a_treeCell, .ref a_treeSort, .ref a_treeLeaves, .int i_raking, .long l_heaps, .int (nI tz), .ref a_tape, .int (nI wr), .int (nI lw), .ref a_code, .ref a_begins, .int i_made, .int i_at, .int i_from, .int i_sort, .int i_value, .int i_open, .ref a_stack, .ref a_dry, .ref a_wet, .ref a_covered, .ref a_hangs, .ref a_off, .int i_fell, .int i_fellToday, .int i_rotten, .int i_raked, .int i_cost, .ref a_dryGo, .ref a_wetGo, .ref a_keptSky, .int i_imaged, .int (nI itn), .int i_oldRaking, .long l_oldHeaps, .int (nI ilw), .ref a_oldSky, .ref a_oldCells, .ref a_sheetSort, .ref a_sheetSize, .ref a_items, .ref a_spare])), (a_begins, .inl (cI, 24, .inl bg)), (a_code, .inl (cI, 1020, .inl mc)), (a_stack, .inl (cI, 170, .inl (upd f d we)))] _ _ _
                    refine x_goto C dX8_worth_156 (tgt := 392) rfl ?_
                    refine x_iinc C dX8_worth_392 2 rfl (v := nI (s_off T p + t + 1)) (nI_1 _) (by decide) (lv' := [(10, .int (nI (s_off T p + t + 1))), (9, .int (nI (d + 1))), (11, .int op), (8, .int (nI (s_off T (p + 1)))), (7, .int my), (6, .int ts), (5, .int we), (4, .int fr), (3, .int so), (2, .int le), (1, .int (nI p)), (0, .ref m)]) rfl ?_
                    refine x_goto C dX8_worth_395 (tgt := 35) rfl ?_
                    refine x_lv C [0, 1, 3, 4, 5, 6, 7, 8, 9, 10, 11] (lv' := [(10, .int (nI (s_off T p + t + 1))), (9, .int (nI (d + 1))), (8, .int (nI (s_off T (p + 1)))), (7, .int my), (6, .int ts), (5, .int we), (4, .int fr), (3, .int so), (2, .int le), (1, .int (nI p)), (0, .ref m)]) rfl ?_
                    exact ihL35_0 (t + 1) (d + 1) (upd f d we) (by omega) (by rw [s_run_succ _ _ ht2 hop, hr]; first | (simp only [s_st, if_pos hop6]; rw [if_pos hop0]; done) | (simp only [s_st, if_pos hop6]; rw [if_neg hop0, s_nm_name hop6 hop0]; first | (simp [hq1, hq2, hq3, hq4, hq5]; done) | (simp [hq1, hq2, hq3, hq4]; done) | (simp [hq1, hq2, hq3]; done) | (simp [hq1, hq2]; done) | (simp [hq1]; done)) | (simp only [s_st, if_neg hn6]; rw [if_pos (by rw [h8]; decide), h8]; simp [s_turn, s_tru, *]; done) | (simp only [s_st, if_neg hn6]; rw [if_pos (by rw [h7]; decide), h7]; simp [s_turn, s_tru]; done) | (simp only [s_st, if_neg hn6, if_neg hb8]; rw [s_join_m hn6 hn8 hn7, hsm, show d - 1 - 1 = d - 2 from rfl]; first | (simp [s_tru, hlt]; done) | (simp [s_tru, *]; done))) (by rw [s_dpl_succ _ ht2 hop, hd]; first | (simp [s_dp, hop6]; done) | exact hdd.2) (by omega)
                ·
                  have hq3 : op = -3 := c18
                  refine x_iload C dX8_worth_124 7 rfl ?_
                  refine x_goto C dX8_worth_126 (tgt := 155) rfl ?_
                  refine x_iastore C 0 rfl dX8_worth_155 d (q_cl rfl (by omega)) (q_ix rfl (by omega) (by omega)) 3 rfl ?_
                  show X _ _ [(m, .inr (7, [.ref a_sky, .ref a_kind, .ref a_more, .ref a_strewn, .int (nI tn), .ref a_treeCell, .ref a_treeSort, .ref a_treeLeaves, .int i_raking, .long l_heaps, .int (nI tz), .ref a_tape, .int (nI wr), .int (nI lw), .ref a_code, .ref a_begins, .int i_made, .int i_at, .int i_from, .int i_sort, .int i_value, .int i_open, .ref a_stack, .ref a_dry, .ref a_wet, .ref a_covered, .ref a_hangs, .ref a_off, .int i_fell, .int i_fellToday, .int i_rotten, .int i_raked, .int i_cost, .ref a_dryGo, .ref a_wetGo, .ref a_keptSky, .int i_imaged, .int (nI itn), .int i_oldRaking, .long l_oldHeaps, .int (nI ilw), .ref a_oldSky, .ref a_oldCells, .ref a_sheetSort, .ref a_sheetSize, .ref a_items, .ref a_spare])), (a_begins, .inl (cI, 24, .inl bg)), (a_code, .inl (cI, 1020, .inl mc)), (a_stack, .inl (cI, 170, .inl (upd f d fr)))] _ _ _
                  refine x_goto C dX8_worth_156 (tgt := 392) rfl ?_
                  refine x_iinc C dX8_worth_392 2 rfl (v := nI (s_off T p + t + 1)) (nI_1 _) (by decide) (lv' := [(10, .int (nI (s_off T p + t + 1))), (9, .int (nI (d + 1))), (11, .int op), (8, .int (nI (s_off T (p + 1)))), (7, .int my), (6, .int ts), (5, .int we), (4, .int fr), (3, .int so), (2, .int le), (1, .int (nI p)), (0, .ref m)]) rfl ?_
                  refine x_goto C dX8_worth_395 (tgt := 35) rfl ?_
                  refine x_lv C [0, 1, 3, 4, 5, 6, 7, 8, 9, 10, 11] (lv' := [(10, .int (nI (s_off T p + t + 1))), (9, .int (nI (d + 1))), (8, .int (nI (s_off T (p + 1)))), (7, .int my), (6, .int ts), (5, .int we), (4, .int fr), (3, .int so), (2, .int le), (1, .int (nI p)), (0, .ref m)]) rfl ?_
                  exact ihL35_0 (t + 1) (d + 1) (upd f d fr) (by omega) (by rw [s_run_succ _ _ ht2 hop, hr]; first | (simp only [s_st, if_pos hop6]; rw [if_pos hop0]; done) | (simp only [s_st, if_pos hop6]; rw [if_neg hop0, s_nm_name hop6 hop0]; first | (simp [hq1, hq2, hq3, hq4, hq5]; done) | (simp [hq1, hq2, hq3, hq4]; done) | (simp [hq1, hq2, hq3]; done) | (simp [hq1, hq2]; done) | (simp [hq1]; done)) | (simp only [s_st, if_neg hn6]; rw [if_pos (by rw [h8]; decide), h8]; simp [s_turn, s_tru, *]; done) | (simp only [s_st, if_neg hn6]; rw [if_pos (by rw [h7]; decide), h7]; simp [s_turn, s_tru]; done) | (simp only [s_st, if_neg hn6, if_neg hb8]; rw [s_join_m hn6 hn8 hn7, hsm, show d - 1 - 1 = d - 2 from rfl]; first | (simp [s_tru, hlt]; done) | (simp [s_tru, *]; done))) (by rw [s_dpl_succ _ ht2 hop, hd]; first | (simp [s_dp, hop6]; done) | exact hdd.2) (by omega)
              ·
                have hq2 : op = -2 := c17
                refine x_iload_n C dX8_worth_113 8 rfl ?_
                refine x_goto C dX8_worth_114 (tgt := 155) rfl ?_
                refine x_iastore C 0 rfl dX8_worth_155 d (q_cl rfl (by omega)) (q_ix rfl (by omega) (by omega)) 3 rfl ?_
                show X _ _ [(m, .inr (7, [.ref a_sky, .ref a_kind, .ref a_more, .ref a_strewn, .int (nI tn), .ref a_treeCell, .ref a_treeSort, .ref a_treeLeaves, .int i_raking, .long l_heaps, .int (nI tz), .ref a_tape, .int (nI wr), .int (nI lw), .ref a_code, .ref a_begins, .int i_made, .int i_at, .int i_from, .int i_sort, .int i_value, .int i_open, .ref a_stack, .ref a_dry, .ref a_wet, .ref a_covered, .ref a_hangs, .ref a_off, .int i_fell, .int i_fellToday, .int i_rotten, .int i_raked, .int i_cost, .ref a_dryGo, .ref a_wetGo, .ref a_keptSky, .int i_imaged, .int (nI itn), .int i_oldRaking, .long l_oldHeaps, .int (nI ilw), .ref a_oldSky, .ref a_oldCells, .ref a_sheetSort, .ref a_sheetSize, .ref a_items, .ref a_spare])), (a_begins, .inl (cI, 24, .inl bg)), (a_code, .inl (cI, 1020, .inl mc)), (a_stack, .inl (cI, 170, .inl (upd f d so)))] _ _ _
                refine x_goto C dX8_worth_156 (tgt := 392) rfl ?_
                refine x_iinc C dX8_worth_392 2 rfl (v := nI (s_off T p + t + 1)) (nI_1 _) (by decide) (lv' := [(10, .int (nI (s_off T p + t + 1))), (9, .int (nI (d + 1))), (11, .int op), (8, .int (nI (s_off T (p + 1)))), (7, .int my), (6, .int ts), (5, .int we), (4, .int fr), (3, .int so), (2, .int le), (1, .int (nI p)), (0, .ref m)]) rfl ?_
                refine x_goto C dX8_worth_395 (tgt := 35) rfl ?_
                refine x_lv C [0, 1, 3, 4, 5, 6, 7, 8, 9, 10, 11] (lv' := [(10, .int (nI (s_off T p + t + 1))), (9, .int (nI (d + 1))), (8, .int (nI (s_off T (p + 1)))), (7, .int my), (6, .int ts), (5, .int we), (4, .int fr), (3, .int so), (2, .int le), (1, .int (nI p)), (0, .ref m)]) rfl ?_
                exact ihL35_0 (t + 1) (d + 1) (upd f d so) (by omega) (by rw [s_run_succ _ _ ht2 hop, hr]; first | (simp only [s_st, if_pos hop6]; rw [if_pos hop0]; done) | (simp only [s_st, if_pos hop6]; rw [if_neg hop0, s_nm_name hop6 hop0]; first | (simp [hq1, hq2, hq3, hq4, hq5]; done) | (simp [hq1, hq2, hq3, hq4]; done) | (simp [hq1, hq2, hq3]; done) | (simp [hq1, hq2]; done) | (simp [hq1]; done)) | (simp only [s_st, if_neg hn6]; rw [if_pos (by rw [h8]; decide), h8]; simp [s_turn, s_tru, *]; done) | (simp only [s_st, if_neg hn6]; rw [if_pos (by rw [h7]; decide), h7]; simp [s_turn, s_tru]; done) | (simp only [s_st, if_neg hn6, if_neg hb8]; rw [s_join_m hn6 hn8 hn7, hsm, show d - 1 - 1 = d - 2 from rfl]; first | (simp [s_tru, hlt]; done) | (simp [s_tru, *]; done))) (by rw [s_dpl_succ _ ht2 hop, hd]; first | (simp [s_dp, hop6]; done) | exact hdd.2) (by omega)
            ·
              have hq1 : op = -1 := c16
              refine x_iload_n C dX8_worth_102 9 rfl ?_
              refine x_goto C dX8_worth_103 (tgt := 155) rfl ?_
              refine x_iastore C 0 rfl dX8_worth_155 d (q_cl rfl (by omega)) (q_ix rfl (by omega) (by omega)) 3 rfl ?_
              show X _ _ [(m, .inr (7, [.ref a_sky, .ref a_kind, .ref a_more, .ref a_strewn, .int (nI tn), .ref a_treeCell, .ref a_treeSort, .ref a_treeLeaves, .int i_raking, .long l_heaps, .int (nI tz), .ref a_tape, .int (nI wr), .int (nI lw), .ref a_code, .ref a_begins, .int i_made, .int i_at, .int i_from, .int i_sort, .int i_value, .int i_open, .ref a_stack, .ref a_dry, .ref a_wet, .ref a_covered, .ref a_hangs, .ref a_off, .int i_fell, .int i_fellToday, .int i_rotten, .int i_raked, .int i_cost, .ref a_dryGo, .ref a_wetGo, .ref a_keptSky, .int i_imaged, .int (nI itn), .int i_oldRaking, .long l_oldHeaps, .int (nI ilw), .ref a_oldSky, .ref a_oldCells, .ref a_sheetSort, .ref a_sheetSize, .ref a_items, .ref a_spare])), (a_begins, .inl (cI, 24, .inl bg)), (a_code, .inl (cI, 1020, .inl mc)), (a_stack, .inl (cI, 170, .inl (upd f d le)))] _ _ _
              refine x_goto C dX8_worth_156 (tgt := 392) rfl ?_
              refine x_iinc C dX8_worth_392 2 rfl (v := nI (s_off T p + t + 1)) (nI_1 _) (by decide) (lv' := [(10, .int (nI (s_off T p + t + 1))), (9, .int (nI (d + 1))), (11, .int op), (8, .int (nI (s_off T (p + 1)))), (7, .int my), (6, .int ts), (5, .int we), (4, .int fr), (3, .int so), (2, .int le), (1, .int (nI p)), (0, .ref m)]) rfl ?_
              refine x_goto C dX8_worth_395 (tgt := 35) rfl ?_
              refine x_lv C [0, 1, 3, 4, 5, 6, 7, 8, 9, 10, 11] (lv' := [(10, .int (nI (s_off T p + t + 1))), (9, .int (nI (d + 1))), (8, .int (nI (s_off T (p + 1)))), (7, .int my), (6, .int ts), (5, .int we), (4, .int fr), (3, .int so), (2, .int le), (1, .int (nI p)), (0, .ref m)]) rfl ?_
              exact ihL35_0 (t + 1) (d + 1) (upd f d le) (by omega) (by rw [s_run_succ _ _ ht2 hop, hr]; first | (simp only [s_st, if_pos hop6]; rw [if_pos hop0]; done) | (simp only [s_st, if_pos hop6]; rw [if_neg hop0, s_nm_name hop6 hop0]; first | (simp [hq1, hq2, hq3, hq4, hq5]; done) | (simp [hq1, hq2, hq3, hq4]; done) | (simp [hq1, hq2, hq3]; done) | (simp [hq1, hq2]; done) | (simp [hq1]; done)) | (simp only [s_st, if_neg hn6]; rw [if_pos (by rw [h8]; decide), h8]; simp [s_turn, s_tru, *]; done) | (simp only [s_st, if_neg hn6]; rw [if_pos (by rw [h7]; decide), h7]; simp [s_turn, s_tru]; done) | (simp only [s_st, if_neg hn6, if_neg hb8]; rw [s_join_m hn6 hn8 hn7, hsm, show d - 1 - 1 = d - 2 from rfl]; first | (simp [s_tru, hlt]; done) | (simp [s_tru, *]; done))) (by rw [s_dpl_succ _ ht2 hop, hd]; first | (simp [s_dp, hop6]; done) | exact hdd.2) (by omega)
        ·
          obtain ⟨hop6, hop0, hmo⟩ := s_mop_num (q_nlt c4)
          rw [hmo]
          refine x_aload_n C dX8_worth_65 11 rfl ?_
          refine x_get C inlX8 rfl 22 (by decide) gw_11_4 dX8_worth_66 0 rfl rfl ?_
          refine x_iload C dX8_worth_69 2 rfl ?_
          refine x_iinc C dX8_worth_71 2 rfl (v := nI (d + 1)) (nI_1 _) (by decide) (lv' := [(9, .int (nI (d + 1))), (11, .int op), (10, .int (nI (s_off T p + t))), (8, .int (nI (s_off T (p + 1)))), (7, .int my), (6, .int ts), (5, .int we), (4, .int fr), (3, .int so), (2, .int le), (1, .int (nI p)), (0, .ref m)]) rfl ?_
          refine x_iload C dX8_worth_74 1 rfl ?_
          refine x_iastore C 0 rfl dX8_worth_76 d (q_cl rfl (by omega)) (q_ix rfl (by omega) (by omega)) 3 rfl ?_
          show X _ _ [(m, .inr (7, [.ref a_sky, .ref a_kind, .ref a_more, .ref a_strewn, .int (nI tn), .ref a_treeCell, .ref a_treeSort, .ref a_treeLeaves, .int i_raking, .long l_heaps, .int (nI tz), .ref a_tape, .int (nI wr), .int (nI lw), .ref a_code, .ref a_begins, .int i_made, .int i_at, .int i_from, .int i_sort, .int i_value, .int i_open, .ref a_stack, .ref a_dry, .ref a_wet, .ref a_covered, .ref a_hangs, .ref a_off, .int i_fell, .int i_fellToday, .int i_rotten, .int i_raked, .int i_cost, .ref a_dryGo, .ref a_wetGo, .ref a_keptSky, .int i_imaged, .int (nI itn), .int i_oldRaking, .long l_oldHeaps, .int (nI ilw), .ref a_oldSky, .ref a_oldCells, .ref a_sheetSort, .ref a_sheetSize, .ref a_items, .ref a_spare])), (a_begins, .inl (cI, 24, .inl bg)), (a_code, .inl (cI, 1020, .inl mc)), (a_stack, .inl (cI, 170, .inl (upd f d op)))] _ _ _
          refine x_goto C dX8_worth_77 (tgt := 392) rfl ?_
          refine x_iinc C dX8_worth_392 2 rfl (v := nI (s_off T p + t + 1)) (nI_1 _) (by decide) (lv' := [(10, .int (nI (s_off T p + t + 1))), (9, .int (nI (d + 1))), (11, .int op), (8, .int (nI (s_off T (p + 1)))), (7, .int my), (6, .int ts), (5, .int we), (4, .int fr), (3, .int so), (2, .int le), (1, .int (nI p)), (0, .ref m)]) rfl ?_
          refine x_goto C dX8_worth_395 (tgt := 35) rfl ?_
          refine x_lv C [0, 1, 3, 4, 5, 6, 7, 8, 9, 10, 11] (lv' := [(10, .int (nI (s_off T p + t + 1))), (9, .int (nI (d + 1))), (8, .int (nI (s_off T (p + 1)))), (7, .int my), (6, .int ts), (5, .int we), (4, .int fr), (3, .int so), (2, .int le), (1, .int (nI p)), (0, .ref m)]) rfl ?_
          exact ihL35_0 (t + 1) (d + 1) (upd f d op) (by omega) (by rw [s_run_succ _ _ ht2 hop, hr]; first | (simp only [s_st, if_pos hop6]; rw [if_pos hop0]; done) | (simp only [s_st, if_pos hop6]; rw [if_neg hop0, s_nm_name hop6 hop0]; first | (simp [hq1, hq2, hq3, hq4, hq5]; done) | (simp [hq1, hq2, hq3, hq4]; done) | (simp [hq1, hq2, hq3]; done) | (simp [hq1, hq2]; done) | (simp [hq1]; done)) | (simp only [s_st, if_neg hn6]; rw [if_pos (by rw [h8]; decide), h8]; simp [s_turn, s_tru, *]; done) | (simp only [s_st, if_neg hn6]; rw [if_pos (by rw [h7]; decide), h7]; simp [s_turn, s_tru]; done) | (simp only [s_st, if_neg hn6, if_neg hb8]; rw [s_join_m hn6 hn8 hn7, hsm, show d - 1 - 1 = d - 2 from rfl]; first | (simp [s_tru, hlt]; done) | (simp [s_tru, *]; done))) (by rw [s_dpl_succ _ ht2 hop, hd]; first | (simp [s_dp, hop6]; done) | exact hdd.2) (by omega)
  refine x_lv C [0, 1, 2, 10, 9, 8, 7, 6, 5, 4, 3] (lv' := [(10, .int (nI (s_off T p))), (9, .int 0), (8, .int (nI (s_off T (p + 1)))), (7, .int my), (6, .int ts), (5, .int we), (4, .int fr), (3, .int so), (2, .int le), (1, .int (nI p)), (0, .ref m)]) rfl ?_
  rw [show (nI (s_off T p) : Int32) = nI (s_off T p + 0) from rfl.trans (congrArg nI (by omega))]
  show X 0 0 [(m, .inr (7, [.ref a_sky, .ref a_kind, .ref a_more, .ref a_strewn, .int (nI tn), .ref a_treeCell, .ref a_treeSort, .ref a_treeLeaves, .int i_raking, .long l_heaps, .int (nI tz), .ref a_tape, .int (nI wr), .int (nI lw), .ref a_code, .ref a_begins, .int i_made, .int i_at, .int i_from, .int i_sort, .int i_value, .int i_open, .ref a_stack, .ref a_dry, .ref a_wet, .ref a_covered, .ref a_hangs, .ref a_off, .int i_fell, .int i_fellToday, .int i_rotten, .int i_raked, .int i_cost, .ref a_dryGo, .ref a_wetGo, .ref a_keptSky, .int i_imaged, .int (nI itn), .int i_oldRaking, .long l_oldHeaps, .int (nI ilw), .ref a_oldSky, .ref a_oldCells, .ref a_sheetSort, .ref a_sheetSize, .ref a_items, .ref a_spare])), (a_begins, .inl (cI, 24, .inl bg)), (a_code, .inl (cI, 1020, .inl mc)), (a_stack, .inl (cI, 170, .inl stk))] [(10, .int (nI (s_off T p + 0))), (9, .int (nI 0)), (8, .int (nI (s_off T (p + 1)))), (7, .int my), (6, .int ts), (5, .int we), (4, .int fr), (3, .int so), (2, .int le), (1, .int (nI p)), (0, .ref m)] 35 []
  exact L35_0 (((T p).length - 0) + 1) 0 0 stk (Nat.zero_le _) (by rw [List.take_zero]; rfl) (by rw [List.take_zero]; rfl) (Nat.lt_succ_self _)
