theorem q_sw_1_4 {x : Int32} (h : (1) ≤ x.toInt ∧ x.toInt ≤ (4)) : x = 1 ∨ x = 2 ∨ x = 3 ∨ x = 4 := by
  have h9 : x.toInt = 1 ∨ x.toInt = 2 ∨ x.toInt = 3 ∨ x.toInt = 4 := by omega
  rcases h9 with h9 | h9 | h9 | h9
  · exact Or.inl (q_ti (by rw [h9]; rfl))
  · exact Or.inr (Or.inl (q_ti (by rw [h9]; rfl)))
  · exact Or.inr (Or.inr (Or.inl (q_ti (by rw [h9]; rfl))))
  · exact Or.inr (Or.inr (Or.inr ((q_ti (by rw [h9]; rfl)))))

set_option maxHeartbeats 4000000 in
set_option maxRecDepth 100000 in
theorem c_X2_goOff (l : Launch) (dG : va_G) (cI cM cW cS : ClassId) (kd mo z : Int32) : rM l yX2_goOff cX2_goOff 3 (some .int) ({ frames := 1, cells := 0, slots := 0, locals := 13 } : Room) dG (tY cI cM cW cS) rZ0 [.int kd, .int mo, .int z] [] (fun ov oz => ∃ (r : Int32), ov = some (.int r) ∧ oz = [] ∧ r = s_goff kd mo z) := by
  refine rM_ofI rfl (Nat.le_of_ble_eq_true rfl) rfl (fun X C E => ?_)
  show X 0 0 [] [(0, .int kd), (1, .int mo), (2, .int z)] 0 []
  refine x_iload_n C dX2_goOff_0 0 rfl ?_
  rcases q_sw kd (1) (4) with q1 | q1
  ·
    refine x_tableOut C dX2_goOff_1 q1 (tgt := 52) rfl ?_
    have hk : ¬ kd = 1 ∧ ¬ kd = 3 ∧ ¬ kd = 4 := by refine ⟨?_, ?_, ?_⟩ <;> (intro h; rw [h] at q1; revert q1; decide)
    refine x_iload_n C dX2_goOff_52 2 rfl ?_
    refine E dX2_goOff_53 (rfl) ?_
    exact ⟨z, rfl, rfl, by first | (simp [s_goff, s_min, *]; done) | (simp_all [s_goff, s_min]; done)⟩
  ·
    rcases q_sw_1_4 q1 with q1 | q1 | q1 | q1
    ·
      have q1 : kd = 1 := q1
      refine x_tableIn C dX2_goOff_1 (by rw [q1]; decide) (by rw [q1]; decide) (off := 31) (tgt := 32) (by rw [q1]; rfl) rfl ?_
      refine x_iload_n C dX2_goOff_32 2 rfl ?_
      refine x_iconst C dX2_goOff_33 (v := 2) rfl ?_
      refine x_idiv C dX2_goOff_34 (by decide) ?_
      refine E dX2_goOff_35 (rfl) ?_
      exact ⟨(z / 2), rfl, rfl, by first | (simp [s_goff, s_min, *]; done) | (simp_all [s_goff, s_min]; done)⟩
    ·
      have q1 : kd = 2 := q1
      refine x_tableIn C dX2_goOff_1 (by rw [q1]; decide) (by rw [q1]; decide) (off := 51) (tgt := 52) (by rw [q1]; rfl) rfl ?_
      refine x_iload_n C dX2_goOff_52 2 rfl ?_
      refine E dX2_goOff_53 (rfl) ?_
      exact ⟨z, rfl, rfl, by first | (simp [s_goff, s_min, *]; done) | (simp_all [s_goff, s_min]; done)⟩
    ·
      have q1 : kd = 3 := q1
      refine x_tableIn C dX2_goOff_1 (by rw [q1]; decide) (by rw [q1]; decide) (off := 35) (tgt := 36) (by rw [q1]; rfl) rfl ?_
      refine x_iload_n C dX2_goOff_36 2 rfl ?_
      refine x_iconst C dX2_goOff_37 (v := 2) rfl ?_
      refine x_idiv C dX2_goOff_38 (by decide) ?_
      refine x_iload_n C dX2_goOff_39 1 rfl ?_
      refine x_mmin C gw_25_13 gw_17_16 gw_17_17 gw_17_18 (Nat.le_of_ble_eq_true rfl) (Nat.le_of_ble_eq_true rfl) (Nat.le_of_ble_eq_true rfl) (Nat.le_of_ble_eq_true rfl) dX2_goOff_40 ?_
      refine E dX2_goOff_43 (rfl) ?_
      exact ⟨(if mo < (z / 2) then mo else (z / 2)), rfl, rfl, by first | (simp [s_goff, s_min, *]; done) | (simp_all [s_goff, s_min]; done)⟩
    ·
      have q1 : kd = 4 := q1
      refine x_tableIn C dX2_goOff_1 (by rw [q1]; decide) (by rw [q1]; decide) (off := 43) (tgt := 44) (by rw [q1]; rfl) rfl ?_
      refine x_iload_n C dX2_goOff_44 2 rfl ?_
      refine x_iload_n C dX2_goOff_45 1 rfl ?_
      refine x_isub C dX2_goOff_46 ?_
      refine x_iconst C dX2_goOff_47 (v := 0) rfl ?_
      refine x_mmax C gw_25_14 gw_17_20 gw_17_17 gw_17_21 (Nat.le_of_ble_eq_true rfl) (Nat.le_of_ble_eq_true rfl) (Nat.le_of_ble_eq_true rfl) (Nat.le_of_ble_eq_true rfl) dX2_goOff_48 ?_
      refine E dX2_goOff_51 (rfl) ?_
      exact ⟨(if (z - mo) < 0 then 0 else (z - mo)), rfl, rfl, by first | (simp [s_goff, s_min, *]; done) | (simp_all [s_goff, s_min]; done)⟩
set_option maxHeartbeats 4000000 in
set_option maxRecDepth 100000 in
theorem c_X2_come (l : Launch) (dG : va_G) (cI cM cW cS : ClassId) (kd mo z : Int32) : rM l yX2_come cX2_come 3 (some .int) ({ frames := 1, cells := 0, slots := 0, locals := 13 } : Room) dG (tY cI cM cW cS) rZ0 [.int kd, .int mo, .int z] [] (fun ov oz => ∃ (r : Int32), ov = some (.int r) ∧ oz = [] ∧ r = s_come kd mo z) := by
  refine rM_ofI rfl (Nat.le_of_ble_eq_true rfl) rfl (fun X C E => ?_)
  show X 0 0 [] [(0, .int kd), (1, .int mo), (2, .int z)] 0 []
  refine x_iload_n C dX2_come_0 0 rfl ?_
  by_cases q1 : kd = 2
  ·
    refine x_lookup C dX2_come_1 (by decide) (off := 27) (tgt := 28) (by rw [q1]; rfl) rfl ?_
    refine x_iconst C dX2_come_28 (v := 0) rfl ?_
    refine E dX2_come_29 (rfl) ?_
    exact ⟨0, rfl, rfl, by first | (simp [s_come, s_min, *]; done) | (simp_all [s_come, s_min]; done)⟩
  ·
    by_cases q2 : kd = 5
    ·
      refine x_lookup C dX2_come_1 (by decide) (off := 29) (tgt := 30) (by rw [q2]; rfl) rfl ?_
      refine x_iload_n C dX2_come_30 2 rfl ?_
      refine x_iload_n C dX2_come_31 1 rfl ?_
      refine x_mmin C gw_25_13 gw_17_16 gw_17_17 gw_17_18 (Nat.le_of_ble_eq_true rfl) (Nat.le_of_ble_eq_true rfl) (Nat.le_of_ble_eq_true rfl) (Nat.le_of_ble_eq_true rfl) dX2_come_32 ?_
      refine E dX2_come_35 (rfl) ?_
      exact ⟨(if mo < z then mo else z), rfl, rfl, by first | (simp [s_come, s_min, *]; done) | (simp_all [s_come, s_min]; done)⟩
    ·
      refine x_lookup C dX2_come_1 (by decide) (off := 35) (tgt := 36) (by show Op.lookupswitch.offset [(2, 27), (5, 29)] 35 _ = _; rw [Op.lookupswitch.offset_cons, if_neg (q_ne_ti (k := 2) q1 rfl), Op.lookupswitch.offset_cons, if_neg (q_ne_ti (k := 5) q2 rfl)]; rfl) rfl ?_
      refine x_iload_n C dX2_come_36 2 rfl ?_
      refine E dX2_come_37 (rfl) ?_
      exact ⟨z, rfl, rfl, by first | (simp [s_come, s_min, *]; done) | (simp_all [s_come, s_min]; done)⟩
set_option maxHeartbeats 4000000 in
set_option maxRecDepth 100000 in
theorem c_X2_suffers (l : Launch) (dG : va_G) (cI cM cW cS : ClassId) (kd : Int32) : rM l yX2_suffers cX2_suffers 1 (some .boolean) ({ frames := 0, cells := 0, slots := 0, locals := 0 } : Room) dG (tY cI cM cW cS) rZ0 [.int kd] [] (fun ov oz => (ov = some (.int 1) ∧ oz = [] ∧ kd = 0) ∨ (ov = some (.int 0) ∧ oz = [] ∧ ¬ kd = 0)) := by
  refine rM_ofI rfl (Nat.le_of_ble_eq_true rfl) rfl (fun X C E => ?_)
  show X 0 0 [] [(0, .int kd)] 0 []
  refine x_iload_n C dX2_suffers_0 0 rfl ?_
  refine x_if_ne C dX2_suffers_1 (tgt := 8) rfl (fun c1 => ?_) (fun c1 => ?_)
  ·
    refine x_iconst C dX2_suffers_8 (v := 0) rfl ?_
    refine E dX2_suffers_9 (rfl) ?_
    exact Or.inr (⟨rfl, rfl, by assumption⟩)
  ·
    refine x_iconst C dX2_suffers_4 (v := 1) rfl ?_
    refine x_goto C dX2_suffers_5 (tgt := 9) rfl ?_
    refine E dX2_suffers_9 (rfl) ?_
    exact Or.inl ⟨rfl, rfl, by assumption⟩
theorem q_sw_0_2 {x : Int32} (h : (0) ≤ x.toInt ∧ x.toInt ≤ (2)) : x = 0 ∨ x = 1 ∨ x = 2 := by
  have h9 : x.toInt = 0 ∨ x.toInt = 1 ∨ x.toInt = 2 := by omega
  rcases h9 with h9 | h9 | h9
  · exact Or.inl (q_ti (by rw [h9]; rfl))
  · exact Or.inr (Or.inl (q_ti (by rw [h9]; rfl)))
  · exact Or.inr (Or.inr ((q_ti (by rw [h9]; rfl))))

set_option maxHeartbeats 4000000 in
set_option maxRecDepth 100000 in
theorem c_X0_next (l : Launch) (dG : va_G) (cI cM cW cS : ClassId) (c w : Nat) (hc : c < 36) (hw : w < 4) : rM l yX0_next cX0_next 2 (some .int) ({ frames := 0, cells := 0, slots := 0, locals := 0 } : Room) dG (tY cI cM cW cS) rZ0 [.int (nI c), .int (nI w)] [] (fun ov oz => (∃ (t : Nat), ov = some (.int (nI t)) ∧ oz = [] ∧ s_on w c = some t) ∨ (ov = some (.int (-1)) ∧ oz = [] ∧ s_on w c = none)) := by
  refine rM_ofI rfl (Nat.le_of_ble_eq_true rfl) rfl (fun X C E => ?_)
  show X 0 0 [] [(0, .int (nI c)), (1, .int (nI w))] 0 []
  refine x_iload_n C dX0_next_0 1 rfl ?_
  rcases q_sw (nI w) (0) (2) with q1 | q1
  ·
    refine x_tableOut C dX0_next_1 q1 (tgt := 77) rfl ?_
    have hw3 : w = 3 := by have h9 := nI_toInt (n := w) (by omega); rw [h9] at q1; omega
    refine x_iload_n C dX0_next_77 0 rfl ?_
    refine x_bipush C dX0_next_78 (v := 6) rfl ?_
    refine x_irem C dX0_next_80 (by decide) ?_
    refine x_if_le C dX0_next_81 (tgt := 90) rfl (fun c2 => ?_) (fun c2 => ?_)
    ·
      have c2 : c % 6 ≤ 0 := q_le_t (q_irem (a := c) (b := 6) rfl (rfl : (6 : Int32) = nI 6) (by omega) (by decide) (by decide)) (rfl : (0 : Int32) = nI 0) (by omega) (by omega) c2
      refine x_iconst C dX0_next_90 (v := (-1)) rfl ?_
      refine E dX0_next_91 (rfl) ?_
      exact Or.inr (⟨rfl, rfl, by unfold s_on; first | (rw [if_pos (by omega)]; first | (rw [if_pos (by omega)]; done) | (rw [if_neg (by omega)]; done)) | (rw [if_neg (by omega)]; first | (rw [if_pos (by omega)]; first | (rw [if_pos (by omega)]; done) | (rw [if_neg (by omega)]; done)) | (rw [if_neg (by omega)]; first | (rw [if_pos (by omega)]; first | (rw [if_pos (by omega)]; done) | (rw [if_neg (by omega)]; done)) | (rw [if_neg (by omega)]; first | (rw [if_pos (by omega)]; done) | (rw [if_neg (by omega)]; done))))⟩)
    ·
      have c2 : c % 6 > 0 := q_le_f (q_irem (a := c) (b := 6) rfl (rfl : (6 : Int32) = nI 6) (by omega) (by decide) (by decide)) (rfl : (0 : Int32) = nI 0) (by omega) (by omega) c2
      refine x_iload_n C dX0_next_84 0 rfl ?_
      refine x_iconst C dX0_next_85 (v := 1) rfl ?_
      refine x_isub C dX0_next_86 ?_
      refine x_goto C dX0_next_87 (tgt := 91) rfl ?_
      refine x_topi C (nI (c - 1)) (q_isub (a := c) (b := 1) rfl (rfl : (1 : Int32) = nI 1) (by omega)) ?_
      refine E dX0_next_91 (rfl) ?_
      exact Or.inl ⟨(c - 1), rfl, rfl, by unfold s_on; first | (rw [if_pos (by omega)]; first | (rw [if_pos (by omega)]; done) | (rw [if_neg (by omega)]; done)) | (rw [if_neg (by omega)]; first | (rw [if_pos (by omega)]; first | (rw [if_pos (by omega)]; done) | (rw [if_neg (by omega)]; done)) | (rw [if_neg (by omega)]; first | (rw [if_pos (by omega)]; first | (rw [if_pos (by omega)]; done) | (rw [if_neg (by omega)]; done)) | (rw [if_neg (by omega)]; first | (rw [if_pos (by omega)]; done) | (rw [if_neg (by omega)]; done))))⟩
  ·
    rcases q_sw_0_2 q1 with q1 | q1 | q1
    ·
      have q1 : (nI w) = 0 := q1
      refine x_tableIn C dX0_next_1 (by rw [q1]; decide) (by rw [q1]; decide) (off := 27) (tgt := 28) (by rw [q1]; rfl) rfl ?_
      have hw0 : w = 0 := by have h9 := nI_toInt (n := w) (by omega); rw [q1] at h9; have h8 : ((0 : Int32)).toInt = 0 := rfl; omega
      refine x_iload_n C dX0_next_28 0 rfl ?_
      refine x_bipush C dX0_next_29 (v := 6) rfl ?_
      refine x_idiv C dX0_next_31 (by decide) ?_
      refine x_iconst C dX0_next_32 (v := 5) rfl ?_
      refine x_icmp_ge C dX0_next_33 (tgt := 43) rfl (fun c3 => ?_) (fun c3 => ?_)
      ·
        have c3 : c / 6 ≥ 5 := q_ge_t (q_idiv (a := c) (b := 6) rfl (rfl : (6 : Int32) = nI 6) (by omega) (by decide) (by decide)) (rfl : (5 : Int32) = nI 5) (by omega) (by omega) c3
        refine x_iconst C dX0_next_43 (v := (-1)) rfl ?_
        refine E dX0_next_44 (rfl) ?_
        exact Or.inr (⟨rfl, rfl, by unfold s_on; first | (rw [if_pos (by omega)]; first | (rw [if_pos (by omega)]; done) | (rw [if_neg (by omega)]; done)) | (rw [if_neg (by omega)]; first | (rw [if_pos (by omega)]; first | (rw [if_pos (by omega)]; done) | (rw [if_neg (by omega)]; done)) | (rw [if_neg (by omega)]; first | (rw [if_pos (by omega)]; first | (rw [if_pos (by omega)]; done) | (rw [if_neg (by omega)]; done)) | (rw [if_neg (by omega)]; first | (rw [if_pos (by omega)]; done) | (rw [if_neg (by omega)]; done))))⟩)
      ·
        have c3 : c / 6 < 5 := q_ge_f (q_idiv (a := c) (b := 6) rfl (rfl : (6 : Int32) = nI 6) (by omega) (by decide) (by decide)) (rfl : (5 : Int32) = nI 5) (by omega) (by omega) c3
        refine x_iload_n C dX0_next_36 0 rfl ?_
        refine x_bipush C dX0_next_37 (v := 6) rfl ?_
        refine x_iadd C dX0_next_39 ?_
        refine x_goto C dX0_next_40 (tgt := 44) rfl ?_
        refine x_topi C (nI (c + 6)) (q_iadd (a := c) (b := 6) rfl (rfl : (6 : Int32) = nI 6)) ?_
        refine E dX0_next_44 (rfl) ?_
        exact Or.inl ⟨(c + 6), rfl, rfl, by unfold s_on; first | (rw [if_pos (by omega)]; first | (rw [if_pos (by omega)]; done) | (rw [if_neg (by omega)]; done)) | (rw [if_neg (by omega)]; first | (rw [if_pos (by omega)]; first | (rw [if_pos (by omega)]; done) | (rw [if_neg (by omega)]; done)) | (rw [if_neg (by omega)]; first | (rw [if_pos (by omega)]; first | (rw [if_pos (by omega)]; done) | (rw [if_neg (by omega)]; done)) | (rw [if_neg (by omega)]; first | (rw [if_pos (by omega)]; done) | (rw [if_neg (by omega)]; done))))⟩
    ·
      have q1 : (nI w) = 1 := q1
      refine x_tableIn C dX0_next_1 (by rw [q1]; decide) (by rw [q1]; decide) (off := 44) (tgt := 45) (by rw [q1]; rfl) rfl ?_
      have hw1 : w = 1 := by have h9 := nI_toInt (n := w) (by omega); rw [q1] at h9; have h8 : ((1 : Int32)).toInt = 1 := rfl; omega
      refine x_iload_n C dX0_next_45 0 rfl ?_
      refine x_bipush C dX0_next_46 (v := 6) rfl ?_
      refine x_irem C dX0_next_48 (by decide) ?_
      refine x_iconst C dX0_next_49 (v := 5) rfl ?_
      refine x_icmp_ge C dX0_next_50 (tgt := 59) rfl (fun c4 => ?_) (fun c4 => ?_)
      ·
        have c4 : c % 6 ≥ 5 := q_ge_t (q_irem (a := c) (b := 6) rfl (rfl : (6 : Int32) = nI 6) (by omega) (by decide) (by decide)) (rfl : (5 : Int32) = nI 5) (by omega) (by omega) c4
        refine x_iconst C dX0_next_59 (v := (-1)) rfl ?_
        refine E dX0_next_60 (rfl) ?_
        exact Or.inr (⟨rfl, rfl, by unfold s_on; first | (rw [if_pos (by omega)]; first | (rw [if_pos (by omega)]; done) | (rw [if_neg (by omega)]; done)) | (rw [if_neg (by omega)]; first | (rw [if_pos (by omega)]; first | (rw [if_pos (by omega)]; done) | (rw [if_neg (by omega)]; done)) | (rw [if_neg (by omega)]; first | (rw [if_pos (by omega)]; first | (rw [if_pos (by omega)]; done) | (rw [if_neg (by omega)]; done)) | (rw [if_neg (by omega)]; first | (rw [if_pos (by omega)]; done) | (rw [if_neg (by omega)]; done))))⟩)
      ·
        have c4 : c % 6 < 5 := q_ge_f (q_irem (a := c) (b := 6) rfl (rfl : (6 : Int32) = nI 6) (by omega) (by decide) (by decide)) (rfl : (5 : Int32) = nI 5) (by omega) (by omega) c4
        refine x_iload_n C dX0_next_53 0 rfl ?_
        refine x_iconst C dX0_next_54 (v := 1) rfl ?_
        refine x_iadd C dX0_next_55 ?_
        refine x_goto C dX0_next_56 (tgt := 60) rfl ?_
        refine x_topi C (nI (c + 1)) (q_iadd (a := c) (b := 1) rfl (rfl : (1 : Int32) = nI 1)) ?_
        refine E dX0_next_60 (rfl) ?_
        exact Or.inl ⟨(c + 1), rfl, rfl, by unfold s_on; first | (rw [if_pos (by omega)]; first | (rw [if_pos (by omega)]; done) | (rw [if_neg (by omega)]; done)) | (rw [if_neg (by omega)]; first | (rw [if_pos (by omega)]; first | (rw [if_pos (by omega)]; done) | (rw [if_neg (by omega)]; done)) | (rw [if_neg (by omega)]; first | (rw [if_pos (by omega)]; first | (rw [if_pos (by omega)]; done) | (rw [if_neg (by omega)]; done)) | (rw [if_neg (by omega)]; first | (rw [if_pos (by omega)]; done) | (rw [if_neg (by omega)]; done))))⟩
    ·
      have q1 : (nI w) = 2 := q1
      refine x_tableIn C dX0_next_1 (by rw [q1]; decide) (by rw [q1]; decide) (off := 60) (tgt := 61) (by rw [q1]; rfl) rfl ?_
      have hw2 : w = 2 := by have h9 := nI_toInt (n := w) (by omega); rw [q1] at h9; have h8 : ((2 : Int32)).toInt = 2 := rfl; omega
      refine x_iload_n C dX0_next_61 0 rfl ?_
      refine x_bipush C dX0_next_62 (v := 6) rfl ?_
      refine x_idiv C dX0_next_64 (by decide) ?_
      refine x_if_le C dX0_next_65 (tgt := 75) rfl (fun c5 => ?_) (fun c5 => ?_)
      ·
        have c5 : c / 6 ≤ 0 := q_le_t (q_idiv (a := c) (b := 6) rfl (rfl : (6 : Int32) = nI 6) (by omega) (by decide) (by decide)) (rfl : (0 : Int32) = nI 0) (by omega) (by omega) c5
        refine x_iconst C dX0_next_75 (v := (-1)) rfl ?_
        refine E dX0_next_76 (rfl) ?_
        exact Or.inr (⟨rfl, rfl, by unfold s_on; first | (rw [if_pos (by omega)]; first | (rw [if_pos (by omega)]; done) | (rw [if_neg (by omega)]; done)) | (rw [if_neg (by omega)]; first | (rw [if_pos (by omega)]; first | (rw [if_pos (by omega)]; done) | (rw [if_neg (by omega)]; done)) | (rw [if_neg (by omega)]; first | (rw [if_pos (by omega)]; first | (rw [if_pos (by omega)]; done) | (rw [if_neg (by omega)]; done)) | (rw [if_neg (by omega)]; first | (rw [if_pos (by omega)]; done) | (rw [if_neg (by omega)]; done))))⟩)
      ·
        have c5 : c / 6 > 0 := q_le_f (q_idiv (a := c) (b := 6) rfl (rfl : (6 : Int32) = nI 6) (by omega) (by decide) (by decide)) (rfl : (0 : Int32) = nI 0) (by omega) (by omega) c5
        refine x_iload_n C dX0_next_68 0 rfl ?_
        refine x_bipush C dX0_next_69 (v := 6) rfl ?_
        refine x_isub C dX0_next_71 ?_
        refine x_goto C dX0_next_72 (tgt := 76) rfl ?_
        refine x_topi C (nI (c - 6)) (q_isub (a := c) (b := 6) rfl (rfl : (6 : Int32) = nI 6) (by omega)) ?_
        refine E dX0_next_76 (rfl) ?_
        exact Or.inl ⟨(c - 6), rfl, rfl, by unfold s_on; first | (rw [if_pos (by omega)]; first | (rw [if_pos (by omega)]; done) | (rw [if_neg (by omega)]; done)) | (rw [if_neg (by omega)]; first | (rw [if_pos (by omega)]; first | (rw [if_pos (by omega)]; done) | (rw [if_neg (by omega)]; done)) | (rw [if_neg (by omega)]; first | (rw [if_pos (by omega)]; first | (rw [if_pos (by omega)]; done) | (rw [if_neg (by omega)]; done)) | (rw [if_neg (by omega)]; first | (rw [if_pos (by omega)]; done) | (rw [if_neg (by omega)]; done))))⟩
set_option maxHeartbeats 4000000 in
set_option maxRecDepth 100000 in
theorem c_X0_lyingIn (l : Launch) (dG : va_G) (cI cM cW cS : ClassId) (o ly l0 l1 bl b0 b1 cv hg fl of_ nm : Nat) (rt rk ct : Int32) (D W : Nat → Int32) (c : Nat) (hc : c < 36) : rM l yX0_lyingIn cX0_lyingIn 2 (some .int) ({ frames := 0, cells := 0, slots := 0, locals := 0 } : Room) dG (tY cI cM cW cS) rZ0 [.ref o, .int (nI c)] [(o, .inr (0, [.ref ly, .ref bl, .ref cv, .ref hg, .ref fl, .ref of_, .ref nm, .int rt, .int rk, .int ct])), (ly, .inl (cM, 2, .inr (.inr (.inr (.inr (rr2 l0 l1)))))), (l0, .inl (cI, 36, .inl D)), (l1, .inl (cI, 36, .inl W))] (fun ov oz => ∃ (r : Int32), ov = some (.int r) ∧ oz = [(o, .inr (0, [.ref ly, .ref bl, .ref cv, .ref hg, .ref fl, .ref of_, .ref nm, .int rt, .int rk, .int ct])), (ly, .inl (cM, 2, .inr (.inr (.inr (.inr (rr2 l0 l1)))))), (l0, .inl (cI, 36, .inl D)), (l1, .inl (cI, 36, .inl W))] ∧ r = D c + W c) := by
  refine rM_ofI rfl (Nat.le_of_ble_eq_true rfl) rfl (fun X C E => ?_)
  show X 0 0 [(o, .inr (0, [.ref ly, .ref bl, .ref cv, .ref hg, .ref fl, .ref of_, .ref nm, .int rt, .int rk, .int ct])), (ly, .inl (cM, 2, .inr (.inr (.inr (.inr (rr2 l0 l1)))))), (l0, .inl (cI, 36, .inl D)), (l1, .inl (cI, 36, .inl W))] [(0, .ref o), (1, .int (nI c))] 0 []
  refine x_aload_n C dX0_lyingIn_0 0 rfl ?_
  refine x_get C inlX0 rfl 0 (by decide) gw_3_11 dX0_lyingIn_1 0 rfl rfl ?_
  refine x_iconst C dX0_lyingIn_4 (v := 0) rfl ?_
  refine x_aaloadA C 1 rfl dX0_lyingIn_5 0 rfl (q_ix (rfl : (0 : Int32) = nI 0) (by decide) (by decide)) 1 rfl rfl ?_
  refine x_iload_n C dX0_lyingIn_6 1 rfl ?_
  refine x_iaload C 0 rfl dX0_lyingIn_7 c (q_cl rfl (by omega)) (q_ix rfl (by omega) (by omega)) 2 rfl ?_
  refine x_aload_n C dX0_lyingIn_8 0 rfl ?_
  refine x_get C inlX0 rfl 0 (by decide) gw_3_11 dX0_lyingIn_9 0 rfl rfl ?_
  refine x_iconst C dX0_lyingIn_12 (v := 1) rfl ?_
  refine x_aaloadA C 1 rfl dX0_lyingIn_13 1 rfl (q_ix (rfl : (1 : Int32) = nI 1) (by decide) (by decide)) 1 rfl rfl ?_
  show X _ _ _ _ 14 _
  refine x_iload_n C dX0_lyingIn_14 1 rfl ?_
  refine x_iaload C 0 rfl dX0_lyingIn_15 c (q_cl rfl (by omega)) (q_ix rfl (by omega) (by omega)) 3 rfl ?_
  refine x_iadd C dX0_lyingIn_16 ?_
  refine E dX0_lyingIn_17 (rfl) ?_
  exact ⟨((D c) + (W c)), rfl, rfl, rfl⟩
set_option maxHeartbeats 4000000 in
set_option maxRecDepth 100000 in
theorem c_X0_copyRows (l : Launch) (dG : va_G) (cI cM cW cS : ClassId) (ly l0 l1 bl b0 b1 : Nat) (D W B0 B1 : Nat → Int32) : rM l yX0_copyRows cX0_copyRows 2 none ({ frames := 1, cells := 0, slots := 0, locals := 60 } : Room) dG (tY cI cM cW cS) rZ0 [.ref ly, .ref bl] [(ly, .inl (cM, 2, .inr (.inr (.inr (.inr (rr2 l0 l1)))))), (l0, .inl (cI, 36, .inl D)), (l1, .inl (cI, 36, .inl W)), (bl, .inl (cM, 2, .inr (.inr (.inr (.inr (rr2 b0 b1)))))), (b0, .inl (cI, 36, .inl B0)), (b1, .inl (cI, 36, .inl B1))] (fun ov oz => ov = none ∧ oz = [(ly, .inl (cM, 2, .inr (.inr (.inr (.inr (rr2 l0 l1)))))), (l0, .inl (cI, 36, .inl D)), (l1, .inl (cI, 36, .inl W)), (bl, .inl (cM, 2, .inr (.inr (.inr (.inr (rr2 b0 b1)))))), (b0, .inl (cI, 36, .inl D)), (b1, .inl (cI, 36, .inl W))] ∧ True) := by
  refine rM_ofV false (by intro h; cases h) rfl (Nat.le_of_ble_eq_true rfl) rfl (fun X C E => ?_)
  show X 0 0 [(ly, .inl (cM, 2, .inr (.inr (.inr (.inr (rr2 l0 l1)))))), (l0, .inl (cI, 36, .inl D)), (l1, .inl (cI, 36, .inl W)), (bl, .inl (cM, 2, .inr (.inr (.inr (.inr (rr2 b0 b1)))))), (b0, .inl (cI, 36, .inl B0)), (b1, .inl (cI, 36, .inl B1))] [(0, .ref ly), (1, .ref bl)] 0 []
  refine x_aload_n C dX0_copyRows_0 0 rfl ?_
  refine x_iconst C dX0_copyRows_1 (v := 0) rfl ?_
  refine x_aaloadA C 1 rfl dX0_copyRows_2 0 rfl (q_ix (rfl : (0 : Int32) = nI 0) (by decide) (by decide)) 0 rfl rfl ?_
  refine x_iconst C dX0_copyRows_3 (v := 0) rfl ?_
  refine x_aload_n C dX0_copyRows_4 1 rfl ?_
  refine x_iconst C dX0_copyRows_5 (v := 0) rfl ?_
  refine x_aaloadA C 1 rfl dX0_copyRows_6 0 rfl (q_ix (rfl : (0 : Int32) = nI 0) (by decide) (by decide)) 3 rfl rfl ?_
  refine x_iconst C dX0_copyRows_7 (v := 0) rfl ?_
  refine x_bipush C dX0_copyRows_8 (v := 36) rfl ?_
  refine x_copyi C (sp' := 0) (dp' := 0) (z' := 36) 0 rfl gw_23_14 gw_23_15 gw_23_16 gw_23_17 (Nat.le_of_ble_eq_true rfl) (Nat.le_of_ble_eq_true rfl) dX0_copyRows_10 1 4 rfl rfl ((rfl : (0 : Int32) = nI 0)) ((rfl : (0 : Int32) = nI 0)) ((rfl : (36 : Int32) = nI 36)) (by first | decide | omega) (by first | decide | omega) (by first | decide | omega) (by first | decide | omega) ?_
  show X _ _ [(ly, .inl (cM, 2, .inr (.inr (.inr (.inr (rr2 l0 l1)))))), (l0, .inl (cI, 36, .inl D)), (l1, .inl (cI, 36, .inl W)), (bl, .inl (cM, 2, .inr (.inr (.inr (.inr (rr2 b0 b1)))))), (b0, .inl (cI, 36, .inl (va_cpy D B0 0 0 36))), (b1, .inl (cI, 36, .inl B1))] _ _ _
  show X _ _ _ _ 13 _
  refine x_aload_n C dX0_copyRows_13 0 rfl ?_
  refine x_iconst C dX0_copyRows_14 (v := 1) rfl ?_
  refine x_aaloadA C 1 rfl dX0_copyRows_15 1 rfl (q_ix (rfl : (1 : Int32) = nI 1) (by decide) (by decide)) 0 rfl rfl ?_
  refine x_iconst C dX0_copyRows_16 (v := 0) rfl ?_
  refine x_aload_n C dX0_copyRows_17 1 rfl ?_
  refine x_iconst C dX0_copyRows_18 (v := 1) rfl ?_
  refine x_aaloadA C 1 rfl dX0_copyRows_19 1 rfl (q_ix (rfl : (1 : Int32) = nI 1) (by decide) (by decide)) 3 rfl rfl ?_
  refine x_iconst C dX0_copyRows_20 (v := 0) rfl ?_
  refine x_bipush C dX0_copyRows_21 (v := 36) rfl ?_
  refine x_copyi C (sp' := 0) (dp' := 0) (z' := 36) 0 rfl gw_23_14 gw_23_15 gw_23_16 gw_23_17 (Nat.le_of_ble_eq_true rfl) (Nat.le_of_ble_eq_true rfl) dX0_copyRows_23 2 5 rfl rfl ((rfl : (0 : Int32) = nI 0)) ((rfl : (0 : Int32) = nI 0)) ((rfl : (36 : Int32) = nI 36)) (by first | decide | omega) (by first | decide | omega) (by first | decide | omega) (by first | decide | omega) ?_
  show X _ _ [(ly, .inl (cM, 2, .inr (.inr (.inr (.inr (rr2 l0 l1)))))), (l0, .inl (cI, 36, .inl D)), (l1, .inl (cI, 36, .inl W)), (bl, .inl (cM, 2, .inr (.inr (.inr (.inr (rr2 b0 b1)))))), (b0, .inl (cI, 36, .inl (va_cpy D B0 0 0 36))), (b1, .inl (cI, 36, .inl (va_cpy W B1 0 0 36)))] _ _ _
  refine x_arr C 4 rfl D (q_cpy) ?_
  show X _ _ [(ly, .inl (cM, 2, .inr (.inr (.inr (.inr (rr2 l0 l1)))))), (l0, .inl (cI, 36, .inl D)), (l1, .inl (cI, 36, .inl W)), (bl, .inl (cM, 2, .inr (.inr (.inr (.inr (rr2 b0 b1)))))), (b0, .inl (cI, 36, .inl D)), (b1, .inl (cI, 36, .inl (va_cpy W B1 0 0 36)))] _ _ _
  refine x_arr C 5 rfl W (q_cpy) ?_
  show X _ _ [(ly, .inl (cM, 2, .inr (.inr (.inr (.inr (rr2 l0 l1)))))), (l0, .inl (cI, 36, .inl D)), (l1, .inl (cI, 36, .inl W)), (bl, .inl (cM, 2, .inr (.inr (.inr (.inr (rr2 b0 b1)))))), (b0, .inl (cI, 36, .inl D)), (b1, .inl (cI, 36, .inl W))] _ _ _
  show X _ _ _ _ 26 _
  refine E dX0_copyRows_26 ?_
  exact ⟨rfl, rfl, by trivial⟩
set_option maxHeartbeats 4000000 in
set_option maxRecDepth 100000 in
theorem c_X0_soakOrDry (l : Launch) (dG : va_G) (cI cM cW cS : ClassId) (o ly l0 l1 bl b0 b1 cv hg fl of_ nm : Nat) (rt rk ct : Int32) (D W : Nat → Int32) (b rn : Int32) (hb : b = 0 ↔ ¬ rn = 1) : rM l yX0_soakOrDry cX0_soakOrDry 4 none ({ frames := 0, cells := 0, slots := 0, locals := 0 } : Room) dG (tY cI cM cW cS) rZ0 [.ref o, .int b] [(o, .inr (0, [.ref ly, .ref bl, .ref cv, .ref hg, .ref fl, .ref of_, .ref nm, .int rt, .int rk, .int ct])), (ly, .inl (cM, 2, .inr (.inr (.inr (.inr (rr2 l0 l1)))))), (l0, .inl (cI, 36, .inl D)), (l1, .inl (cI, 36, .inl W))] (fun ov oz => ov = none ∧ oz = [(o, .inr (0, [.ref ly, .ref bl, .ref cv, .ref hg, .ref fl, .ref of_, .ref nm, .int rt, .int rk, .int ct])), (ly, .inl (cM, 2, .inr (.inr (.inr (.inr (rr2 l0 l1)))))), (l0, .inl (cI, 36, .inl (fun j => D j + s_go rn D W j))), (l1, .inl (cI, 36, .inl (fun j => W j - s_go rn D W j)))] ∧ True) := by
  refine rM_ofV false (by intro h; cases h) rfl (Nat.le_of_ble_eq_true rfl) rfl (fun X C E => ?_)
  show X 0 0 [(o, .inr (0, [.ref ly, .ref bl, .ref cv, .ref hg, .ref fl, .ref of_, .ref nm, .int rt, .int rk, .int ct])), (ly, .inl (cM, 2, .inr (.inr (.inr (.inr (rr2 l0 l1)))))), (l0, .inl (cI, 36, .inl D)), (l1, .inl (cI, 36, .inl W))] [(0, .ref o), (1, .int b)] 0 []
  refine x_iconst C dX0_soakOrDry_0 (v := 0) rfl ?_
  refine x_istore_n C dX0_soakOrDry_1 (by decide) (lv' := [(2, .int 0), (0, .ref o), (1, .int b)]) rfl ?_
  have L2_0 : ∀ (fuel : Nat) (i : Nat) (g0 g1 : Nat → Int32), (hi : i ≤ 36) → (h0 : ∀ j, g0 j = if j < i then D j + s_go rn D W j else D j) → (h1 : ∀ j, g1 j = if j < i then W j - s_go rn D W j else W j) → 36 - i < fuel → X 0 0 [(o, .inr (0, [.ref ly, .ref bl, .ref cv, .ref hg, .ref fl, .ref of_, .ref nm, .int rt, .int rk, .int ct])), (ly, .inl (cM, 2, .inr (.inr (.inr (.inr (rr2 l0 l1)))))), (l0, .inl (cI, 36, .inl g0)), (l1, .inl (cI, 36, .inl g1))] [(2, .int (nI i)), (1, .int b), (0, .ref o)] 2 [] := by
    intro fuel
    induction fuel with
    | zero => intros; omega
    | succ fuel ihL2_0 =>
      intro i g0 g1 hi h0 h1 hfu
      refine x_iload_n C dX0_soakOrDry_2 0 rfl ?_
      refine x_bipush C dX0_soakOrDry_3 (v := 36) rfl ?_
      refine x_icmp_ge C dX0_soakOrDry_5 (tgt := 65) rfl (fun c2 => ?_) (fun c2 => ?_)
      ·
        have c2 : i ≥ 36 := q_ge_t rfl (rfl : (36 : Int32) = nI 36) (by omega) (by omega) c2
        obtain rfl : i = 36 := by omega
        refine x_arr C 2 rfl (fun j => D j + s_go rn D W j) (q_end (A := fun j => D j + s_go rn D W j) h0) ?_
        show X _ _ [(o, .inr (0, [.ref ly, .ref bl, .ref cv, .ref hg, .ref fl, .ref of_, .ref nm, .int rt, .int rk, .int ct])), (ly, .inl (cM, 2, .inr (.inr (.inr (.inr (rr2 l0 l1)))))), (l0, .inl (cI, 36, .inl (fun j => D j + s_go rn D W j))), (l1, .inl (cI, 36, .inl g1))] _ _ _
        refine x_arr C 3 rfl (fun j => W j - s_go rn D W j) (q_end (A := fun j => W j - s_go rn D W j) h1) ?_
        show X _ _ [(o, .inr (0, [.ref ly, .ref bl, .ref cv, .ref hg, .ref fl, .ref of_, .ref nm, .int rt, .int rk, .int ct])), (ly, .inl (cM, 2, .inr (.inr (.inr (.inr (rr2 l0 l1)))))), (l0, .inl (cI, 36, .inl (fun j => D j + s_go rn D W j))), (l1, .inl (cI, 36, .inl (fun j => W j - s_go rn D W j)))] _ _ _
        refine E dX0_soakOrDry_65 ?_
        exact ⟨rfl, rfl, by trivial⟩
      ·
        have c2 : i < 36 := q_ge_f rfl (rfl : (36 : Int32) = nI 36) (by omega) (by omega) c2
        refine x_iload_n C dX0_soakOrDry_8 1 rfl ?_
        refine x_if_eq C dX0_soakOrDry_9 (tgt := 24) rfl (fun c3 => ?_) (fun c3 => ?_)
        ·
          have hr : ¬ rn = 1 := hb.mp c3
          refine x_aload_n C dX0_soakOrDry_24 2 rfl ?_
          refine x_get C inlX0 rfl 0 (by decide) gw_3_11 dX0_soakOrDry_25 0 rfl rfl ?_
          refine x_iconst C dX0_soakOrDry_28 (v := 1) rfl ?_
          refine x_aaloadA C 1 rfl dX0_soakOrDry_29 1 rfl (q_ix (rfl : (1 : Int32) = nI 1) (by decide) (by decide)) 1 rfl rfl ?_
          refine x_iload_n C dX0_soakOrDry_30 0 rfl ?_
          refine x_iaload C 0 rfl dX0_soakOrDry_31 i (q_cl rfl (by omega)) (q_ix rfl (by omega) (by omega)) 3 rfl ?_
          refine x_iconst C dX0_soakOrDry_32 (v := 2) rfl ?_
          refine x_idiv C dX0_soakOrDry_33 (by decide) ?_
          refine x_istore_n C dX0_soakOrDry_34 (by decide) (lv' := [(3, .int ((g1 i) / 2)), (2, .int (nI i)), (1, .int b), (0, .ref o)]) rfl ?_
          refine x_aload_n C dX0_soakOrDry_35 3 rfl ?_
          show X _ _ _ _ 36 _
          refine x_get C inlX0 rfl 0 (by decide) gw_3_11 dX0_soakOrDry_36 0 rfl rfl ?_
          refine x_iconst C dX0_soakOrDry_39 (v := 0) rfl ?_
          refine x_aaloadA C 1 rfl dX0_soakOrDry_40 0 rfl (q_ix (rfl : (0 : Int32) = nI 0) (by decide) (by decide)) 1 rfl rfl ?_
          refine x_iload_n C dX0_soakOrDry_41 1 rfl ?_
          refine x_dup2 C dX0_soakOrDry_42 rfl rfl ?_
          refine x_iaload C 0 rfl dX0_soakOrDry_43 i (q_cl rfl (by omega)) (q_ix rfl (by omega) (by omega)) 2 rfl ?_
          refine x_iload_n C dX0_soakOrDry_44 0 rfl ?_
          refine x_iadd C dX0_soakOrDry_45 ?_
          refine x_iastore C 0 rfl dX0_soakOrDry_46 i (q_cl rfl (by omega)) (q_ix rfl (by omega) (by omega)) 2 rfl ?_
          show X _ _ [(o, .inr (0, [.ref ly, .ref bl, .ref cv, .ref hg, .ref fl, .ref of_, .ref nm, .int rt, .int rk, .int ct])), (ly, .inl (cM, 2, .inr (.inr (.inr (.inr (rr2 l0 l1)))))), (l0, .inl (cI, 36, .inl (upd g0 i ((g0 i) + ((g1 i) / 2))))), (l1, .inl (cI, 36, .inl g1))] _ _ _
          refine x_aload_n C dX0_soakOrDry_47 3 rfl ?_
          show X _ _ _ _ 48 _
          refine x_get C inlX0 rfl 0 (by decide) gw_3_11 dX0_soakOrDry_48 0 rfl rfl ?_
          refine x_iconst C dX0_soakOrDry_51 (v := 1) rfl ?_
          refine x_aaloadA C 1 rfl dX0_soakOrDry_52 1 rfl (q_ix (rfl : (1 : Int32) = nI 1) (by decide) (by decide)) 1 rfl rfl ?_
          refine x_iload_n C dX0_soakOrDry_53 1 rfl ?_
          refine x_dup2 C dX0_soakOrDry_54 rfl rfl ?_
          refine x_iaload C 0 rfl dX0_soakOrDry_55 i (q_cl rfl (by omega)) (q_ix rfl (by omega) (by omega)) 3 rfl ?_
          refine x_iload_n C dX0_soakOrDry_56 0 rfl ?_
          refine x_isub C dX0_soakOrDry_57 ?_
          refine x_iastore C 0 rfl dX0_soakOrDry_58 i (q_cl rfl (by omega)) (q_ix rfl (by omega) (by omega)) 3 rfl ?_
          show X _ _ [(o, .inr (0, [.ref ly, .ref bl, .ref cv, .ref hg, .ref fl, .ref of_, .ref nm, .int rt, .int rk, .int ct])), (ly, .inl (cM, 2, .inr (.inr (.inr (.inr (rr2 l0 l1)))))), (l0, .inl (cI, 36, .inl (upd g0 i ((g0 i) + ((g1 i) / 2))))), (l1, .inl (cI, 36, .inl (upd g1 i ((g1 i) - ((g1 i) / 2)))))] _ _ _
          refine x_iinc C dX0_soakOrDry_59 1 rfl (v := nI (i + 1)) (nI_1 _) (by decide) (lv' := [(2, .int (nI (i + 1))), (3, .int ((g1 i) / 2)), (1, .int b), (0, .ref o)]) rfl ?_
          show X _ _ _ _ 62 _
          refine x_goto C dX0_soakOrDry_62 (tgt := 2) rfl ?_
          refine x_lv C [0, 2, 3] (lv' := [(2, .int (nI (i + 1))), (1, .int b), (0, .ref o)]) rfl ?_
          exact ihL2_0 (i + 1) (upd g0 i ((g0 i) + ((g1 i) / 2))) (upd g1 i ((g1 i) - ((g1 i) / 2))) (by omega) (q_up (A := fun j => D j + s_go rn D W j) h0 (by rw [q_at (A := fun j => D j + s_go rn D W j) h0]; first | (rw [show s_go rn D W i = _ from if_pos hr]) | (rw [show s_go rn D W i = _ from if_neg hr, q_at (A := fun j => W j - s_go rn D W j) h1]))) (q_up (A := fun j => W j - s_go rn D W j) h1 (by rw [q_at (A := fun j => W j - s_go rn D W j) h1]; first | (rw [show s_go rn D W i = _ from if_pos hr, q_at (A := fun j => D j + s_go rn D W j) h0]) | (rw [show s_go rn D W i = _ from if_neg hr]))) (by omega)
        ·
          have hr : rn = 1 := Classical.not_not.mp (fun h9 => c3 (hb.mpr h9))
          refine x_aload_n C dX0_soakOrDry_12 2 rfl ?_
          refine x_get C inlX0 rfl 0 (by decide) gw_3_11 dX0_soakOrDry_13 0 rfl rfl ?_
          refine x_iconst C dX0_soakOrDry_16 (v := 0) rfl ?_
          refine x_aaloadA C 1 rfl dX0_soakOrDry_17 0 rfl (q_ix (rfl : (0 : Int32) = nI 0) (by decide) (by decide)) 1 rfl rfl ?_
          refine x_iload_n C dX0_soakOrDry_18 0 rfl ?_
          refine x_iaload C 0 rfl dX0_soakOrDry_19 i (q_cl rfl (by omega)) (q_ix rfl (by omega) (by omega)) 2 rfl ?_
          refine x_ineg C dX0_soakOrDry_20 ?_
          refine x_goto C dX0_soakOrDry_21 (tgt := 34) rfl ?_
          refine x_istore_n C dX0_soakOrDry_34 (by decide) (lv' := [(3, .int (-(g0 i))), (2, .int (nI i)), (1, .int b), (0, .ref o)]) rfl ?_
          refine x_aload_n C dX0_soakOrDry_35 3 rfl ?_
          show X _ _ _ _ 36 _
          refine x_get C inlX0 rfl 0 (by decide) gw_3_11 dX0_soakOrDry_36 0 rfl rfl ?_
          refine x_iconst C dX0_soakOrDry_39 (v := 0) rfl ?_
          refine x_aaloadA C 1 rfl dX0_soakOrDry_40 0 rfl (q_ix (rfl : (0 : Int32) = nI 0) (by decide) (by decide)) 1 rfl rfl ?_
          refine x_iload_n C dX0_soakOrDry_41 1 rfl ?_
          refine x_dup2 C dX0_soakOrDry_42 rfl rfl ?_
          refine x_iaload C 0 rfl dX0_soakOrDry_43 i (q_cl rfl (by omega)) (q_ix rfl (by omega) (by omega)) 2 rfl ?_
          refine x_iload_n C dX0_soakOrDry_44 0 rfl ?_
          refine x_iadd C dX0_soakOrDry_45 ?_
          refine x_iastore C 0 rfl dX0_soakOrDry_46 i (q_cl rfl (by omega)) (q_ix rfl (by omega) (by omega)) 2 rfl ?_
          show X _ _ [(o, .inr (0, [.ref ly, .ref bl, .ref cv, .ref hg, .ref fl, .ref of_, .ref nm, .int rt, .int rk, .int ct])), (ly, .inl (cM, 2, .inr (.inr (.inr (.inr (rr2 l0 l1)))))), (l0, .inl (cI, 36, .inl (upd g0 i ((g0 i) + (-(g0 i)))))), (l1, .inl (cI, 36, .inl g1))] _ _ _
          refine x_aload_n C dX0_soakOrDry_47 3 rfl ?_
          show X _ _ _ _ 48 _
          refine x_get C inlX0 rfl 0 (by decide) gw_3_11 dX0_soakOrDry_48 0 rfl rfl ?_
          refine x_iconst C dX0_soakOrDry_51 (v := 1) rfl ?_
          refine x_aaloadA C 1 rfl dX0_soakOrDry_52 1 rfl (q_ix (rfl : (1 : Int32) = nI 1) (by decide) (by decide)) 1 rfl rfl ?_
          refine x_iload_n C dX0_soakOrDry_53 1 rfl ?_
          refine x_dup2 C dX0_soakOrDry_54 rfl rfl ?_
          refine x_iaload C 0 rfl dX0_soakOrDry_55 i (q_cl rfl (by omega)) (q_ix rfl (by omega) (by omega)) 3 rfl ?_
          refine x_iload_n C dX0_soakOrDry_56 0 rfl ?_
          refine x_isub C dX0_soakOrDry_57 ?_
          refine x_iastore C 0 rfl dX0_soakOrDry_58 i (q_cl rfl (by omega)) (q_ix rfl (by omega) (by omega)) 3 rfl ?_
          show X _ _ [(o, .inr (0, [.ref ly, .ref bl, .ref cv, .ref hg, .ref fl, .ref of_, .ref nm, .int rt, .int rk, .int ct])), (ly, .inl (cM, 2, .inr (.inr (.inr (.inr (rr2 l0 l1)))))), (l0, .inl (cI, 36, .inl (upd g0 i ((g0 i) + (-(g0 i)))))), (l1, .inl (cI, 36, .inl (upd g1 i ((g1 i) - (-(g0 i))))))] _ _ _
          refine x_iinc C dX0_soakOrDry_59 1 rfl (v := nI (i + 1)) (nI_1 _) (by decide) (lv' := [(2, .int (nI (i + 1))), (3, .int (-(g0 i))), (1, .int b), (0, .ref o)]) rfl ?_
          show X _ _ _ _ 62 _
          refine x_goto C dX0_soakOrDry_62 (tgt := 2) rfl ?_
          refine x_lv C [0, 2, 3] (lv' := [(2, .int (nI (i + 1))), (1, .int b), (0, .ref o)]) rfl ?_
          exact ihL2_0 (i + 1) (upd g0 i ((g0 i) + (-(g0 i)))) (upd g1 i ((g1 i) - (-(g0 i)))) (by omega) (q_up (A := fun j => D j + s_go rn D W j) h0 (by rw [q_at (A := fun j => D j + s_go rn D W j) h0]; first | (rw [show s_go rn D W i = _ from if_pos hr]) | (rw [show s_go rn D W i = _ from if_neg hr, q_at (A := fun j => W j - s_go rn D W j) h1]))) (q_up (A := fun j => W j - s_go rn D W j) h1 (by rw [q_at (A := fun j => W j - s_go rn D W j) h1]; first | (rw [show s_go rn D W i = _ from if_pos hr, q_at (A := fun j => D j + s_go rn D W j) h0]) | (rw [show s_go rn D W i = _ from if_neg hr]))) (by omega)
  refine x_lv C [0, 2, 1] (lv' := [(2, .int 0), (1, .int b), (0, .ref o)]) rfl ?_
  show X 0 0 [(o, .inr (0, [.ref ly, .ref bl, .ref cv, .ref hg, .ref fl, .ref of_, .ref nm, .int rt, .int rk, .int ct])), (ly, .inl (cM, 2, .inr (.inr (.inr (.inr (rr2 l0 l1)))))), (l0, .inl (cI, 36, .inl D)), (l1, .inl (cI, 36, .inl W))] [(2, .int (nI 0)), (1, .int b), (0, .ref o)] 2 []
  exact L2_0 ((36 - 0) + 1) 0 D W (by omega) (q_0 (A := fun j => D j + s_go rn D W j)) (q_0 (A := fun j => W j - s_go rn D W j)) (Nat.lt_succ_self _)
