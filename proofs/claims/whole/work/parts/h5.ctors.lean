set_option maxHeartbeats 4000000 in
set_option maxRecDepth 100000 in
theorem c_X1_init (l : Launch) (dG : va_G) (cI cM cW cS : ClassId) (h : Nat) : rM l yX1_init cX1_init 1 none ({ frames := 1, cells := 1, slots := 36, locals := 22 } : Room) dG (tY cI cM cW cS) rZ0 [.ref h] [(h, .inr (1, [.null]))] (fun ov oz => ∃ (aa : Nat), ov = none ∧ oz = [(h, .inr (1, [.ref aa])), (aa, .inl (cI, 36, .inl (fun _ => 0)))]) := by
  refine rM_ofV true (by intro _; rfl) rfl (Nat.le_of_ble_eq_true rfl) rfl (fun X C E => ?_)
  show X 0 0 [(h, .inr (1, [.null]))] [(0, .ref h)] 0 []
  refine x_aload_n C dX1_init_0 0 rfl ?_
  refine x_objInit C gw_3_20 gw_1_11 gw_1_12 dX1_init_1 (Nat.le_of_ble_eq_true rfl) (Nat.le_of_ble_eq_true rfl) ?_
  refine x_aload_n C dX1_init_4 0 rfl ?_
  refine x_bipush C dX1_init_5 (v := 36) rfl ?_
  refine x_newa C 0 rfl gw_2_11 (N := 36) rfl (by decide) ⟨Nat.le_of_ble_eq_true rfl, Nat.le_of_ble_eq_true rfl⟩ dX1_init_7 (fun aa => ?_)
  show X 1 36 [(h, .inr (1, [.null])), (aa, .inl (cI, 36, .inl (fun _ => 0)))] [(0, .ref h)] 9 [.ref aa, .ref h]
  refine x_putF C inlX1 rfl tyX1 tyX1_ok nmX1 0 (by decide) gw_3_21 rfl rfl dX1_init_9 0 rfl rfl rfl (Nat.le_of_ble_eq_true rfl) ?_
  show X 1 36 [(h, .inr (1, [.ref aa])), (aa, .inl (cI, 36, .inl (fun _ => 0)))] [(0, .ref h)] 12 []
  refine E dX1_init_12 ?_
  exact ⟨aa, rfl, rfl⟩
set_option maxHeartbeats 4000000 in
set_option maxRecDepth 100000 in
theorem c_X3_init (l : Launch) (dG : va_G) (cI cM cW cS : ClassId) (q : Nat) : rM l yX3_init cX3_init 1 none ({ frames := 1, cells := 3, slots := 323, locals := 22 } : Room) dG (tY cI cM cW cS) rZ0 [.ref q] [(q, .inr (2, [.null, .null, .null, .int 0]))] (fun ov oz => ∃ (qc qs qe : Nat), ov = none ∧ oz = [(q, .inr (2, [.ref qc, .ref qs, .ref qe, .int 0])), (qc, .inl (cI, 160, .inl (fun _ => 0))), (qs, .inl (cI, 160, .inl (fun _ => 0))), (qe, .inl (cI, 3, .inl (fun _ => 0)))]) := by
  refine rM_ofV true (by intro _; rfl) rfl (Nat.le_of_ble_eq_true rfl) rfl (fun X C E => ?_)
  show X 0 0 [(q, .inr (2, [.null, .null, .null, .int 0]))] [(0, .ref q)] 0 []
  refine x_aload_n C dX3_init_0 0 rfl ?_
  refine x_objInit C gw_4_4 gw_1_11 gw_1_12 dX3_init_1 (Nat.le_of_ble_eq_true rfl) (Nat.le_of_ble_eq_true rfl) ?_
  refine x_aload_n C dX3_init_4 0 rfl ?_
  refine x_sipush C dX3_init_5 (v := 160) rfl ?_
  refine x_newa C 0 rfl gw_2_11 (N := 160) rfl (by decide) ⟨Nat.le_of_ble_eq_true rfl, Nat.le_of_ble_eq_true rfl⟩ dX3_init_8 (fun qc => ?_)
  show X 1 160 [(q, .inr (2, [.null, .null, .null, .int 0])), (qc, .inl (cI, 160, .inl (fun _ => 0)))] [(0, .ref q)] 10 [.ref qc, .ref q]
  refine x_putF C inlX3 rfl tyX3 tyX3_ok nmX3 0 (by decide) gw_4_5 rfl rfl dX3_init_10 0 rfl rfl rfl (Nat.le_of_ble_eq_true rfl) ?_
  show X 1 160 [(q, .inr (2, [.ref qc, .null, .null, .int 0])), (qc, .inl (cI, 160, .inl (fun _ => 0)))] [(0, .ref q)] 13 []
  refine x_aload_n C dX3_init_13 0 rfl ?_
  refine x_sipush C dX3_init_14 (v := 160) rfl ?_
  refine x_newa C 0 rfl gw_2_11 (N := 160) rfl (by decide) ⟨Nat.le_of_ble_eq_true rfl, Nat.le_of_ble_eq_true rfl⟩ dX3_init_17 (fun qs => ?_)
  show X 2 320 [(q, .inr (2, [.ref qc, .null, .null, .int 0])), (qc, .inl (cI, 160, .inl (fun _ => 0))), (qs, .inl (cI, 160, .inl (fun _ => 0)))] [(0, .ref q)] 19 [.ref qs, .ref q]
  refine x_putF C inlX3 rfl tyX3 tyX3_ok nmX3 1 (by decide) gw_4_6 rfl rfl dX3_init_19 0 rfl rfl rfl (Nat.le_of_ble_eq_true rfl) ?_
  show X 2 320 [(q, .inr (2, [.ref qc, .ref qs, .null, .int 0])), (qc, .inl (cI, 160, .inl (fun _ => 0))), (qs, .inl (cI, 160, .inl (fun _ => 0)))] [(0, .ref q)] 22 []
  refine x_aload_n C dX3_init_22 0 rfl ?_
  refine x_iconst C dX3_init_23 (v := 3) rfl ?_
  refine x_newa C 0 rfl gw_2_11 (N := 3) rfl (by decide) ⟨Nat.le_of_ble_eq_true rfl, Nat.le_of_ble_eq_true rfl⟩ dX3_init_24 (fun qe => ?_)
  show X 3 323 [(q, .inr (2, [.ref qc, .ref qs, .null, .int 0])), (qc, .inl (cI, 160, .inl (fun _ => 0))), (qs, .inl (cI, 160, .inl (fun _ => 0))), (qe, .inl (cI, 3, .inl (fun _ => 0)))] [(0, .ref q)] 26 [.ref qe, .ref q]
  refine x_putF C inlX3 rfl tyX3 tyX3_ok nmX3 2 (by decide) gw_4_7 rfl rfl dX3_init_26 0 rfl rfl rfl (Nat.le_of_ble_eq_true rfl) ?_
  show X 3 323 [(q, .inr (2, [.ref qc, .ref qs, .ref qe, .int 0])), (qc, .inl (cI, 160, .inl (fun _ => 0))), (qs, .inl (cI, 160, .inl (fun _ => 0))), (qe, .inl (cI, 3, .inl (fun _ => 0)))] [(0, .ref q)] 29 []
  refine E dX3_init_29 ?_
  exact ⟨qc, qs, qe, rfl, rfl⟩
set_option maxHeartbeats 4000000 in
set_option maxRecDepth 100000 in
theorem c_X5_init (l : Launch) (dG : va_G) (cI cM cW cS : ClassId) (r : Nat) : rM l yX5_init cX5_init 1 none ({ frames := 1, cells := 1, slots := 160, locals := 22 } : Room) dG (tY cI cM cW cS) rZ0 [.ref r] [(r, .inr (4, [.null, .int 0, .int 0, .int 0, .int 0, .int 0, .int 0, .null]))] (fun ov oz => ∃ (rta : Nat), ov = none ∧ oz = [(r, .inr (4, [.ref rta, .int 0, .int 0, .int 0, .int 0, .int 0, .int 0, .null])), (rta, .inl (cI, 160, .inl (fun _ => 0)))]) := by
  refine rM_ofV true (by intro _; rfl) rfl (Nat.le_of_ble_eq_true rfl) rfl (fun X C E => ?_)
  show X 0 0 [(r, .inr (4, [.null, .int 0, .int 0, .int 0, .int 0, .int 0, .int 0, .null]))] [(0, .ref r)] 0 []
  refine x_aload_n C dX5_init_0 0 rfl ?_
  refine x_objInit C gw_4_0 gw_1_11 gw_1_12 dX5_init_1 (Nat.le_of_ble_eq_true rfl) (Nat.le_of_ble_eq_true rfl) ?_
  refine x_aload_n C dX5_init_4 0 rfl ?_
  refine x_sipush C dX5_init_5 (v := 160) rfl ?_
  refine x_newa C 0 rfl gw_2_11 (N := 160) rfl (by decide) ⟨Nat.le_of_ble_eq_true rfl, Nat.le_of_ble_eq_true rfl⟩ dX5_init_8 (fun rta => ?_)
  show X 1 160 [(r, .inr (4, [.null, .int 0, .int 0, .int 0, .int 0, .int 0, .int 0, .null])), (rta, .inl (cI, 160, .inl (fun _ => 0)))] [(0, .ref r)] 10 [.ref rta, .ref r]
  refine x_putF C inlX5 rfl tyX5 tyX5_ok nmX5 0 (by decide) gw_4_1 rfl rfl dX5_init_10 0 rfl rfl rfl (Nat.le_of_ble_eq_true rfl) ?_
  show X 1 160 [(r, .inr (4, [.ref rta, .int 0, .int 0, .int 0, .int 0, .int 0, .int 0, .null])), (rta, .inl (cI, 160, .inl (fun _ => 0)))] [(0, .ref r)] 13 []
  refine E dX5_init_13 ?_
  exact ⟨rta, rfl, rfl⟩
set_option maxHeartbeats 4000000 in
set_option maxRecDepth 100000 in
theorem c_X6_init (l : Launch) (dG : va_G) (cI cM cW cS : ClassId) (sh : Nat) : rM l yX6_init cX6_init 1 none ({ frames := 1, cells := 1, slots := 40, locals := 22 } : Room) dG (tY cI cM cW cS) rZ0 [.ref sh] [(sh, .inr (5, [.null, .int 0, .int 0]))] (fun ov oz => ∃ (ra : Nat), ov = none ∧ oz = [(sh, .inr (5, [.ref ra, .int (-1), .int 0])), (ra, .inl (cI, 40, .inl (fun _ => 0)))]) := by
  refine rM_ofV true (by intro _; rfl) rfl (Nat.le_of_ble_eq_true rfl) rfl (fun X C E => ?_)
  show X 0 0 [(sh, .inr (5, [.null, .int 0, .int 0]))] [(0, .ref sh)] 0 []
  refine x_aload_n C dX6_init_0 0 rfl ?_
  refine x_objInit C gw_4_10 gw_1_11 gw_1_12 dX6_init_1 (Nat.le_of_ble_eq_true rfl) (Nat.le_of_ble_eq_true rfl) ?_
  refine x_aload_n C dX6_init_4 0 rfl ?_
  refine x_bipush C dX6_init_5 (v := 40) rfl ?_
  refine x_newa C 0 rfl gw_2_11 (N := 40) rfl (by decide) ⟨Nat.le_of_ble_eq_true rfl, Nat.le_of_ble_eq_true rfl⟩ dX6_init_7 (fun ra => ?_)
  show X 1 40 [(sh, .inr (5, [.null, .int 0, .int 0])), (ra, .inl (cI, 40, .inl (fun _ => 0)))] [(0, .ref sh)] 9 [.ref ra, .ref sh]
  refine x_putF C inlX6 rfl tyX6 tyX6_ok nmX6 0 (by decide) gw_4_11 rfl rfl dX6_init_9 0 rfl rfl rfl (Nat.le_of_ble_eq_true rfl) ?_
  show X 1 40 [(sh, .inr (5, [.ref ra, .int 0, .int 0])), (ra, .inl (cI, 40, .inl (fun _ => 0)))] [(0, .ref sh)] 12 []
  refine x_aload_n C dX6_init_12 0 rfl ?_
  refine x_iconst C dX6_init_13 (v := (-1)) rfl ?_
  refine x_put C inlX6 rfl tyX6 tyX6_ok nmX6 1 (by decide) gw_4_12 rfl dX6_init_14 0 rfl rfl rfl (Nat.le_of_ble_eq_true rfl) ?_
  show X 1 40 [(sh, .inr (5, [.ref ra, .int (-1), .int 0])), (ra, .inl (cI, 40, .inl (fun _ => 0)))] [(0, .ref sh)] 17 []
  refine E dX6_init_17 ?_
  exact ⟨ra, rfl, rfl⟩
set_option maxHeartbeats 4000000 in
set_option maxRecDepth 100000 in
theorem c_X4_init (l : Launch) (dG : va_G) (cI cM cW cS : ClassId) (adK adV : Nat → Nat) (fm : Option Nat) (w : Nat) : rM l yX4_init cX4_init 1 none ({ frames := 1, cells := 11, slots := 180, locals := 22 } : Room) dG (tY cI cM cW cS) (rZc adK adV fm) [.ref w] [(w, .inr (3, [.null, .null, .null, .null, .null, .null, .null, .int 0, .int 0, .long 0, .int 0]))] (fun ov oz => ∃ (sk s0 s1 s2 s3 kd mo lv tc ts tl : Nat), ov = none ∧ oz = [(w, .inr (3, [.ref sk, .ref kd, .ref mo, .ref lv, .ref tc, .ref ts, .ref tl, .int 0, .int 0, .long 1, .int 0])), (sk, .inl (cM, 4, .inr (.inr (.inr (.inr (rr4 s0 s1 s2 s3)))))), (s0, .inl (cI, 14, .inl (fun _ => 0))), (s1, .inl (cI, 14, .inl (fun _ => 0))), (s2, .inl (cI, 14, .inl (fun _ => 0))), (s3, .inl (cI, 14, .inl (fun _ => 0))), (kd, .inl (cI, 36, .inl (fun _ => 0))), (mo, .inl (cI, 36, .inl (fun _ => 0))), (lv, .inl (cI, 36, .inl (fun _ => 0))), (tc, .inl (cI, 4, .inl (fun _ => 0))), (ts, .inl (cI, 4, .inl (fun _ => 0))), (tl, .inl (cI, 4, .inl (fun _ => 0)))]) := by
  refine rM_ofV true (by intro _; rfl) rfl (Nat.le_of_ble_eq_true rfl) rfl (fun X C E => ?_)
  show X 0 0 [(w, .inr (3, [.null, .null, .null, .null, .null, .null, .null, .int 0, .int 0, .long 0, .int 0]))] [(0, .ref w)] 0 []
  refine x_aload_n C dX4_init_0 0 rfl ?_
  refine x_objInit C gw_2_21 gw_1_11 gw_1_12 dX4_init_1 (Nat.le_of_ble_eq_true rfl) (Nat.le_of_ble_eq_true rfl) ?_
  refine x_aload_n C dX4_init_4 0 rfl ?_
  refine x_iconst C dX4_init_5 (v := 4) rfl ?_
  refine x_bipush C dX4_init_6 (v := 14) rfl ?_
  refine x_mna4 C 1 0 rfl rfl gw_2_22 gw_2_11 (fun _ _ _ h9 => h9.2.2.2) (K := 14) rfl (by decide) ⟨Nat.le_of_ble_eq_true rfl, Nat.le_of_ble_eq_true rfl⟩ dX4_init_8 (fun sk s0 s1 s2 s3 => ?_)
  show X 5 60 [(w, .inr (3, [.null, .null, .null, .null, .null, .null, .null, .int 0, .int 0, .long 0, .int 0])), (sk, .inl (cM, 4, .inr (.inr (.inr (.inr (rr4 s0 s1 s2 s3)))))), (s0, .inl (cI, 14, .inl (fun _ => 0))), (s1, .inl (cI, 14, .inl (fun _ => 0))), (s2, .inl (cI, 14, .inl (fun _ => 0))), (s3, .inl (cI, 14, .inl (fun _ => 0)))] [(0, .ref w)] 12 [.ref sk, .ref w]
  refine x_putF C inlX4 rfl tyX4 tyX4_ok nmX4 0 (by decide) gw_2_23 rfl rfl dX4_init_12 0 rfl rfl rfl (Nat.le_of_ble_eq_true rfl) ?_
  show X 5 60 [(w, .inr (3, [.ref sk, .null, .null, .null, .null, .null, .null, .int 0, .int 0, .long 0, .int 0])), (sk, .inl (cM, 4, .inr (.inr (.inr (.inr (rr4 s0 s1 s2 s3)))))), (s0, .inl (cI, 14, .inl (fun _ => 0))), (s1, .inl (cI, 14, .inl (fun _ => 0))), (s2, .inl (cI, 14, .inl (fun _ => 0))), (s3, .inl (cI, 14, .inl (fun _ => 0)))] [(0, .ref w)] 15 []
  refine x_aload_n C dX4_init_15 0 rfl ?_
  refine x_bipush C dX4_init_16 (v := 36) rfl ?_
  refine x_newa C 0 rfl gw_2_11 (N := 36) rfl (by decide) ⟨Nat.le_of_ble_eq_true rfl, Nat.le_of_ble_eq_true rfl⟩ dX4_init_18 (fun kd => ?_)
  show X 6 96 [(w, .inr (3, [.ref sk, .null, .null, .null, .null, .null, .null, .int 0, .int 0, .long 0, .int 0])), (sk, .inl (cM, 4, .inr (.inr (.inr (.inr (rr4 s0 s1 s2 s3)))))), (s0, .inl (cI, 14, .inl (fun _ => 0))), (s1, .inl (cI, 14, .inl (fun _ => 0))), (s2, .inl (cI, 14, .inl (fun _ => 0))), (s3, .inl (cI, 14, .inl (fun _ => 0))), (kd, .inl (cI, 36, .inl (fun _ => 0)))] [(0, .ref w)] 20 [.ref kd, .ref w]
  refine x_putF C inlX4 rfl tyX4 tyX4_ok nmX4 1 (by decide) gw_3_0 rfl rfl dX4_init_20 0 rfl rfl rfl (Nat.le_of_ble_eq_true rfl) ?_
  show X 6 96 [(w, .inr (3, [.ref sk, .ref kd, .null, .null, .null, .null, .null, .int 0, .int 0, .long 0, .int 0])), (sk, .inl (cM, 4, .inr (.inr (.inr (.inr (rr4 s0 s1 s2 s3)))))), (s0, .inl (cI, 14, .inl (fun _ => 0))), (s1, .inl (cI, 14, .inl (fun _ => 0))), (s2, .inl (cI, 14, .inl (fun _ => 0))), (s3, .inl (cI, 14, .inl (fun _ => 0))), (kd, .inl (cI, 36, .inl (fun _ => 0)))] [(0, .ref w)] 23 []
  refine x_aload_n C dX4_init_23 0 rfl ?_
  refine x_bipush C dX4_init_24 (v := 36) rfl ?_
  refine x_newa C 0 rfl gw_2_11 (N := 36) rfl (by decide) ⟨Nat.le_of_ble_eq_true rfl, Nat.le_of_ble_eq_true rfl⟩ dX4_init_26 (fun mo => ?_)
  show X 7 132 [(w, .inr (3, [.ref sk, .ref kd, .null, .null, .null, .null, .null, .int 0, .int 0, .long 0, .int 0])), (sk, .inl (cM, 4, .inr (.inr (.inr (.inr (rr4 s0 s1 s2 s3)))))), (s0, .inl (cI, 14, .inl (fun _ => 0))), (s1, .inl (cI, 14, .inl (fun _ => 0))), (s2, .inl (cI, 14, .inl (fun _ => 0))), (s3, .inl (cI, 14, .inl (fun _ => 0))), (kd, .inl (cI, 36, .inl (fun _ => 0))), (mo, .inl (cI, 36, .inl (fun _ => 0)))] [(0, .ref w)] 28 [.ref mo, .ref w]
  refine x_putF C inlX4 rfl tyX4 tyX4_ok nmX4 2 (by decide) gw_3_1 rfl rfl dX4_init_28 0 rfl rfl rfl (Nat.le_of_ble_eq_true rfl) ?_
  show X 7 132 [(w, .inr (3, [.ref sk, .ref kd, .ref mo, .null, .null, .null, .null, .int 0, .int 0, .long 0, .int 0])), (sk, .inl (cM, 4, .inr (.inr (.inr (.inr (rr4 s0 s1 s2 s3)))))), (s0, .inl (cI, 14, .inl (fun _ => 0))), (s1, .inl (cI, 14, .inl (fun _ => 0))), (s2, .inl (cI, 14, .inl (fun _ => 0))), (s3, .inl (cI, 14, .inl (fun _ => 0))), (kd, .inl (cI, 36, .inl (fun _ => 0))), (mo, .inl (cI, 36, .inl (fun _ => 0)))] [(0, .ref w)] 31 []
  refine x_aload_n C dX4_init_31 0 rfl ?_
  refine x_bipush C dX4_init_32 (v := 36) rfl ?_
  refine x_newa C 0 rfl gw_2_11 (N := 36) rfl (by decide) ⟨Nat.le_of_ble_eq_true rfl, Nat.le_of_ble_eq_true rfl⟩ dX4_init_34 (fun lv => ?_)
  show X 8 168 [(w, .inr (3, [.ref sk, .ref kd, .ref mo, .null, .null, .null, .null, .int 0, .int 0, .long 0, .int 0])), (sk, .inl (cM, 4, .inr (.inr (.inr (.inr (rr4 s0 s1 s2 s3)))))), (s0, .inl (cI, 14, .inl (fun _ => 0))), (s1, .inl (cI, 14, .inl (fun _ => 0))), (s2, .inl (cI, 14, .inl (fun _ => 0))), (s3, .inl (cI, 14, .inl (fun _ => 0))), (kd, .inl (cI, 36, .inl (fun _ => 0))), (mo, .inl (cI, 36, .inl (fun _ => 0))), (lv, .inl (cI, 36, .inl (fun _ => 0)))] [(0, .ref w)] 36 [.ref lv, .ref w]
  refine x_putF C inlX4 rfl tyX4 tyX4_ok nmX4 3 (by decide) gw_3_2 rfl rfl dX4_init_36 0 rfl rfl rfl (Nat.le_of_ble_eq_true rfl) ?_
  show X 8 168 [(w, .inr (3, [.ref sk, .ref kd, .ref mo, .ref lv, .null, .null, .null, .int 0, .int 0, .long 0, .int 0])), (sk, .inl (cM, 4, .inr (.inr (.inr (.inr (rr4 s0 s1 s2 s3)))))), (s0, .inl (cI, 14, .inl (fun _ => 0))), (s1, .inl (cI, 14, .inl (fun _ => 0))), (s2, .inl (cI, 14, .inl (fun _ => 0))), (s3, .inl (cI, 14, .inl (fun _ => 0))), (kd, .inl (cI, 36, .inl (fun _ => 0))), (mo, .inl (cI, 36, .inl (fun _ => 0))), (lv, .inl (cI, 36, .inl (fun _ => 0)))] [(0, .ref w)] 39 []
  refine x_aload_n C dX4_init_39 0 rfl ?_
  refine x_iconst C dX4_init_40 (v := 4) rfl ?_
  refine x_newa C 0 rfl gw_2_11 (N := 4) rfl (by decide) ⟨Nat.le_of_ble_eq_true rfl, Nat.le_of_ble_eq_true rfl⟩ dX4_init_41 (fun tc => ?_)
  show X 9 172 [(w, .inr (3, [.ref sk, .ref kd, .ref mo, .ref lv, .null, .null, .null, .int 0, .int 0, .long 0, .int 0])), (sk, .inl (cM, 4, .inr (.inr (.inr (.inr (rr4 s0 s1 s2 s3)))))), (s0, .inl (cI, 14, .inl (fun _ => 0))), (s1, .inl (cI, 14, .inl (fun _ => 0))), (s2, .inl (cI, 14, .inl (fun _ => 0))), (s3, .inl (cI, 14, .inl (fun _ => 0))), (kd, .inl (cI, 36, .inl (fun _ => 0))), (mo, .inl (cI, 36, .inl (fun _ => 0))), (lv, .inl (cI, 36, .inl (fun _ => 0))), (tc, .inl (cI, 4, .inl (fun _ => 0)))] [(0, .ref w)] 43 [.ref tc, .ref w]
  refine x_putF C inlX4 rfl tyX4 tyX4_ok nmX4 4 (by decide) gw_3_3 rfl rfl dX4_init_43 0 rfl rfl rfl (Nat.le_of_ble_eq_true rfl) ?_
  show X 9 172 [(w, .inr (3, [.ref sk, .ref kd, .ref mo, .ref lv, .ref tc, .null, .null, .int 0, .int 0, .long 0, .int 0])), (sk, .inl (cM, 4, .inr (.inr (.inr (.inr (rr4 s0 s1 s2 s3)))))), (s0, .inl (cI, 14, .inl (fun _ => 0))), (s1, .inl (cI, 14, .inl (fun _ => 0))), (s2, .inl (cI, 14, .inl (fun _ => 0))), (s3, .inl (cI, 14, .inl (fun _ => 0))), (kd, .inl (cI, 36, .inl (fun _ => 0))), (mo, .inl (cI, 36, .inl (fun _ => 0))), (lv, .inl (cI, 36, .inl (fun _ => 0))), (tc, .inl (cI, 4, .inl (fun _ => 0)))] [(0, .ref w)] 46 []
  refine x_aload_n C dX4_init_46 0 rfl ?_
  refine x_iconst C dX4_init_47 (v := 4) rfl ?_
  refine x_newa C 0 rfl gw_2_11 (N := 4) rfl (by decide) ⟨Nat.le_of_ble_eq_true rfl, Nat.le_of_ble_eq_true rfl⟩ dX4_init_48 (fun ts => ?_)
  show X 10 176 [(w, .inr (3, [.ref sk, .ref kd, .ref mo, .ref lv, .ref tc, .null, .null, .int 0, .int 0, .long 0, .int 0])), (sk, .inl (cM, 4, .inr (.inr (.inr (.inr (rr4 s0 s1 s2 s3)))))), (s0, .inl (cI, 14, .inl (fun _ => 0))), (s1, .inl (cI, 14, .inl (fun _ => 0))), (s2, .inl (cI, 14, .inl (fun _ => 0))), (s3, .inl (cI, 14, .inl (fun _ => 0))), (kd, .inl (cI, 36, .inl (fun _ => 0))), (mo, .inl (cI, 36, .inl (fun _ => 0))), (lv, .inl (cI, 36, .inl (fun _ => 0))), (tc, .inl (cI, 4, .inl (fun _ => 0))), (ts, .inl (cI, 4, .inl (fun _ => 0)))] [(0, .ref w)] 50 [.ref ts, .ref w]
  refine x_putF C inlX4 rfl tyX4 tyX4_ok nmX4 5 (by decide) gw_3_4 rfl rfl dX4_init_50 0 rfl rfl rfl (Nat.le_of_ble_eq_true rfl) ?_
  show X 10 176 [(w, .inr (3, [.ref sk, .ref kd, .ref mo, .ref lv, .ref tc, .ref ts, .null, .int 0, .int 0, .long 0, .int 0])), (sk, .inl (cM, 4, .inr (.inr (.inr (.inr (rr4 s0 s1 s2 s3)))))), (s0, .inl (cI, 14, .inl (fun _ => 0))), (s1, .inl (cI, 14, .inl (fun _ => 0))), (s2, .inl (cI, 14, .inl (fun _ => 0))), (s3, .inl (cI, 14, .inl (fun _ => 0))), (kd, .inl (cI, 36, .inl (fun _ => 0))), (mo, .inl (cI, 36, .inl (fun _ => 0))), (lv, .inl (cI, 36, .inl (fun _ => 0))), (tc, .inl (cI, 4, .inl (fun _ => 0))), (ts, .inl (cI, 4, .inl (fun _ => 0)))] [(0, .ref w)] 53 []
  refine x_aload_n C dX4_init_53 0 rfl ?_
  refine x_iconst C dX4_init_54 (v := 4) rfl ?_
  refine x_newa C 0 rfl gw_2_11 (N := 4) rfl (by decide) ⟨Nat.le_of_ble_eq_true rfl, Nat.le_of_ble_eq_true rfl⟩ dX4_init_55 (fun tl => ?_)
  show X 11 180 [(w, .inr (3, [.ref sk, .ref kd, .ref mo, .ref lv, .ref tc, .ref ts, .null, .int 0, .int 0, .long 0, .int 0])), (sk, .inl (cM, 4, .inr (.inr (.inr (.inr (rr4 s0 s1 s2 s3)))))), (s0, .inl (cI, 14, .inl (fun _ => 0))), (s1, .inl (cI, 14, .inl (fun _ => 0))), (s2, .inl (cI, 14, .inl (fun _ => 0))), (s3, .inl (cI, 14, .inl (fun _ => 0))), (kd, .inl (cI, 36, .inl (fun _ => 0))), (mo, .inl (cI, 36, .inl (fun _ => 0))), (lv, .inl (cI, 36, .inl (fun _ => 0))), (tc, .inl (cI, 4, .inl (fun _ => 0))), (ts, .inl (cI, 4, .inl (fun _ => 0))), (tl, .inl (cI, 4, .inl (fun _ => 0)))] [(0, .ref w)] 57 [.ref tl, .ref w]
  refine x_putF C inlX4 rfl tyX4 tyX4_ok nmX4 6 (by decide) gw_3_5 rfl rfl dX4_init_57 0 rfl rfl rfl (Nat.le_of_ble_eq_true rfl) ?_
  show X 11 180 [(w, .inr (3, [.ref sk, .ref kd, .ref mo, .ref lv, .ref tc, .ref ts, .ref tl, .int 0, .int 0, .long 0, .int 0])), (sk, .inl (cM, 4, .inr (.inr (.inr (.inr (rr4 s0 s1 s2 s3)))))), (s0, .inl (cI, 14, .inl (fun _ => 0))), (s1, .inl (cI, 14, .inl (fun _ => 0))), (s2, .inl (cI, 14, .inl (fun _ => 0))), (s3, .inl (cI, 14, .inl (fun _ => 0))), (kd, .inl (cI, 36, .inl (fun _ => 0))), (mo, .inl (cI, 36, .inl (fun _ => 0))), (lv, .inl (cI, 36, .inl (fun _ => 0))), (tc, .inl (cI, 4, .inl (fun _ => 0))), (ts, .inl (cI, 4, .inl (fun _ => 0))), (tl, .inl (cI, 4, .inl (fun _ => 0)))] [(0, .ref w)] 60 []
  refine x_aload_n C dX4_init_60 0 rfl ?_
  refine x_lconst C dX4_init_61 (v := 1) rfl ?_
  refine x_put C inlX4 rfl tyX4 tyX4_ok nmX4 9 (by decide) gw_3_6 rfl dX4_init_62 0 rfl rfl rfl (Nat.le_of_ble_eq_true rfl) ?_
  show X 11 180 [(w, .inr (3, [.ref sk, .ref kd, .ref mo, .ref lv, .ref tc, .ref ts, .ref tl, .int 0, .int 0, .long 1, .int 0])), (sk, .inl (cM, 4, .inr (.inr (.inr (.inr (rr4 s0 s1 s2 s3)))))), (s0, .inl (cI, 14, .inl (fun _ => 0))), (s1, .inl (cI, 14, .inl (fun _ => 0))), (s2, .inl (cI, 14, .inl (fun _ => 0))), (s3, .inl (cI, 14, .inl (fun _ => 0))), (kd, .inl (cI, 36, .inl (fun _ => 0))), (mo, .inl (cI, 36, .inl (fun _ => 0))), (lv, .inl (cI, 36, .inl (fun _ => 0))), (tc, .inl (cI, 4, .inl (fun _ => 0))), (ts, .inl (cI, 4, .inl (fun _ => 0))), (tl, .inl (cI, 4, .inl (fun _ => 0)))] [(0, .ref w)] 65 []
  refine E dX4_init_65 ?_
  exact ⟨sk, s0, s1, s2, s3, kd, mo, lv, tc, ts, tl, rfl, rfl⟩
set_option maxHeartbeats 4000000 in
set_option maxRecDepth 100000 in
theorem c_X0_init (l : Launch) (dG : va_G) (cI cM cW cS : ClassId) (adK adV : Nat → Nat) (fm : Option Nat) (o : Nat) : rM l yX0_init cX0_init 1 none ({ frames := 1, cells := 11, slots := 212, locals := 22 } : Room) dG (tY cI cM cW cS) (rZc adK adV fm) [.ref o] [(o, .inr (0, [.null, .null, .null, .null, .null, .null, .null, .int 0, .int 0, .int 0]))] (fun ov oz => ∃ (ly l0 l1 bl b0 b1 cv hg fl of_ nm : Nat), ov = none ∧ oz = [(o, .inr (0, [.ref ly, .ref bl, .ref cv, .ref hg, .ref fl, .ref of_, .ref nm, .int 0, .int 0, .int 0])), (ly, .inl (cM, 2, .inr (.inr (.inr (.inr (rr2 l0 l1)))))), (l0, .inl (cI, 36, .inl (fun _ => 0))), (l1, .inl (cI, 36, .inl (fun _ => 0))), (bl, .inl (cM, 2, .inr (.inr (.inr (.inr (rr2 b0 b1)))))), (b0, .inl (cI, 36, .inl (fun _ => 0))), (b1, .inl (cI, 36, .inl (fun _ => 0))), (cv, .inl (cI, 36, .inl (fun _ => 0))), (hg, .inl (cI, 4, .inl (fun _ => 0))), (fl, .inl (cI, 14, .inl (fun _ => 0))), (of_, .inl (cI, 4, .inl (fun _ => 0))), (nm, .inl (cI, 6, .inl (fun _ => 0)))]) := by
  refine rM_ofV true (by intro _; rfl) rfl (Nat.le_of_ble_eq_true rfl) rfl (fun X C E => ?_)
  show X 0 0 [(o, .inr (0, [.null, .null, .null, .null, .null, .null, .null, .int 0, .int 0, .int 0]))] [(0, .ref o)] 0 []
  refine x_aload_n C dX0_init_0 0 rfl ?_
  refine x_objInit C gw_3_9 gw_1_11 gw_1_12 dX0_init_1 (Nat.le_of_ble_eq_true rfl) (Nat.le_of_ble_eq_true rfl) ?_
  refine x_aload_n C dX0_init_4 0 rfl ?_
  refine x_iconst C dX0_init_5 (v := 2) rfl ?_
  refine x_bipush C dX0_init_6 (v := 36) rfl ?_
  refine x_mna2 C 1 0 rfl rfl gw_3_10 gw_2_11 (fun _ _ _ h9 => h9.2.2.2) (K := 36) rfl (by decide) ⟨Nat.le_of_ble_eq_true rfl, Nat.le_of_ble_eq_true rfl⟩ dX0_init_8 (fun ly l0 l1 => ?_)
  show X 3 74 [(o, .inr (0, [.null, .null, .null, .null, .null, .null, .null, .int 0, .int 0, .int 0])), (ly, .inl (cM, 2, .inr (.inr (.inr (.inr (rr2 l0 l1)))))), (l0, .inl (cI, 36, .inl (fun _ => 0))), (l1, .inl (cI, 36, .inl (fun _ => 0)))] [(0, .ref o)] 12 [.ref ly, .ref o]
  refine x_putF C inlX0 rfl tyX0 tyX0_ok nmX0 0 (by decide) gw_3_11 rfl rfl dX0_init_12 0 rfl rfl rfl (Nat.le_of_ble_eq_true rfl) ?_
  show X 3 74 [(o, .inr (0, [.ref ly, .null, .null, .null, .null, .null, .null, .int 0, .int 0, .int 0])), (ly, .inl (cM, 2, .inr (.inr (.inr (.inr (rr2 l0 l1)))))), (l0, .inl (cI, 36, .inl (fun _ => 0))), (l1, .inl (cI, 36, .inl (fun _ => 0)))] [(0, .ref o)] 15 []
  refine x_aload_n C dX0_init_15 0 rfl ?_
  refine x_iconst C dX0_init_16 (v := 2) rfl ?_
  refine x_bipush C dX0_init_17 (v := 36) rfl ?_
  refine x_mna2 C 1 0 rfl rfl gw_3_10 gw_2_11 (fun _ _ _ h9 => h9.2.2.2) (K := 36) rfl (by decide) ⟨Nat.le_of_ble_eq_true rfl, Nat.le_of_ble_eq_true rfl⟩ dX0_init_19 (fun bl b0 b1 => ?_)
  show X 6 148 [(o, .inr (0, [.ref ly, .null, .null, .null, .null, .null, .null, .int 0, .int 0, .int 0])), (ly, .inl (cM, 2, .inr (.inr (.inr (.inr (rr2 l0 l1)))))), (l0, .inl (cI, 36, .inl (fun _ => 0))), (l1, .inl (cI, 36, .inl (fun _ => 0))), (bl, .inl (cM, 2, .inr (.inr (.inr (.inr (rr2 b0 b1)))))), (b0, .inl (cI, 36, .inl (fun _ => 0))), (b1, .inl (cI, 36, .inl (fun _ => 0)))] [(0, .ref o)] 23 [.ref bl, .ref o]
  refine x_putF C inlX0 rfl tyX0 tyX0_ok nmX0 1 (by decide) gw_3_12 rfl rfl dX0_init_23 0 rfl rfl rfl (Nat.le_of_ble_eq_true rfl) ?_
  show X 6 148 [(o, .inr (0, [.ref ly, .ref bl, .null, .null, .null, .null, .null, .int 0, .int 0, .int 0])), (ly, .inl (cM, 2, .inr (.inr (.inr (.inr (rr2 l0 l1)))))), (l0, .inl (cI, 36, .inl (fun _ => 0))), (l1, .inl (cI, 36, .inl (fun _ => 0))), (bl, .inl (cM, 2, .inr (.inr (.inr (.inr (rr2 b0 b1)))))), (b0, .inl (cI, 36, .inl (fun _ => 0))), (b1, .inl (cI, 36, .inl (fun _ => 0)))] [(0, .ref o)] 26 []
  refine x_aload_n C dX0_init_26 0 rfl ?_
  refine x_bipush C dX0_init_27 (v := 36) rfl ?_
  refine x_newa C 0 rfl gw_2_11 (N := 36) rfl (by decide) ⟨Nat.le_of_ble_eq_true rfl, Nat.le_of_ble_eq_true rfl⟩ dX0_init_29 (fun cv => ?_)
  show X 7 184 [(o, .inr (0, [.ref ly, .ref bl, .null, .null, .null, .null, .null, .int 0, .int 0, .int 0])), (ly, .inl (cM, 2, .inr (.inr (.inr (.inr (rr2 l0 l1)))))), (l0, .inl (cI, 36, .inl (fun _ => 0))), (l1, .inl (cI, 36, .inl (fun _ => 0))), (bl, .inl (cM, 2, .inr (.inr (.inr (.inr (rr2 b0 b1)))))), (b0, .inl (cI, 36, .inl (fun _ => 0))), (b1, .inl (cI, 36, .inl (fun _ => 0))), (cv, .inl (cI, 36, .inl (fun _ => 0)))] [(0, .ref o)] 31 [.ref cv, .ref o]
  refine x_putF C inlX0 rfl tyX0 tyX0_ok nmX0 2 (by decide) gw_3_13 rfl rfl dX0_init_31 0 rfl rfl rfl (Nat.le_of_ble_eq_true rfl) ?_
  show X 7 184 [(o, .inr (0, [.ref ly, .ref bl, .ref cv, .null, .null, .null, .null, .int 0, .int 0, .int 0])), (ly, .inl (cM, 2, .inr (.inr (.inr (.inr (rr2 l0 l1)))))), (l0, .inl (cI, 36, .inl (fun _ => 0))), (l1, .inl (cI, 36, .inl (fun _ => 0))), (bl, .inl (cM, 2, .inr (.inr (.inr (.inr (rr2 b0 b1)))))), (b0, .inl (cI, 36, .inl (fun _ => 0))), (b1, .inl (cI, 36, .inl (fun _ => 0))), (cv, .inl (cI, 36, .inl (fun _ => 0)))] [(0, .ref o)] 34 []
  refine x_aload_n C dX0_init_34 0 rfl ?_
  refine x_iconst C dX0_init_35 (v := 4) rfl ?_
  refine x_newa C 0 rfl gw_2_11 (N := 4) rfl (by decide) ⟨Nat.le_of_ble_eq_true rfl, Nat.le_of_ble_eq_true rfl⟩ dX0_init_36 (fun hg => ?_)
  show X 8 188 [(o, .inr (0, [.ref ly, .ref bl, .ref cv, .null, .null, .null, .null, .int 0, .int 0, .int 0])), (ly, .inl (cM, 2, .inr (.inr (.inr (.inr (rr2 l0 l1)))))), (l0, .inl (cI, 36, .inl (fun _ => 0))), (l1, .inl (cI, 36, .inl (fun _ => 0))), (bl, .inl (cM, 2, .inr (.inr (.inr (.inr (rr2 b0 b1)))))), (b0, .inl (cI, 36, .inl (fun _ => 0))), (b1, .inl (cI, 36, .inl (fun _ => 0))), (cv, .inl (cI, 36, .inl (fun _ => 0))), (hg, .inl (cI, 4, .inl (fun _ => 0)))] [(0, .ref o)] 38 [.ref hg, .ref o]
  refine x_putF C inlX0 rfl tyX0 tyX0_ok nmX0 3 (by decide) gw_3_14 rfl rfl dX0_init_38 0 rfl rfl rfl (Nat.le_of_ble_eq_true rfl) ?_
  show X 8 188 [(o, .inr (0, [.ref ly, .ref bl, .ref cv, .ref hg, .null, .null, .null, .int 0, .int 0, .int 0])), (ly, .inl (cM, 2, .inr (.inr (.inr (.inr (rr2 l0 l1)))))), (l0, .inl (cI, 36, .inl (fun _ => 0))), (l1, .inl (cI, 36, .inl (fun _ => 0))), (bl, .inl (cM, 2, .inr (.inr (.inr (.inr (rr2 b0 b1)))))), (b0, .inl (cI, 36, .inl (fun _ => 0))), (b1, .inl (cI, 36, .inl (fun _ => 0))), (cv, .inl (cI, 36, .inl (fun _ => 0))), (hg, .inl (cI, 4, .inl (fun _ => 0)))] [(0, .ref o)] 41 []
  refine x_aload_n C dX0_init_41 0 rfl ?_
  refine x_bipush C dX0_init_42 (v := 14) rfl ?_
  refine x_newa C 0 rfl gw_2_11 (N := 14) rfl (by decide) ⟨Nat.le_of_ble_eq_true rfl, Nat.le_of_ble_eq_true rfl⟩ dX0_init_44 (fun fl => ?_)
  show X 9 202 [(o, .inr (0, [.ref ly, .ref bl, .ref cv, .ref hg, .null, .null, .null, .int 0, .int 0, .int 0])), (ly, .inl (cM, 2, .inr (.inr (.inr (.inr (rr2 l0 l1)))))), (l0, .inl (cI, 36, .inl (fun _ => 0))), (l1, .inl (cI, 36, .inl (fun _ => 0))), (bl, .inl (cM, 2, .inr (.inr (.inr (.inr (rr2 b0 b1)))))), (b0, .inl (cI, 36, .inl (fun _ => 0))), (b1, .inl (cI, 36, .inl (fun _ => 0))), (cv, .inl (cI, 36, .inl (fun _ => 0))), (hg, .inl (cI, 4, .inl (fun _ => 0))), (fl, .inl (cI, 14, .inl (fun _ => 0)))] [(0, .ref o)] 46 [.ref fl, .ref o]
  refine x_putF C inlX0 rfl tyX0 tyX0_ok nmX0 4 (by decide) gw_3_15 rfl rfl dX0_init_46 0 rfl rfl rfl (Nat.le_of_ble_eq_true rfl) ?_
  show X 9 202 [(o, .inr (0, [.ref ly, .ref bl, .ref cv, .ref hg, .ref fl, .null, .null, .int 0, .int 0, .int 0])), (ly, .inl (cM, 2, .inr (.inr (.inr (.inr (rr2 l0 l1)))))), (l0, .inl (cI, 36, .inl (fun _ => 0))), (l1, .inl (cI, 36, .inl (fun _ => 0))), (bl, .inl (cM, 2, .inr (.inr (.inr (.inr (rr2 b0 b1)))))), (b0, .inl (cI, 36, .inl (fun _ => 0))), (b1, .inl (cI, 36, .inl (fun _ => 0))), (cv, .inl (cI, 36, .inl (fun _ => 0))), (hg, .inl (cI, 4, .inl (fun _ => 0))), (fl, .inl (cI, 14, .inl (fun _ => 0)))] [(0, .ref o)] 49 []
  refine x_aload_n C dX0_init_49 0 rfl ?_
  refine x_iconst C dX0_init_50 (v := 4) rfl ?_
  refine x_newa C 0 rfl gw_2_11 (N := 4) rfl (by decide) ⟨Nat.le_of_ble_eq_true rfl, Nat.le_of_ble_eq_true rfl⟩ dX0_init_51 (fun of_ => ?_)
  show X 10 206 [(o, .inr (0, [.ref ly, .ref bl, .ref cv, .ref hg, .ref fl, .null, .null, .int 0, .int 0, .int 0])), (ly, .inl (cM, 2, .inr (.inr (.inr (.inr (rr2 l0 l1)))))), (l0, .inl (cI, 36, .inl (fun _ => 0))), (l1, .inl (cI, 36, .inl (fun _ => 0))), (bl, .inl (cM, 2, .inr (.inr (.inr (.inr (rr2 b0 b1)))))), (b0, .inl (cI, 36, .inl (fun _ => 0))), (b1, .inl (cI, 36, .inl (fun _ => 0))), (cv, .inl (cI, 36, .inl (fun _ => 0))), (hg, .inl (cI, 4, .inl (fun _ => 0))), (fl, .inl (cI, 14, .inl (fun _ => 0))), (of_, .inl (cI, 4, .inl (fun _ => 0)))] [(0, .ref o)] 53 [.ref of_, .ref o]
  refine x_putF C inlX0 rfl tyX0 tyX0_ok nmX0 5 (by decide) gw_3_16 rfl rfl dX0_init_53 0 rfl rfl rfl (Nat.le_of_ble_eq_true rfl) ?_
  show X 10 206 [(o, .inr (0, [.ref ly, .ref bl, .ref cv, .ref hg, .ref fl, .ref of_, .null, .int 0, .int 0, .int 0])), (ly, .inl (cM, 2, .inr (.inr (.inr (.inr (rr2 l0 l1)))))), (l0, .inl (cI, 36, .inl (fun _ => 0))), (l1, .inl (cI, 36, .inl (fun _ => 0))), (bl, .inl (cM, 2, .inr (.inr (.inr (.inr (rr2 b0 b1)))))), (b0, .inl (cI, 36, .inl (fun _ => 0))), (b1, .inl (cI, 36, .inl (fun _ => 0))), (cv, .inl (cI, 36, .inl (fun _ => 0))), (hg, .inl (cI, 4, .inl (fun _ => 0))), (fl, .inl (cI, 14, .inl (fun _ => 0))), (of_, .inl (cI, 4, .inl (fun _ => 0)))] [(0, .ref o)] 56 []
  refine x_aload_n C dX0_init_56 0 rfl ?_
  refine x_bipush C dX0_init_57 (v := 6) rfl ?_
  refine x_newa C 0 rfl gw_2_11 (N := 6) rfl (by decide) ⟨Nat.le_of_ble_eq_true rfl, Nat.le_of_ble_eq_true rfl⟩ dX0_init_59 (fun nm => ?_)
  show X 11 212 [(o, .inr (0, [.ref ly, .ref bl, .ref cv, .ref hg, .ref fl, .ref of_, .null, .int 0, .int 0, .int 0])), (ly, .inl (cM, 2, .inr (.inr (.inr (.inr (rr2 l0 l1)))))), (l0, .inl (cI, 36, .inl (fun _ => 0))), (l1, .inl (cI, 36, .inl (fun _ => 0))), (bl, .inl (cM, 2, .inr (.inr (.inr (.inr (rr2 b0 b1)))))), (b0, .inl (cI, 36, .inl (fun _ => 0))), (b1, .inl (cI, 36, .inl (fun _ => 0))), (cv, .inl (cI, 36, .inl (fun _ => 0))), (hg, .inl (cI, 4, .inl (fun _ => 0))), (fl, .inl (cI, 14, .inl (fun _ => 0))), (of_, .inl (cI, 4, .inl (fun _ => 0))), (nm, .inl (cI, 6, .inl (fun _ => 0)))] [(0, .ref o)] 61 [.ref nm, .ref o]
  refine x_putF C inlX0 rfl tyX0 tyX0_ok nmX0 6 (by decide) gw_3_17 rfl rfl dX0_init_61 0 rfl rfl rfl (Nat.le_of_ble_eq_true rfl) ?_
  show X 11 212 [(o, .inr (0, [.ref ly, .ref bl, .ref cv, .ref hg, .ref fl, .ref of_, .ref nm, .int 0, .int 0, .int 0])), (ly, .inl (cM, 2, .inr (.inr (.inr (.inr (rr2 l0 l1)))))), (l0, .inl (cI, 36, .inl (fun _ => 0))), (l1, .inl (cI, 36, .inl (fun _ => 0))), (bl, .inl (cM, 2, .inr (.inr (.inr (.inr (rr2 b0 b1)))))), (b0, .inl (cI, 36, .inl (fun _ => 0))), (b1, .inl (cI, 36, .inl (fun _ => 0))), (cv, .inl (cI, 36, .inl (fun _ => 0))), (hg, .inl (cI, 4, .inl (fun _ => 0))), (fl, .inl (cI, 14, .inl (fun _ => 0))), (of_, .inl (cI, 4, .inl (fun _ => 0))), (nm, .inl (cI, 6, .inl (fun _ => 0)))] [(0, .ref o)] 64 []
  refine E dX0_init_64 ?_
  exact ⟨ly, l0, l1, bl, b0, b1, cv, hg, fl, of_, nm, rfl, rfl⟩
