theorem nw_X7_277 : (RX7, 277, "LeavesBeforeWind$Sheet", "sort", "I", "LeavesBeforeWind") ∈ NWF := List.mem_of_getElem? (i := 20) rfl
set_option maxHeartbeats 4000000 in
set_option maxRecDepth 100000 in
theorem c_X7_copy (l : Launch) (dG : va_G) (cI cM cW cS : ClassId) (x pw uw o hh rd bk pl asd fd : Nat) (wr : Nat) (hi9 : Int32) (tw : Nat) (plf : Nat → Option Nat) (sh ra : Nat) (so9 : Int32) (nz : Nat) (g : Nat → Int32) (sk2 rb : Nat) (so8 : Int32) (nz2 : Nat) (g2 : Nat → Int32) (s i t j n : Int32) (hsh : ∀ q, q < 4 → s = nI q → plf q = some sh) (hsk : ∀ q, q < 4 → t = nI q → plf q = some sk2) (hnz : nz ≤ 40) (hnz2 : nz2 ≤ 40) : rM l yX7_copy cX7_copy 8 (some .int) ({ frames := 2, cells := 0, slots := 0, locals := 60 } : Room) dG (tY cI cM cW cS) rZ0 [.ref x, .int s, .int i, .int t, .int j, .int n] [(x, .inr (6, [.ref tw, .ref pw, .ref uw, .ref o, .ref hh, .ref rd, .ref bk, .ref pl, .ref asd, .ref fd, .int (nI wr), .int hi9])), (pl, .inl (cS, 4, .inr (.inr (.inr (.inr plf))))), (sh, .inr (5, [.ref ra, .int so9, .int (nI nz)])), (ra, .inl (cI, 40, .inl g)), (sk2, .inr (5, [.ref rb, .int so8, .int (nI nz2)])), (rb, .inl (cI, 40, .inl g2))] (fun ov oz => ∃ (r : Int32) (g2' : Nat → Int32), ov = some (.int r) ∧ oz = [(x, .inr (6, [.ref tw, .ref pw, .ref uw, .ref o, .ref hh, .ref rd, .ref bk, .ref pl, .ref asd, .ref fd, .int (nI wr), .int hi9])), (pl, .inl (cS, 4, .inr (.inr (.inr (.inr plf))))), (sh, .inr (5, [.ref ra, .int so9, .int (nI nz)])), (ra, .inl (cI, 40, .inl g)), (sk2, .inr (5, [.ref rb, .int so8, .int (nI nz2)])), (rb, .inl (cI, 40, .inl g2'))] ∧ (r, g2') = (o_copy so9 nz so8 nz2 s i t j n, o_copy_g g g2 so9 nz so8 nz2 s i t j n)) := by
  refine rM_ofI rfl (Nat.le_of_ble_eq_true rfl) rfl (fun X C E => ?_)
  show X 0 0 [(x, .inr (6, [.ref tw, .ref pw, .ref uw, .ref o, .ref hh, .ref rd, .ref bk, .ref pl, .ref asd, .ref fd, .int (nI wr), .int hi9])), (pl, .inl (cS, 4, .inr (.inr (.inr (.inr plf))))), (sh, .inr (5, [.ref ra, .int so9, .int (nI nz)])), (ra, .inl (cI, 40, .inl g)), (sk2, .inr (5, [.ref rb, .int so8, .int (nI nz2)])), (rb, .inl (cI, 40, .inl g2))] [(0, .ref x), (1, .int s), (2, .int i), (3, .int t), (4, .int j), (5, .int n)] 0 []
  refine x_iload_n C dX7_copy_0 1 rfl ?_
  refine x_callS C (As := [.int s]) (st := []) (wc := []) (wr := [(x, .inr (6, [.ref tw, .ref pw, .ref uw, .ref o, .ref hh, .ref rd, .ref bk, .ref pl, .ref asd, .ref fd, .int (nI wr), .int hi9])), (pl, .inl (cS, 4, .inr (.inr (.inr (.inr plf))))), (sh, .inr (5, [.ref ra, .int so9, .int (nI nz)])), (ra, .inl (cI, 40, .inl g)), (sk2, .inr (5, [.ref rb, .int so8, .int (nI nz2)])), (rb, .inl (cI, 40, .inl g2))]) (c_X7_isSheet l dG cI cM cW cS s ) rZ0_ok (fun _ _ _ _ => trivial) kS_X7_259 hy_X7_isSheet ⟨Nat.le_of_ble_eq_true rfl, Nat.le_of_ble_eq_true rfl⟩ ⟨Nat.le_of_ble_eq_true rfl, Nat.le_of_ble_eq_true rfl⟩ dX7_copy_1 [] [0, 1, 2, 3, 4, 5] rfl rfl rfl rfl (by decide) rfl (Nat.le_of_ble_eq_true rfl) ?_
  intro v1 w2 h3
  rcases h3 with h3 | h3
  ·
    obtain ⟨rfl, rfl, hf4⟩ := h3
    show X 0 0 [(x, .inr (6, [.ref tw, .ref pw, .ref uw, .ref o, .ref hh, .ref rd, .ref bk, .ref pl, .ref asd, .ref fd, .int (nI wr), .int hi9])), (pl, .inl (cS, 4, .inr (.inr (.inr (.inr plf))))), (sh, .inr (5, [.ref ra, .int so9, .int (nI nz)])), (ra, .inl (cI, 40, .inl g)), (sk2, .inr (5, [.ref rb, .int so8, .int (nI nz2)])), (rb, .inl (cI, 40, .inl g2))] [(0, .ref x), (1, .int s), (2, .int i), (3, .int t), (4, .int j), (5, .int n)] 4 [.int 1]
    have hr5 := hf4
    obtain ⟨j1, hj1, rfl⟩ := q_w (n := 3) rfl (by decide) hf4
    have hnj1 : o_n (nI j1) = j1 := o_n_nI (by omega)
    refine x_if_eq C dX7_copy_4 (tgt := 14) rfl (fun q9 => absurd q9 (by decide)) (fun _ => ?_)
    refine x_iload_n C dX7_copy_7 3 rfl ?_
    refine x_callS C (As := [.int t]) (st := []) (wc := []) (wr := [(x, .inr (6, [.ref tw, .ref pw, .ref uw, .ref o, .ref hh, .ref rd, .ref bk, .ref pl, .ref asd, .ref fd, .int (nI wr), .int hi9])), (pl, .inl (cS, 4, .inr (.inr (.inr (.inr plf))))), (sh, .inr (5, [.ref ra, .int so9, .int (nI nz)])), (ra, .inl (cI, 40, .inl g)), (sk2, .inr (5, [.ref rb, .int so8, .int (nI nz2)])), (rb, .inl (cI, 40, .inl g2))]) (c_X7_isSheet l dG cI cM cW cS t ) rZ0_ok (fun _ _ _ _ => trivial) kS_X7_259 hy_X7_isSheet ⟨Nat.le_of_ble_eq_true rfl, Nat.le_of_ble_eq_true rfl⟩ ⟨Nat.le_of_ble_eq_true rfl, Nat.le_of_ble_eq_true rfl⟩ dX7_copy_8 [] [0, 1, 2, 3, 4, 5] rfl rfl rfl rfl (by decide) rfl (Nat.le_of_ble_eq_true rfl) ?_
    intro v6 w7 h8
    rcases h8 with h8 | h8
    ·
      obtain ⟨rfl, rfl, hf9⟩ := h8
      show X 0 0 [(x, .inr (6, [.ref tw, .ref pw, .ref uw, .ref o, .ref hh, .ref rd, .ref bk, .ref pl, .ref asd, .ref fd, .int (nI wr), .int hi9])), (pl, .inl (cS, 4, .inr (.inr (.inr (.inr plf))))), (sh, .inr (5, [.ref ra, .int so9, .int (nI nz)])), (ra, .inl (cI, 40, .inl g)), (sk2, .inr (5, [.ref rb, .int so8, .int (nI nz2)])), (rb, .inl (cI, 40, .inl g2))] [(0, .ref x), (1, .int (nI j1)), (2, .int i), (3, .int t), (4, .int j), (5, .int n)] 11 [.int 1]
      have hr10 := hf9
      obtain ⟨j2, hj2, rfl⟩ := q_w (n := 3) rfl (by decide) hf9
      have hnj2 : o_n (nI j2) = j2 := o_n_nI (by omega)
      refine x_if_ne C dX7_copy_11 (tgt := 17) rfl (fun _ => ?_) (fun q9 => by first | exact absurd q9 (by decide) | exact absurd (by decide) q9)
      refine x_aload_n C dX7_copy_17 0 rfl ?_
      refine x_get C inlX7 rfl 7 (by decide) gw_2_10 dX7_copy_18 0 rfl rfl ?_
      refine x_iload_n C dX7_copy_21 1 rfl ?_
      refine x_aaload C 3 rfl dX7_copy_22 j1 (q_cl rfl (by omega)) (q_ix rfl (by omega) (by omega)) 1 rfl (hsh j1 (by omega) rfl) ?_
      refine x_astore C dX7_copy_23 (by decide) (lv' := [(6, .ref sh), (0, .ref x), (1, .int (nI j1)), (2, .int i), (3, .int (nI j2)), (4, .int j), (5, .int n)]) rfl ?_
      refine x_aload_n C dX7_copy_25 1 rfl ?_
      refine x_get C inlX7 rfl 7 (by decide) gw_2_10 dX7_copy_26 0 rfl rfl ?_
      refine x_iload_n C dX7_copy_29 4 rfl ?_
      refine x_aaload C 3 rfl dX7_copy_30 j2 (q_cl rfl (by omega)) (q_ix rfl (by omega) (by omega)) 1 rfl (hsk j2 (by omega) rfl) ?_
      show X _ _ _ _ 31 _
      refine x_astore C dX7_copy_31 (by decide) (lv' := [(7, .ref sk2), (6, .ref sh), (0, .ref x), (1, .int (nI j1)), (2, .int i), (3, .int (nI j2)), (4, .int j), (5, .int n)]) rfl ?_
      refine x_aload C dX7_copy_33 1 rfl ?_
      refine x_callV C (As := []) (st := []) (wc := [(sh, .inr (5, [.ref ra, .int so9, .int (nI nz)]))]) (wr := [(x, .inr (6, [.ref tw, .ref pw, .ref uw, .ref o, .ref hh, .ref rd, .ref bk, .ref pl, .ref asd, .ref fd, .int (nI wr), .int hi9])), (pl, .inl (cS, 4, .inr (.inr (.inr (.inr plf))))), (ra, .inl (cI, 40, .inl g)), (sk2, .inr (5, [.ref rb, .int so8, .int (nI nz2)])), (rb, .inl (cI, 40, .inl g2))]) (c_X6_isMissing l dG cI cM cW cS sh ra so9 (nI nz) g ) rZ0_ok (fun _ _ _ _ => trivial) kV_X7_269 ⟨rfl, hy_X6_isMissing⟩ ⟨Nat.le_of_ble_eq_true rfl, Nat.le_of_ble_eq_true rfl⟩ ⟨Nat.le_of_ble_eq_true rfl, Nat.le_of_ble_eq_true rfl⟩ dX7_copy_35 2 rfl rfl [2] [0, 1, 3, 4, 5] rfl rfl rfl rfl (by decide) rfl (Nat.le_of_ble_eq_true rfl) ?_
      intro v11 w12 h13
      rcases h13 with h13 | h13
      ·
        obtain ⟨rfl, rfl, hf14⟩ := h13
        show X 0 0 [(x, .inr (6, [.ref tw, .ref pw, .ref uw, .ref o, .ref hh, .ref rd, .ref bk, .ref pl, .ref asd, .ref fd, .int (nI wr), .int hi9])), (pl, .inl (cS, 4, .inr (.inr (.inr (.inr plf))))), (ra, .inl (cI, 40, .inl g)), (sk2, .inr (5, [.ref rb, .int so8, .int (nI nz2)])), (rb, .inl (cI, 40, .inl g2)), (sh, .inr (5, [.ref ra, .int so9, .int (nI nz)]))] [(7, .ref sk2), (6, .ref sh), (0, .ref x), (1, .int (nI j1)), (2, .int i), (3, .int (nI j2)), (4, .int j), (5, .int n)] 38 [.int 1]
        refine x_if_ne C dX7_copy_38 (tgt := 49) rfl (fun _ => ?_) (fun q9 => by first | exact absurd q9 (by decide) | exact absurd (by decide) q9)
        refine x_bipush C dX7_copy_49 (v := (-11)) rfl ?_
        refine x_sub C [0, 1, 5, 2, 3, 4] (ws' := [(x, .inr (6, [.ref tw, .ref pw, .ref uw, .ref o, .ref hh, .ref rd, .ref bk, .ref pl, .ref asd, .ref fd, .int (nI wr), .int hi9])), (pl, .inl (cS, 4, .inr (.inr (.inr (.inr plf))))), (sh, .inr (5, [.ref ra, .int so9, .int (nI nz)])), (ra, .inl (cI, 40, .inl g)), (sk2, .inr (5, [.ref rb, .int so8, .int (nI nz2)])), (rb, .inl (cI, 40, .inl g2))]) rfl rfl ?_
        refine E dX7_copy_51 (rfl) ?_
        exact ⟨(-11), g2, rfl, rfl, by (unfold o_copy o_copy_g); (try simp only [hnj1, hnj2]); (repeat (first | rw [if_pos (by first | (rw [if_pos (by decide)]; assumption) | (rw [if_neg (by decide), if_pos (by decide)]; assumption) | (rw [if_neg (by decide), if_neg (by decide)]; assumption) | assumption | decide | omega | exact o_one_t (by assumption) | (rw [o_one_f (by assumption)]; decide) | exact ⟨by assumption, by assumption⟩ | exact fun h9 => absurd h9.1 (by assumption) | exact fun h9 => absurd h9.2 (by assumption))] | rw [if_neg (by first | (rw [if_pos (by decide)]; assumption) | (rw [if_neg (by decide), if_pos (by decide)]; assumption) | (rw [if_neg (by decide), if_neg (by decide)]; assumption) | assumption | decide | omega | exact o_one_t (by assumption) | (rw [o_one_f (by assumption)]; decide) | exact ⟨by assumption, by assumption⟩ | exact fun h9 => absurd h9.1 (by assumption) | exact fun h9 => absurd h9.2 (by assumption))])); all_goals (first | rfl)⟩
      ·
        obtain ⟨rfl, rfl, hf15⟩ := h13
        show X 0 0 [(x, .inr (6, [.ref tw, .ref pw, .ref uw, .ref o, .ref hh, .ref rd, .ref bk, .ref pl, .ref asd, .ref fd, .int (nI wr), .int hi9])), (pl, .inl (cS, 4, .inr (.inr (.inr (.inr plf))))), (ra, .inl (cI, 40, .inl g)), (sk2, .inr (5, [.ref rb, .int so8, .int (nI nz2)])), (rb, .inl (cI, 40, .inl g2)), (sh, .inr (5, [.ref ra, .int so9, .int (nI nz)]))] [(7, .ref sk2), (6, .ref sh), (0, .ref x), (1, .int (nI j1)), (2, .int i), (3, .int (nI j2)), (4, .int j), (5, .int n)] 38 [.int 0]
        refine x_if_ne C dX7_copy_38 (tgt := 49) rfl (fun q9 => absurd q9 (by decide)) (fun _ => ?_)
        refine x_aload C dX7_copy_41 0 rfl ?_
        refine x_callV C (As := []) (st := []) (wc := [(sk2, .inr (5, [.ref rb, .int so8, .int (nI nz2)]))]) (wr := [(x, .inr (6, [.ref tw, .ref pw, .ref uw, .ref o, .ref hh, .ref rd, .ref bk, .ref pl, .ref asd, .ref fd, .int (nI wr), .int hi9])), (pl, .inl (cS, 4, .inr (.inr (.inr (.inr plf))))), (ra, .inl (cI, 40, .inl g)), (rb, .inl (cI, 40, .inl g2)), (sh, .inr (5, [.ref ra, .int so9, .int (nI nz)]))]) (c_X6_isMissing l dG cI cM cW cS sk2 rb so8 (nI nz2) g ) rZ0_ok (fun _ _ _ _ => trivial) kV_X7_269 ⟨rfl, hy_X6_isMissing⟩ ⟨Nat.le_of_ble_eq_true rfl, Nat.le_of_ble_eq_true rfl⟩ ⟨Nat.le_of_ble_eq_true rfl, Nat.le_of_ble_eq_true rfl⟩ dX7_copy_43 3 rfl rfl [3] [0, 1, 2, 4, 5] rfl rfl rfl rfl (by decide) rfl (Nat.le_of_ble_eq_true rfl) ?_
        intro v16 w17 h18
        rcases h18 with h18 | h18
        ·
          obtain ⟨rfl, rfl, hf19⟩ := h18
          show X 0 0 [(x, .inr (6, [.ref tw, .ref pw, .ref uw, .ref o, .ref hh, .ref rd, .ref bk, .ref pl, .ref asd, .ref fd, .int (nI wr), .int hi9])), (pl, .inl (cS, 4, .inr (.inr (.inr (.inr plf))))), (ra, .inl (cI, 40, .inl g)), (rb, .inl (cI, 40, .inl g2)), (sh, .inr (5, [.ref ra, .int so9, .int (nI nz)])), (sk2, .inr (5, [.ref rb, .int so8, .int (nI nz2)]))] [(7, .ref sk2), (6, .ref sh), (0, .ref x), (1, .int (nI j1)), (2, .int i), (3, .int (nI j2)), (4, .int j), (5, .int n)] 46 [.int 1]
          refine x_if_eq C dX7_copy_46 (tgt := 52) rfl (fun q9 => absurd q9 (by decide)) (fun _ => ?_)
          refine x_bipush C dX7_copy_49 (v := (-11)) rfl ?_
          refine x_sub C [0, 1, 4, 2, 5, 3] (ws' := [(x, .inr (6, [.ref tw, .ref pw, .ref uw, .ref o, .ref hh, .ref rd, .ref bk, .ref pl, .ref asd, .ref fd, .int (nI wr), .int hi9])), (pl, .inl (cS, 4, .inr (.inr (.inr (.inr plf))))), (sh, .inr (5, [.ref ra, .int so9, .int (nI nz)])), (ra, .inl (cI, 40, .inl g)), (sk2, .inr (5, [.ref rb, .int so8, .int (nI nz2)])), (rb, .inl (cI, 40, .inl g2))]) rfl rfl ?_
          refine E dX7_copy_51 (rfl) ?_
          exact ⟨(-11), g2, rfl, rfl, by (unfold o_copy o_copy_g); (try simp only [hnj1, hnj2]); (repeat (first | rw [if_pos (by first | (rw [if_pos (by decide)]; assumption) | (rw [if_neg (by decide), if_pos (by decide)]; assumption) | (rw [if_neg (by decide), if_neg (by decide)]; assumption) | assumption | decide | omega | exact o_one_t (by assumption) | (rw [o_one_f (by assumption)]; decide) | exact ⟨by assumption, by assumption⟩ | exact fun h9 => absurd h9.1 (by assumption) | exact fun h9 => absurd h9.2 (by assumption))] | rw [if_neg (by first | (rw [if_pos (by decide)]; assumption) | (rw [if_neg (by decide), if_pos (by decide)]; assumption) | (rw [if_neg (by decide), if_neg (by decide)]; assumption) | assumption | decide | omega | exact o_one_t (by assumption) | (rw [o_one_f (by assumption)]; decide) | exact ⟨by assumption, by assumption⟩ | exact fun h9 => absurd h9.1 (by assumption) | exact fun h9 => absurd h9.2 (by assumption))])); all_goals (first | rfl)⟩
        ·
          obtain ⟨rfl, rfl, hf20⟩ := h18
          show X 0 0 [(x, .inr (6, [.ref tw, .ref pw, .ref uw, .ref o, .ref hh, .ref rd, .ref bk, .ref pl, .ref asd, .ref fd, .int (nI wr), .int hi9])), (pl, .inl (cS, 4, .inr (.inr (.inr (.inr plf))))), (ra, .inl (cI, 40, .inl g)), (rb, .inl (cI, 40, .inl g2)), (sh, .inr (5, [.ref ra, .int so9, .int (nI nz)])), (sk2, .inr (5, [.ref rb, .int so8, .int (nI nz2)]))] [(7, .ref sk2), (6, .ref sh), (0, .ref x), (1, .int (nI j1)), (2, .int i), (3, .int (nI j2)), (4, .int j), (5, .int n)] 46 [.int 0]
          refine x_if_eq C dX7_copy_46 (tgt := 52) rfl (fun _ => ?_) (fun q9 => by first | exact absurd q9 (by decide) | exact absurd (by decide) q9)
          refine x_aload C dX7_copy_52 1 rfl ?_
          refine x_getN C inlX6 rfl 1 (by decide) nw_X7_277 dX7_copy_54 4 rfl rfl ?_
          refine x_aload C dX7_copy_57 0 rfl ?_
          refine x_getN C inlX6 rfl 1 (by decide) nw_X7_277 dX7_copy_59 5 rfl rfl ?_
          refine x_icmp_eq C dX7_copy_62 (tgt := 68) rfl (fun c21 => ?_) (fun c21 => ?_)
          ·
            refine x_iload C dX7_copy_68 7 rfl ?_
            refine x_if_lt C dX7_copy_70 (tgt := 106) rfl (fun c22 => ?_) (fun c22 => ?_)
            ·
              refine x_bipush C dX7_copy_106 (v := (-12)) rfl ?_
              refine x_sub C [0, 1, 4, 2, 5, 3] (ws' := [(x, .inr (6, [.ref tw, .ref pw, .ref uw, .ref o, .ref hh, .ref rd, .ref bk, .ref pl, .ref asd, .ref fd, .int (nI wr), .int hi9])), (pl, .inl (cS, 4, .inr (.inr (.inr (.inr plf))))), (sh, .inr (5, [.ref ra, .int so9, .int (nI nz)])), (ra, .inl (cI, 40, .inl g)), (sk2, .inr (5, [.ref rb, .int so8, .int (nI nz2)])), (rb, .inl (cI, 40, .inl g2))]) rfl rfl ?_
              refine E dX7_copy_108 (rfl) ?_
              exact ⟨(-12), g2, rfl, rfl, by (unfold o_copy o_copy_g); (try simp only [hnj1, hnj2]); (repeat (first | rw [if_pos (by first | (rw [if_pos (by decide)]; assumption) | (rw [if_neg (by decide), if_pos (by decide)]; assumption) | (rw [if_neg (by decide), if_neg (by decide)]; assumption) | assumption | decide | omega | exact o_one_t (by assumption) | (rw [o_one_f (by assumption)]; decide) | exact ⟨by assumption, by assumption⟩ | exact fun h9 => absurd h9.1 (by assumption) | exact fun h9 => absurd h9.2 (by assumption))] | rw [if_neg (by first | (rw [if_pos (by decide)]; assumption) | (rw [if_neg (by decide), if_pos (by decide)]; assumption) | (rw [if_neg (by decide), if_neg (by decide)]; assumption) | assumption | decide | omega | exact o_one_t (by assumption) | (rw [o_one_f (by assumption)]; decide) | exact ⟨by assumption, by assumption⟩ | exact fun h9 => absurd h9.1 (by assumption) | exact fun h9 => absurd h9.2 (by assumption))])); all_goals (first | rfl)⟩
            ·
              refine x_iload_n C dX7_copy_73 4 rfl ?_
              refine x_iconst C dX7_copy_74 (v := 0) rfl ?_
              refine x_aload C dX7_copy_75 1 rfl ?_
              refine x_getN C inlX6 rfl 2 (by decide) nw_X7_273 dX7_copy_77 4 rfl rfl ?_
              refine x_iload C dX7_copy_80 7 rfl ?_
              refine x_isub C dX7_copy_82 ?_
              refine x_callS C (As := [.int i, .int 0, .int ((nI nz) - n)]) (st := []) (wc := []) (wr := [(x, .inr (6, [.ref tw, .ref pw, .ref uw, .ref o, .ref hh, .ref rd, .ref bk, .ref pl, .ref asd, .ref fd, .int (nI wr), .int hi9])), (pl, .inl (cS, 4, .inr (.inr (.inr (.inr plf))))), (ra, .inl (cI, 40, .inl g)), (rb, .inl (cI, 40, .inl g2)), (sh, .inr (5, [.ref ra, .int so9, .int (nI nz)])), (sk2, .inr (5, [.ref rb, .int so8, .int (nI nz2)]))]) (c_X7_within l dG cI cM cW cS i 0 ((nI nz) - n) ) rZ0_ok (fun _ _ _ _ => trivial) kS_X7_92 hy_X7_within ⟨Nat.le_of_ble_eq_true rfl, Nat.le_of_ble_eq_true rfl⟩ ⟨Nat.le_of_ble_eq_true rfl, Nat.le_of_ble_eq_true rfl⟩ dX7_copy_83 [] [0, 1, 2, 3, 4, 5] rfl rfl rfl rfl (by decide) rfl (Nat.le_of_ble_eq_true rfl) ?_
              intro v23 w24 h25
              rcases h25 with h25 | h25
              ·
                obtain ⟨rfl, rfl, hf26⟩ := h25
                show X 0 0 [(x, .inr (6, [.ref tw, .ref pw, .ref uw, .ref o, .ref hh, .ref rd, .ref bk, .ref pl, .ref asd, .ref fd, .int (nI wr), .int hi9])), (pl, .inl (cS, 4, .inr (.inr (.inr (.inr plf))))), (ra, .inl (cI, 40, .inl g)), (rb, .inl (cI, 40, .inl g2)), (sh, .inr (5, [.ref ra, .int so9, .int (nI nz)])), (sk2, .inr (5, [.ref rb, .int so8, .int (nI nz2)]))] [(7, .ref sk2), (6, .ref sh), (0, .ref x), (1, .int (nI j1)), (2, .int i), (3, .int (nI j2)), (4, .int j), (5, .int n)] 86 [.int 1]
                have hr1 := hf26
                obtain ⟨a9, z9, rfl, rfl, haz⟩ := q_span hnz (by assumption) hf26
                have hna9 : o_n (nI a9) = a9 := o_n_nI (by omega)
                have hnz9 : o_n (nI z9) = z9 := o_n_nI (by omega)
                refine x_if_eq C dX7_copy_86 (tgt := 106) rfl (fun q9 => absurd q9 (by decide)) (fun _ => ?_)
                refine x_iload C dX7_copy_89 6 rfl ?_
                refine x_iconst C dX7_copy_91 (v := 0) rfl ?_
                refine x_aload C dX7_copy_92 0 rfl ?_
                refine x_getN C inlX6 rfl 2 (by decide) nw_X7_273 dX7_copy_94 5 rfl rfl ?_
                refine x_iload C dX7_copy_97 7 rfl ?_
                refine x_isub C dX7_copy_99 ?_
                refine x_callS C (As := [.int j, .int 0, .int ((nI nz2) - (nI z9))]) (st := []) (wc := []) (wr := [(x, .inr (6, [.ref tw, .ref pw, .ref uw, .ref o, .ref hh, .ref rd, .ref bk, .ref pl, .ref asd, .ref fd, .int (nI wr), .int hi9])), (pl, .inl (cS, 4, .inr (.inr (.inr (.inr plf))))), (ra, .inl (cI, 40, .inl g)), (rb, .inl (cI, 40, .inl g2)), (sh, .inr (5, [.ref ra, .int so9, .int (nI nz)])), (sk2, .inr (5, [.ref rb, .int so8, .int (nI nz2)]))]) (c_X7_within l dG cI cM cW cS j 0 ((nI nz2) - (nI z9)) ) rZ0_ok (fun _ _ _ _ => trivial) kS_X7_92 hy_X7_within ⟨Nat.le_of_ble_eq_true rfl, Nat.le_of_ble_eq_true rfl⟩ ⟨Nat.le_of_ble_eq_true rfl, Nat.le_of_ble_eq_true rfl⟩ dX7_copy_100 [] [0, 1, 2, 3, 4, 5] rfl rfl rfl rfl (by decide) rfl (Nat.le_of_ble_eq_true rfl) ?_
                intro v27 w28 h29
                rcases h29 with h29 | h29
                ·
                  obtain ⟨rfl, rfl, hf30⟩ := h29
                  show X 0 0 [(x, .inr (6, [.ref tw, .ref pw, .ref uw, .ref o, .ref hh, .ref rd, .ref bk, .ref pl, .ref asd, .ref fd, .int (nI wr), .int hi9])), (pl, .inl (cS, 4, .inr (.inr (.inr (.inr plf))))), (ra, .inl (cI, 40, .inl g)), (rb, .inl (cI, 40, .inl g2)), (sh, .inr (5, [.ref ra, .int so9, .int (nI nz)])), (sk2, .inr (5, [.ref rb, .int so8, .int (nI nz2)]))] [(7, .ref sk2), (6, .ref sh), (0, .ref x), (1, .int (nI j1)), (2, .int (nI a9)), (3, .int (nI j2)), (4, .int j), (5, .int (nI z9))] 103 [.int 1]
                  have hr2 := hf30
                  obtain ⟨b9, rfl, hbz⟩ := q_span2 hnz2 (show z9 ≤ 40 by omega) hf30
                  have hnb9 : o_n (nI b9) = b9 := o_n_nI (by omega)
                  refine x_if_ne C dX7_copy_103 (tgt := 109) rfl (fun _ => ?_) (fun q9 => by first | exact absurd q9 (by decide) | exact absurd (by decide) q9)
                  refine x_aload C dX7_copy_109 1 rfl ?_
                  refine x_getN C inlX6 rfl 0 (by decide) nw_X7_252 dX7_copy_111 4 rfl rfl ?_
                  refine x_iload_n C dX7_copy_114 4 rfl ?_
                  refine x_aload C dX7_copy_115 0 rfl ?_
                  refine x_getN C inlX6 rfl 0 (by decide) nw_X7_252 dX7_copy_117 5 rfl rfl ?_
                  refine x_iload C dX7_copy_120 6 rfl ?_
                  refine x_iload C dX7_copy_122 7 rfl ?_
                  refine x_copyi C (sp' := a9) (dp' := b9) (z' := z9) 0 rfl gw_42_22 gw_23_15 gw_23_16 gw_23_17 (Nat.le_of_ble_eq_true rfl) (Nat.le_of_ble_eq_true rfl) dX7_copy_124 2 3 rfl rfl (rfl) (rfl) (rfl) (by first | decide | omega) (by first | decide | omega) (by first | decide | omega) (by first | decide | omega) ?_
                  show X _ _ [(x, .inr (6, [.ref tw, .ref pw, .ref uw, .ref o, .ref hh, .ref rd, .ref bk, .ref pl, .ref asd, .ref fd, .int (nI wr), .int hi9])), (pl, .inl (cS, 4, .inr (.inr (.inr (.inr plf))))), (ra, .inl (cI, 40, .inl g)), (rb, .inl (cI, 40, .inl (va_cpy g g2 a9 b9 z9))), (sh, .inr (5, [.ref ra, .int so9, .int (nI nz)])), (sk2, .inr (5, [.ref rb, .int so8, .int (nI nz2)]))] _ _ _
                  refine x_iload C dX7_copy_127 7 rfl ?_
                  show X _ _ _ _ 129 _
                  refine x_sub C [0, 1, 4, 2, 5, 3] (ws' := [(x, .inr (6, [.ref tw, .ref pw, .ref uw, .ref o, .ref hh, .ref rd, .ref bk, .ref pl, .ref asd, .ref fd, .int (nI wr), .int hi9])), (pl, .inl (cS, 4, .inr (.inr (.inr (.inr plf))))), (sh, .inr (5, [.ref ra, .int so9, .int (nI nz)])), (ra, .inl (cI, 40, .inl g)), (sk2, .inr (5, [.ref rb, .int so8, .int (nI nz2)])), (rb, .inl (cI, 40, .inl (va_cpy g g2 a9 b9 z9)))]) rfl rfl ?_
                  refine E dX7_copy_129 (rfl) ?_
                  exact ⟨(nI z9), (va_cpy g g2 a9 b9 z9), rfl, rfl, by (unfold o_copy o_copy_g); (try simp only [hnj1, hnj2, hna9, hnz9, hnb9]); (repeat (first | rw [if_pos (by first | (rw [if_pos (by decide)]; assumption) | (rw [if_neg (by decide), if_pos (by decide)]; assumption) | (rw [if_neg (by decide), if_neg (by decide)]; assumption) | assumption | decide | omega | exact o_one_t (by assumption) | (rw [o_one_f (by assumption)]; decide) | exact ⟨by assumption, by assumption⟩ | exact fun h9 => absurd h9.1 (by assumption) | exact fun h9 => absurd h9.2 (by assumption))] | rw [if_neg (by first | (rw [if_pos (by decide)]; assumption) | (rw [if_neg (by decide), if_pos (by decide)]; assumption) | (rw [if_neg (by decide), if_neg (by decide)]; assumption) | assumption | decide | omega | exact o_one_t (by assumption) | (rw [o_one_f (by assumption)]; decide) | exact ⟨by assumption, by assumption⟩ | exact fun h9 => absurd h9.1 (by assumption) | exact fun h9 => absurd h9.2 (by assumption))])); all_goals (first | rfl)⟩
                ·
                  obtain ⟨rfl, rfl, hf31⟩ := h29
                  show X 0 0 [(x, .inr (6, [.ref tw, .ref pw, .ref uw, .ref o, .ref hh, .ref rd, .ref bk, .ref pl, .ref asd, .ref fd, .int (nI wr), .int hi9])), (pl, .inl (cS, 4, .inr (.inr (.inr (.inr plf))))), (ra, .inl (cI, 40, .inl g)), (rb, .inl (cI, 40, .inl g2)), (sh, .inr (5, [.ref ra, .int so9, .int (nI nz)])), (sk2, .inr (5, [.ref rb, .int so8, .int (nI nz2)]))] [(7, .ref sk2), (6, .ref sh), (0, .ref x), (1, .int (nI j1)), (2, .int (nI a9)), (3, .int (nI j2)), (4, .int j), (5, .int (nI z9))] 103 [.int 0]
                  refine x_if_ne C dX7_copy_103 (tgt := 109) rfl (fun q9 => absurd q9 (by decide)) (fun _ => ?_)
                  refine x_bipush C dX7_copy_106 (v := (-12)) rfl ?_
                  refine x_sub C [0, 1, 4, 2, 5, 3] (ws' := [(x, .inr (6, [.ref tw, .ref pw, .ref uw, .ref o, .ref hh, .ref rd, .ref bk, .ref pl, .ref asd, .ref fd, .int (nI wr), .int hi9])), (pl, .inl (cS, 4, .inr (.inr (.inr (.inr plf))))), (sh, .inr (5, [.ref ra, .int so9, .int (nI nz)])), (ra, .inl (cI, 40, .inl g)), (sk2, .inr (5, [.ref rb, .int so8, .int (nI nz2)])), (rb, .inl (cI, 40, .inl g2))]) rfl rfl ?_
                  refine E dX7_copy_108 (rfl) ?_
                  exact ⟨(-12), g2, rfl, rfl, by (unfold o_copy o_copy_g); (try simp only [hnj1, hnj2, hna9, hnz9]); (repeat (first | rw [if_pos (by first | (rw [if_pos (by decide)]; assumption) | (rw [if_neg (by decide), if_pos (by decide)]; assumption) | (rw [if_neg (by decide), if_neg (by decide)]; assumption) | assumption | decide | omega | exact o_one_t (by assumption) | (rw [o_one_f (by assumption)]; decide) | exact ⟨by assumption, by assumption⟩ | exact fun h9 => absurd h9.1 (by assumption) | exact fun h9 => absurd h9.2 (by assumption))] | rw [if_neg (by first | (rw [if_pos (by decide)]; assumption) | (rw [if_neg (by decide), if_pos (by decide)]; assumption) | (rw [if_neg (by decide), if_neg (by decide)]; assumption) | assumption | decide | omega | exact o_one_t (by assumption) | (rw [o_one_f (by assumption)]; decide) | exact ⟨by assumption, by assumption⟩ | exact fun h9 => absurd h9.1 (by assumption) | exact fun h9 => absurd h9.2 (by assumption))])); all_goals (first | rfl)⟩
              ·
                obtain ⟨rfl, rfl, hf32⟩ := h25
                show X 0 0 [(x, .inr (6, [.ref tw, .ref pw, .ref uw, .ref o, .ref hh, .ref rd, .ref bk, .ref pl, .ref asd, .ref fd, .int (nI wr), .int hi9])), (pl, .inl (cS, 4, .inr (.inr (.inr (.inr plf))))), (ra, .inl (cI, 40, .inl g)), (rb, .inl (cI, 40, .inl g2)), (sh, .inr (5, [.ref ra, .int so9, .int (nI nz)])), (sk2, .inr (5, [.ref rb, .int so8, .int (nI nz2)]))] [(7, .ref sk2), (6, .ref sh), (0, .ref x), (1, .int (nI j1)), (2, .int i), (3, .int (nI j2)), (4, .int j), (5, .int n)] 86 [.int 0]
                refine x_if_eq C dX7_copy_86 (tgt := 106) rfl (fun _ => ?_) (fun q9 => by first | exact absurd q9 (by decide) | exact absurd (by decide) q9)
                refine x_bipush C dX7_copy_106 (v := (-12)) rfl ?_
                refine x_sub C [0, 1, 4, 2, 5, 3] (ws' := [(x, .inr (6, [.ref tw, .ref pw, .ref uw, .ref o, .ref hh, .ref rd, .ref bk, .ref pl, .ref asd, .ref fd, .int (nI wr), .int hi9])), (pl, .inl (cS, 4, .inr (.inr (.inr (.inr plf))))), (sh, .inr (5, [.ref ra, .int so9, .int (nI nz)])), (ra, .inl (cI, 40, .inl g)), (sk2, .inr (5, [.ref rb, .int so8, .int (nI nz2)])), (rb, .inl (cI, 40, .inl g2))]) rfl rfl ?_
                refine E dX7_copy_108 (rfl) ?_
                exact ⟨(-12), g2, rfl, rfl, by (unfold o_copy o_copy_g); (try simp only [hnj1, hnj2]); (repeat (first | rw [if_pos (by first | (rw [if_pos (by decide)]; assumption) | (rw [if_neg (by decide), if_pos (by decide)]; assumption) | (rw [if_neg (by decide), if_neg (by decide)]; assumption) | assumption | decide | omega | exact o_one_t (by assumption) | (rw [o_one_f (by assumption)]; decide) | exact ⟨by assumption, by assumption⟩ | exact fun h9 => absurd h9.1 (by assumption) | exact fun h9 => absurd h9.2 (by assumption))] | rw [if_neg (by first | (rw [if_pos (by decide)]; assumption) | (rw [if_neg (by decide), if_pos (by decide)]; assumption) | (rw [if_neg (by decide), if_neg (by decide)]; assumption) | assumption | decide | omega | exact o_one_t (by assumption) | (rw [o_one_f (by assumption)]; decide) | exact ⟨by assumption, by assumption⟩ | exact fun h9 => absurd h9.1 (by assumption) | exact fun h9 => absurd h9.2 (by assumption))])); all_goals (first | rfl)⟩
          ·
            refine x_bipush C dX7_copy_65 (v := (-13)) rfl ?_
            refine x_sub C [0, 1, 4, 2, 5, 3] (ws' := [(x, .inr (6, [.ref tw, .ref pw, .ref uw, .ref o, .ref hh, .ref rd, .ref bk, .ref pl, .ref asd, .ref fd, .int (nI wr), .int hi9])), (pl, .inl (cS, 4, .inr (.inr (.inr (.inr plf))))), (sh, .inr (5, [.ref ra, .int so9, .int (nI nz)])), (ra, .inl (cI, 40, .inl g)), (sk2, .inr (5, [.ref rb, .int so8, .int (nI nz2)])), (rb, .inl (cI, 40, .inl g2))]) rfl rfl ?_
            refine E dX7_copy_67 (rfl) ?_
            exact ⟨(-13), g2, rfl, rfl, by (unfold o_copy o_copy_g); (try simp only [hnj1, hnj2]); (repeat (first | rw [if_pos (by first | (rw [if_pos (by decide)]; assumption) | (rw [if_neg (by decide), if_pos (by decide)]; assumption) | (rw [if_neg (by decide), if_neg (by decide)]; assumption) | assumption | decide | omega | exact o_one_t (by assumption) | (rw [o_one_f (by assumption)]; decide) | exact ⟨by assumption, by assumption⟩ | exact fun h9 => absurd h9.1 (by assumption) | exact fun h9 => absurd h9.2 (by assumption))] | rw [if_neg (by first | (rw [if_pos (by decide)]; assumption) | (rw [if_neg (by decide), if_pos (by decide)]; assumption) | (rw [if_neg (by decide), if_neg (by decide)]; assumption) | assumption | decide | omega | exact o_one_t (by assumption) | (rw [o_one_f (by assumption)]; decide) | exact ⟨by assumption, by assumption⟩ | exact fun h9 => absurd h9.1 (by assumption) | exact fun h9 => absurd h9.2 (by assumption))])); all_goals (first | rfl)⟩
    ·
      obtain ⟨rfl, rfl, hf33⟩ := h8
      show X 0 0 [(x, .inr (6, [.ref tw, .ref pw, .ref uw, .ref o, .ref hh, .ref rd, .ref bk, .ref pl, .ref asd, .ref fd, .int (nI wr), .int hi9])), (pl, .inl (cS, 4, .inr (.inr (.inr (.inr plf))))), (sh, .inr (5, [.ref ra, .int so9, .int (nI nz)])), (ra, .inl (cI, 40, .inl g)), (sk2, .inr (5, [.ref rb, .int so8, .int (nI nz2)])), (rb, .inl (cI, 40, .inl g2))] [(0, .ref x), (1, .int (nI j1)), (2, .int i), (3, .int t), (4, .int j), (5, .int n)] 11 [.int 0]
      refine x_if_ne C dX7_copy_11 (tgt := 17) rfl (fun q9 => absurd q9 (by decide)) (fun _ => ?_)
      refine x_bipush C dX7_copy_14 (v := (-2)) rfl ?_
      refine E dX7_copy_16 (rfl) ?_
      exact ⟨(-2), g2, rfl, rfl, by (unfold o_copy o_copy_g); (try simp only [hnj1]); (repeat (first | rw [if_pos (by first | (rw [if_pos (by decide)]; assumption) | (rw [if_neg (by decide), if_pos (by decide)]; assumption) | (rw [if_neg (by decide), if_neg (by decide)]; assumption) | assumption | decide | omega | exact o_one_t (by assumption) | (rw [o_one_f (by assumption)]; decide) | exact ⟨by assumption, by assumption⟩ | exact fun h9 => absurd h9.1 (by assumption) | exact fun h9 => absurd h9.2 (by assumption))] | rw [if_neg (by first | (rw [if_pos (by decide)]; assumption) | (rw [if_neg (by decide), if_pos (by decide)]; assumption) | (rw [if_neg (by decide), if_neg (by decide)]; assumption) | assumption | decide | omega | exact o_one_t (by assumption) | (rw [o_one_f (by assumption)]; decide) | exact ⟨by assumption, by assumption⟩ | exact fun h9 => absurd h9.1 (by assumption) | exact fun h9 => absurd h9.2 (by assumption))])); all_goals (first | rfl)⟩
  ·
    obtain ⟨rfl, rfl, hf34⟩ := h3
    show X 0 0 [(x, .inr (6, [.ref tw, .ref pw, .ref uw, .ref o, .ref hh, .ref rd, .ref bk, .ref pl, .ref asd, .ref fd, .int (nI wr), .int hi9])), (pl, .inl (cS, 4, .inr (.inr (.inr (.inr plf))))), (sh, .inr (5, [.ref ra, .int so9, .int (nI nz)])), (ra, .inl (cI, 40, .inl g)), (sk2, .inr (5, [.ref rb, .int so8, .int (nI nz2)])), (rb, .inl (cI, 40, .inl g2))] [(0, .ref x), (1, .int s), (2, .int i), (3, .int t), (4, .int j), (5, .int n)] 4 [.int 0]
    refine x_if_eq C dX7_copy_4 (tgt := 14) rfl (fun _ => ?_) (fun q9 => by first | exact absurd q9 (by decide) | exact absurd (by decide) q9)
    refine x_bipush C dX7_copy_14 (v := (-2)) rfl ?_
    refine E dX7_copy_16 (rfl) ?_
    exact ⟨(-2), g2, rfl, rfl, by (unfold o_copy o_copy_g); (repeat (first | rw [if_pos (by first | (rw [if_pos (by decide)]; assumption) | (rw [if_neg (by decide), if_pos (by decide)]; assumption) | (rw [if_neg (by decide), if_neg (by decide)]; assumption) | assumption | decide | omega | exact o_one_t (by assumption) | (rw [o_one_f (by assumption)]; decide) | exact ⟨by assumption, by assumption⟩ | exact fun h9 => absurd h9.1 (by assumption) | exact fun h9 => absurd h9.2 (by assumption))] | rw [if_neg (by first | (rw [if_pos (by decide)]; assumption) | (rw [if_neg (by decide), if_pos (by decide)]; assumption) | (rw [if_neg (by decide), if_neg (by decide)]; assumption) | assumption | decide | omega | exact o_one_t (by assumption) | (rw [o_one_f (by assumption)]; decide) | exact ⟨by assumption, by assumption⟩ | exact fun h9 => absurd h9.1 (by assumption) | exact fun h9 => absurd h9.2 (by assumption))])); all_goals (first | rfl)⟩
set_option maxHeartbeats 4000000 in
set_option maxRecDepth 100000 in
theorem c_X7_copy_s (l : Launch) (dG : va_G) (cI cM cW cS : ClassId) (x pw uw o hh rd bk pl asd fd : Nat) (wr : Nat) (hi9 : Int32) (tw : Nat) (plf : Nat → Option Nat) (sh ra : Nat) (so9 : Int32) (nz : Nat) (g : Nat → Int32) (s i t j n : Int32) (hsh : ∀ q, q < 4 → s = nI q → plf q = some sh) (hsk : ∀ q, q < 4 → t = nI q → plf q = some sh) (hnz : nz ≤ 40) : rM l yX7_copy cX7_copy 8 (some .int) ({ frames := 2, cells := 0, slots := 0, locals := 60 } : Room) dG (tY cI cM cW cS) rZ0 [.ref x, .int s, .int i, .int t, .int j, .int n] [(x, .inr (6, [.ref tw, .ref pw, .ref uw, .ref o, .ref hh, .ref rd, .ref bk, .ref pl, .ref asd, .ref fd, .int (nI wr), .int hi9])), (pl, .inl (cS, 4, .inr (.inr (.inr (.inr plf))))), (sh, .inr (5, [.ref ra, .int so9, .int (nI nz)])), (ra, .inl (cI, 40, .inl g))] (fun ov oz => ∃ (r : Int32) (g' : Nat → Int32), ov = some (.int r) ∧ oz = [(x, .inr (6, [.ref tw, .ref pw, .ref uw, .ref o, .ref hh, .ref rd, .ref bk, .ref pl, .ref asd, .ref fd, .int (nI wr), .int hi9])), (pl, .inl (cS, 4, .inr (.inr (.inr (.inr plf))))), (sh, .inr (5, [.ref ra, .int so9, .int (nI nz)])), (ra, .inl (cI, 40, .inl g'))] ∧ (r, g') = (o_copy so9 nz so9 nz s i t j n, o_copy_g g g so9 nz so9 nz s i t j n)) := by
  refine rM_ofI rfl (Nat.le_of_ble_eq_true rfl) rfl (fun X C E => ?_)
  show X 0 0 [(x, .inr (6, [.ref tw, .ref pw, .ref uw, .ref o, .ref hh, .ref rd, .ref bk, .ref pl, .ref asd, .ref fd, .int (nI wr), .int hi9])), (pl, .inl (cS, 4, .inr (.inr (.inr (.inr plf))))), (sh, .inr (5, [.ref ra, .int so9, .int (nI nz)])), (ra, .inl (cI, 40, .inl g))] [(0, .ref x), (1, .int s), (2, .int i), (3, .int t), (4, .int j), (5, .int n)] 0 []
  refine x_iload_n C dX7_copy_0 1 rfl ?_
  refine x_callS C (As := [.int s]) (st := []) (wc := []) (wr := [(x, .inr (6, [.ref tw, .ref pw, .ref uw, .ref o, .ref hh, .ref rd, .ref bk, .ref pl, .ref asd, .ref fd, .int (nI wr), .int hi9])), (pl, .inl (cS, 4, .inr (.inr (.inr (.inr plf))))), (sh, .inr (5, [.ref ra, .int so9, .int (nI nz)])), (ra, .inl (cI, 40, .inl g))]) (c_X7_isSheet l dG cI cM cW cS s ) rZ0_ok (fun _ _ _ _ => trivial) kS_X7_259 hy_X7_isSheet ⟨Nat.le_of_ble_eq_true rfl, Nat.le_of_ble_eq_true rfl⟩ ⟨Nat.le_of_ble_eq_true rfl, Nat.le_of_ble_eq_true rfl⟩ dX7_copy_1 [] [0, 1, 2, 3] rfl rfl rfl rfl (by decide) rfl (Nat.le_of_ble_eq_true rfl) ?_
  intro v1 w2 h3
  rcases h3 with h3 | h3
  ·
    obtain ⟨rfl, rfl, hf4⟩ := h3
    show X 0 0 [(x, .inr (6, [.ref tw, .ref pw, .ref uw, .ref o, .ref hh, .ref rd, .ref bk, .ref pl, .ref asd, .ref fd, .int (nI wr), .int hi9])), (pl, .inl (cS, 4, .inr (.inr (.inr (.inr plf))))), (sh, .inr (5, [.ref ra, .int so9, .int (nI nz)])), (ra, .inl (cI, 40, .inl g))] [(0, .ref x), (1, .int s), (2, .int i), (3, .int t), (4, .int j), (5, .int n)] 4 [.int 1]
    have hr5 := hf4
    obtain ⟨j1, hj1, rfl⟩ := q_w (n := 3) rfl (by decide) hf4
    have hnj1 : o_n (nI j1) = j1 := o_n_nI (by omega)
    refine x_if_eq C dX7_copy_4 (tgt := 14) rfl (fun q9 => absurd q9 (by decide)) (fun _ => ?_)
    refine x_iload_n C dX7_copy_7 3 rfl ?_
    refine x_callS C (As := [.int t]) (st := []) (wc := []) (wr := [(x, .inr (6, [.ref tw, .ref pw, .ref uw, .ref o, .ref hh, .ref rd, .ref bk, .ref pl, .ref asd, .ref fd, .int (nI wr), .int hi9])), (pl, .inl (cS, 4, .inr (.inr (.inr (.inr plf))))), (sh, .inr (5, [.ref ra, .int so9, .int (nI nz)])), (ra, .inl (cI, 40, .inl g))]) (c_X7_isSheet l dG cI cM cW cS t ) rZ0_ok (fun _ _ _ _ => trivial) kS_X7_259 hy_X7_isSheet ⟨Nat.le_of_ble_eq_true rfl, Nat.le_of_ble_eq_true rfl⟩ ⟨Nat.le_of_ble_eq_true rfl, Nat.le_of_ble_eq_true rfl⟩ dX7_copy_8 [] [0, 1, 2, 3] rfl rfl rfl rfl (by decide) rfl (Nat.le_of_ble_eq_true rfl) ?_
    intro v6 w7 h8
    rcases h8 with h8 | h8
    ·
      obtain ⟨rfl, rfl, hf9⟩ := h8
      show X 0 0 [(x, .inr (6, [.ref tw, .ref pw, .ref uw, .ref o, .ref hh, .ref rd, .ref bk, .ref pl, .ref asd, .ref fd, .int (nI wr), .int hi9])), (pl, .inl (cS, 4, .inr (.inr (.inr (.inr plf))))), (sh, .inr (5, [.ref ra, .int so9, .int (nI nz)])), (ra, .inl (cI, 40, .inl g))] [(0, .ref x), (1, .int (nI j1)), (2, .int i), (3, .int t), (4, .int j), (5, .int n)] 11 [.int 1]
      have hr10 := hf9
      obtain ⟨j2, hj2, rfl⟩ := q_w (n := 3) rfl (by decide) hf9
      have hnj2 : o_n (nI j2) = j2 := o_n_nI (by omega)
      refine x_if_ne C dX7_copy_11 (tgt := 17) rfl (fun _ => ?_) (fun q9 => by first | exact absurd q9 (by decide) | exact absurd (by decide) q9)
      refine x_aload_n C dX7_copy_17 0 rfl ?_
      refine x_get C inlX7 rfl 7 (by decide) gw_2_10 dX7_copy_18 0 rfl rfl ?_
      refine x_iload_n C dX7_copy_21 1 rfl ?_
      refine x_aaload C 3 rfl dX7_copy_22 j1 (q_cl rfl (by omega)) (q_ix rfl (by omega) (by omega)) 1 rfl (hsh j1 (by omega) rfl) ?_
      refine x_astore C dX7_copy_23 (by decide) (lv' := [(6, .ref sh), (0, .ref x), (1, .int (nI j1)), (2, .int i), (3, .int (nI j2)), (4, .int j), (5, .int n)]) rfl ?_
      refine x_aload_n C dX7_copy_25 1 rfl ?_
      refine x_get C inlX7 rfl 7 (by decide) gw_2_10 dX7_copy_26 0 rfl rfl ?_
      refine x_iload_n C dX7_copy_29 4 rfl ?_
      refine x_aaload C 3 rfl dX7_copy_30 j2 (q_cl rfl (by omega)) (q_ix rfl (by omega) (by omega)) 1 rfl (hsk j2 (by omega) rfl) ?_
      show X _ _ _ _ 31 _
      refine x_astore C dX7_copy_31 (by decide) (lv' := [(7, .ref sh), (6, .ref sh), (0, .ref x), (1, .int (nI j1)), (2, .int i), (3, .int (nI j2)), (4, .int j), (5, .int n)]) rfl ?_
      refine x_aload C dX7_copy_33 1 rfl ?_
      refine x_callV C (As := []) (st := []) (wc := [(sh, .inr (5, [.ref ra, .int so9, .int (nI nz)]))]) (wr := [(x, .inr (6, [.ref tw, .ref pw, .ref uw, .ref o, .ref hh, .ref rd, .ref bk, .ref pl, .ref asd, .ref fd, .int (nI wr), .int hi9])), (pl, .inl (cS, 4, .inr (.inr (.inr (.inr plf))))), (ra, .inl (cI, 40, .inl g))]) (c_X6_isMissing l dG cI cM cW cS sh ra so9 (nI nz) g ) rZ0_ok (fun _ _ _ _ => trivial) kV_X7_269 ⟨rfl, hy_X6_isMissing⟩ ⟨Nat.le_of_ble_eq_true rfl, Nat.le_of_ble_eq_true rfl⟩ ⟨Nat.le_of_ble_eq_true rfl, Nat.le_of_ble_eq_true rfl⟩ dX7_copy_35 2 rfl rfl [2] [0, 1, 3] rfl rfl rfl rfl (by decide) rfl (Nat.le_of_ble_eq_true rfl) ?_
      intro v11 w12 h13
      rcases h13 with h13 | h13
      ·
        obtain ⟨rfl, rfl, hf14⟩ := h13
        show X 0 0 [(x, .inr (6, [.ref tw, .ref pw, .ref uw, .ref o, .ref hh, .ref rd, .ref bk, .ref pl, .ref asd, .ref fd, .int (nI wr), .int hi9])), (pl, .inl (cS, 4, .inr (.inr (.inr (.inr plf))))), (ra, .inl (cI, 40, .inl g)), (sh, .inr (5, [.ref ra, .int so9, .int (nI nz)]))] [(7, .ref sh), (6, .ref sh), (0, .ref x), (1, .int (nI j1)), (2, .int i), (3, .int (nI j2)), (4, .int j), (5, .int n)] 38 [.int 1]
        refine x_if_ne C dX7_copy_38 (tgt := 49) rfl (fun _ => ?_) (fun q9 => by first | exact absurd q9 (by decide) | exact absurd (by decide) q9)
        refine x_bipush C dX7_copy_49 (v := (-11)) rfl ?_
        refine x_sub C [0, 1, 3, 2] (ws' := [(x, .inr (6, [.ref tw, .ref pw, .ref uw, .ref o, .ref hh, .ref rd, .ref bk, .ref pl, .ref asd, .ref fd, .int (nI wr), .int hi9])), (pl, .inl (cS, 4, .inr (.inr (.inr (.inr plf))))), (sh, .inr (5, [.ref ra, .int so9, .int (nI nz)])), (ra, .inl (cI, 40, .inl g))]) rfl rfl ?_
        refine E dX7_copy_51 (rfl) ?_
        exact ⟨(-11), g, rfl, rfl, by (unfold o_copy o_copy_g); (try simp only [hnj1, hnj2]); (repeat (first | rw [if_pos (by first | (rw [if_pos (by decide)]; assumption) | (rw [if_neg (by decide), if_pos (by decide)]; assumption) | (rw [if_neg (by decide), if_neg (by decide)]; assumption) | assumption | decide | omega | exact o_one_t (by assumption) | (rw [o_one_f (by assumption)]; decide) | exact ⟨by assumption, by assumption⟩ | exact fun h9 => absurd h9.1 (by assumption) | exact fun h9 => absurd h9.2 (by assumption))] | rw [if_neg (by first | (rw [if_pos (by decide)]; assumption) | (rw [if_neg (by decide), if_pos (by decide)]; assumption) | (rw [if_neg (by decide), if_neg (by decide)]; assumption) | assumption | decide | omega | exact o_one_t (by assumption) | (rw [o_one_f (by assumption)]; decide) | exact ⟨by assumption, by assumption⟩ | exact fun h9 => absurd h9.1 (by assumption) | exact fun h9 => absurd h9.2 (by assumption))])); all_goals (first | rfl)⟩
      ·
        obtain ⟨rfl, rfl, hf15⟩ := h13
        show X 0 0 [(x, .inr (6, [.ref tw, .ref pw, .ref uw, .ref o, .ref hh, .ref rd, .ref bk, .ref pl, .ref asd, .ref fd, .int (nI wr), .int hi9])), (pl, .inl (cS, 4, .inr (.inr (.inr (.inr plf))))), (ra, .inl (cI, 40, .inl g)), (sh, .inr (5, [.ref ra, .int so9, .int (nI nz)]))] [(7, .ref sh), (6, .ref sh), (0, .ref x), (1, .int (nI j1)), (2, .int i), (3, .int (nI j2)), (4, .int j), (5, .int n)] 38 [.int 0]
        refine x_if_ne C dX7_copy_38 (tgt := 49) rfl (fun q9 => absurd q9 (by decide)) (fun _ => ?_)
        refine x_aload C dX7_copy_41 0 rfl ?_
        refine x_callV C (As := []) (st := []) (wc := [(sh, .inr (5, [.ref ra, .int so9, .int (nI nz)]))]) (wr := [(x, .inr (6, [.ref tw, .ref pw, .ref uw, .ref o, .ref hh, .ref rd, .ref bk, .ref pl, .ref asd, .ref fd, .int (nI wr), .int hi9])), (pl, .inl (cS, 4, .inr (.inr (.inr (.inr plf))))), (ra, .inl (cI, 40, .inl g))]) (c_X6_isMissing l dG cI cM cW cS sh ra so9 (nI nz) g ) rZ0_ok (fun _ _ _ _ => trivial) kV_X7_269 ⟨rfl, hy_X6_isMissing⟩ ⟨Nat.le_of_ble_eq_true rfl, Nat.le_of_ble_eq_true rfl⟩ ⟨Nat.le_of_ble_eq_true rfl, Nat.le_of_ble_eq_true rfl⟩ dX7_copy_43 3 rfl rfl [3] [0, 1, 2] rfl rfl rfl rfl (by decide) rfl (Nat.le_of_ble_eq_true rfl) ?_
        intro v16 w17 h18
        rcases h18 with h18 | h18
        ·
          obtain ⟨rfl, rfl, hf19⟩ := h18
          show X 0 0 [(x, .inr (6, [.ref tw, .ref pw, .ref uw, .ref o, .ref hh, .ref rd, .ref bk, .ref pl, .ref asd, .ref fd, .int (nI wr), .int hi9])), (pl, .inl (cS, 4, .inr (.inr (.inr (.inr plf))))), (ra, .inl (cI, 40, .inl g)), (sh, .inr (5, [.ref ra, .int so9, .int (nI nz)]))] [(7, .ref sh), (6, .ref sh), (0, .ref x), (1, .int (nI j1)), (2, .int i), (3, .int (nI j2)), (4, .int j), (5, .int n)] 46 [.int 1]
          refine x_if_eq C dX7_copy_46 (tgt := 52) rfl (fun q9 => absurd q9 (by decide)) (fun _ => ?_)
          refine x_bipush C dX7_copy_49 (v := (-11)) rfl ?_
          refine x_sub C [0, 1, 3, 2] (ws' := [(x, .inr (6, [.ref tw, .ref pw, .ref uw, .ref o, .ref hh, .ref rd, .ref bk, .ref pl, .ref asd, .ref fd, .int (nI wr), .int hi9])), (pl, .inl (cS, 4, .inr (.inr (.inr (.inr plf))))), (sh, .inr (5, [.ref ra, .int so9, .int (nI nz)])), (ra, .inl (cI, 40, .inl g))]) rfl rfl ?_
          refine E dX7_copy_51 (rfl) ?_
          exact ⟨(-11), g, rfl, rfl, by (unfold o_copy o_copy_g); (try simp only [hnj1, hnj2]); (repeat (first | rw [if_pos (by first | (rw [if_pos (by decide)]; assumption) | (rw [if_neg (by decide), if_pos (by decide)]; assumption) | (rw [if_neg (by decide), if_neg (by decide)]; assumption) | assumption | decide | omega | exact o_one_t (by assumption) | (rw [o_one_f (by assumption)]; decide) | exact ⟨by assumption, by assumption⟩ | exact fun h9 => absurd h9.1 (by assumption) | exact fun h9 => absurd h9.2 (by assumption))] | rw [if_neg (by first | (rw [if_pos (by decide)]; assumption) | (rw [if_neg (by decide), if_pos (by decide)]; assumption) | (rw [if_neg (by decide), if_neg (by decide)]; assumption) | assumption | decide | omega | exact o_one_t (by assumption) | (rw [o_one_f (by assumption)]; decide) | exact ⟨by assumption, by assumption⟩ | exact fun h9 => absurd h9.1 (by assumption) | exact fun h9 => absurd h9.2 (by assumption))])); all_goals (first | rfl)⟩
        ·
          obtain ⟨rfl, rfl, hf20⟩ := h18
          show X 0 0 [(x, .inr (6, [.ref tw, .ref pw, .ref uw, .ref o, .ref hh, .ref rd, .ref bk, .ref pl, .ref asd, .ref fd, .int (nI wr), .int hi9])), (pl, .inl (cS, 4, .inr (.inr (.inr (.inr plf))))), (ra, .inl (cI, 40, .inl g)), (sh, .inr (5, [.ref ra, .int so9, .int (nI nz)]))] [(7, .ref sh), (6, .ref sh), (0, .ref x), (1, .int (nI j1)), (2, .int i), (3, .int (nI j2)), (4, .int j), (5, .int n)] 46 [.int 0]
          refine x_if_eq C dX7_copy_46 (tgt := 52) rfl (fun _ => ?_) (fun q9 => by first | exact absurd q9 (by decide) | exact absurd (by decide) q9)
          refine x_aload C dX7_copy_52 1 rfl ?_
          refine x_getN C inlX6 rfl 1 (by decide) nw_X7_277 dX7_copy_54 3 rfl rfl ?_
          refine x_aload C dX7_copy_57 0 rfl ?_
          refine x_getN C inlX6 rfl 1 (by decide) nw_X7_277 dX7_copy_59 3 rfl rfl ?_
          refine x_icmp_eq C dX7_copy_62 (tgt := 68) rfl (fun c21 => ?_) (fun c21 => ?_)
          ·
            refine x_iload C dX7_copy_68 7 rfl ?_
            refine x_if_lt C dX7_copy_70 (tgt := 106) rfl (fun c22 => ?_) (fun c22 => ?_)
            ·
              refine x_bipush C dX7_copy_106 (v := (-12)) rfl ?_
              refine x_sub C [0, 1, 3, 2] (ws' := [(x, .inr (6, [.ref tw, .ref pw, .ref uw, .ref o, .ref hh, .ref rd, .ref bk, .ref pl, .ref asd, .ref fd, .int (nI wr), .int hi9])), (pl, .inl (cS, 4, .inr (.inr (.inr (.inr plf))))), (sh, .inr (5, [.ref ra, .int so9, .int (nI nz)])), (ra, .inl (cI, 40, .inl g))]) rfl rfl ?_
              refine E dX7_copy_108 (rfl) ?_
              exact ⟨(-12), g, rfl, rfl, by (unfold o_copy o_copy_g); (try simp only [hnj1, hnj2]); (repeat (first | rw [if_pos (by first | (rw [if_pos (by decide)]; assumption) | (rw [if_neg (by decide), if_pos (by decide)]; assumption) | (rw [if_neg (by decide), if_neg (by decide)]; assumption) | assumption | decide | omega | exact o_one_t (by assumption) | (rw [o_one_f (by assumption)]; decide) | exact ⟨by assumption, by assumption⟩ | exact fun h9 => absurd h9.1 (by assumption) | exact fun h9 => absurd h9.2 (by assumption))] | rw [if_neg (by first | (rw [if_pos (by decide)]; assumption) | (rw [if_neg (by decide), if_pos (by decide)]; assumption) | (rw [if_neg (by decide), if_neg (by decide)]; assumption) | assumption | decide | omega | exact o_one_t (by assumption) | (rw [o_one_f (by assumption)]; decide) | exact ⟨by assumption, by assumption⟩ | exact fun h9 => absurd h9.1 (by assumption) | exact fun h9 => absurd h9.2 (by assumption))])); all_goals (first | rfl)⟩
            ·
              refine x_iload_n C dX7_copy_73 4 rfl ?_
              refine x_iconst C dX7_copy_74 (v := 0) rfl ?_
              refine x_aload C dX7_copy_75 1 rfl ?_
              refine x_getN C inlX6 rfl 2 (by decide) nw_X7_273 dX7_copy_77 3 rfl rfl ?_
              refine x_iload C dX7_copy_80 7 rfl ?_
              refine x_isub C dX7_copy_82 ?_
              refine x_callS C (As := [.int i, .int 0, .int ((nI nz) - n)]) (st := []) (wc := []) (wr := [(x, .inr (6, [.ref tw, .ref pw, .ref uw, .ref o, .ref hh, .ref rd, .ref bk, .ref pl, .ref asd, .ref fd, .int (nI wr), .int hi9])), (pl, .inl (cS, 4, .inr (.inr (.inr (.inr plf))))), (ra, .inl (cI, 40, .inl g)), (sh, .inr (5, [.ref ra, .int so9, .int (nI nz)]))]) (c_X7_within l dG cI cM cW cS i 0 ((nI nz) - n) ) rZ0_ok (fun _ _ _ _ => trivial) kS_X7_92 hy_X7_within ⟨Nat.le_of_ble_eq_true rfl, Nat.le_of_ble_eq_true rfl⟩ ⟨Nat.le_of_ble_eq_true rfl, Nat.le_of_ble_eq_true rfl⟩ dX7_copy_83 [] [0, 1, 2, 3] rfl rfl rfl rfl (by decide) rfl (Nat.le_of_ble_eq_true rfl) ?_
              intro v23 w24 h25
              rcases h25 with h25 | h25
              ·
                obtain ⟨rfl, rfl, hf26⟩ := h25
                show X 0 0 [(x, .inr (6, [.ref tw, .ref pw, .ref uw, .ref o, .ref hh, .ref rd, .ref bk, .ref pl, .ref asd, .ref fd, .int (nI wr), .int hi9])), (pl, .inl (cS, 4, .inr (.inr (.inr (.inr plf))))), (ra, .inl (cI, 40, .inl g)), (sh, .inr (5, [.ref ra, .int so9, .int (nI nz)]))] [(7, .ref sh), (6, .ref sh), (0, .ref x), (1, .int (nI j1)), (2, .int i), (3, .int (nI j2)), (4, .int j), (5, .int n)] 86 [.int 1]
                have hr1 := hf26
                obtain ⟨a9, z9, rfl, rfl, haz⟩ := q_span hnz (by assumption) hf26
                have hna9 : o_n (nI a9) = a9 := o_n_nI (by omega)
                have hnz9 : o_n (nI z9) = z9 := o_n_nI (by omega)
                refine x_if_eq C dX7_copy_86 (tgt := 106) rfl (fun q9 => absurd q9 (by decide)) (fun _ => ?_)
                refine x_iload C dX7_copy_89 6 rfl ?_
                refine x_iconst C dX7_copy_91 (v := 0) rfl ?_
                refine x_aload C dX7_copy_92 0 rfl ?_
                refine x_getN C inlX6 rfl 2 (by decide) nw_X7_273 dX7_copy_94 3 rfl rfl ?_
                refine x_iload C dX7_copy_97 7 rfl ?_
                refine x_isub C dX7_copy_99 ?_
                refine x_callS C (As := [.int j, .int 0, .int ((nI nz) - (nI z9))]) (st := []) (wc := []) (wr := [(x, .inr (6, [.ref tw, .ref pw, .ref uw, .ref o, .ref hh, .ref rd, .ref bk, .ref pl, .ref asd, .ref fd, .int (nI wr), .int hi9])), (pl, .inl (cS, 4, .inr (.inr (.inr (.inr plf))))), (ra, .inl (cI, 40, .inl g)), (sh, .inr (5, [.ref ra, .int so9, .int (nI nz)]))]) (c_X7_within l dG cI cM cW cS j 0 ((nI nz) - (nI z9)) ) rZ0_ok (fun _ _ _ _ => trivial) kS_X7_92 hy_X7_within ⟨Nat.le_of_ble_eq_true rfl, Nat.le_of_ble_eq_true rfl⟩ ⟨Nat.le_of_ble_eq_true rfl, Nat.le_of_ble_eq_true rfl⟩ dX7_copy_100 [] [0, 1, 2, 3] rfl rfl rfl rfl (by decide) rfl (Nat.le_of_ble_eq_true rfl) ?_
                intro v27 w28 h29
                rcases h29 with h29 | h29
                ·
                  obtain ⟨rfl, rfl, hf30⟩ := h29
                  show X 0 0 [(x, .inr (6, [.ref tw, .ref pw, .ref uw, .ref o, .ref hh, .ref rd, .ref bk, .ref pl, .ref asd, .ref fd, .int (nI wr), .int hi9])), (pl, .inl (cS, 4, .inr (.inr (.inr (.inr plf))))), (ra, .inl (cI, 40, .inl g)), (sh, .inr (5, [.ref ra, .int so9, .int (nI nz)]))] [(7, .ref sh), (6, .ref sh), (0, .ref x), (1, .int (nI j1)), (2, .int (nI a9)), (3, .int (nI j2)), (4, .int j), (5, .int (nI z9))] 103 [.int 1]
                  have hr2 := hf30
                  obtain ⟨b9, rfl, hbz⟩ := q_span2 hnz (show z9 ≤ 40 by omega) hf30
                  have hnb9 : o_n (nI b9) = b9 := o_n_nI (by omega)
                  refine x_if_ne C dX7_copy_103 (tgt := 109) rfl (fun _ => ?_) (fun q9 => by first | exact absurd q9 (by decide) | exact absurd (by decide) q9)
                  refine x_aload C dX7_copy_109 1 rfl ?_
                  refine x_getN C inlX6 rfl 0 (by decide) nw_X7_252 dX7_copy_111 3 rfl rfl ?_
                  refine x_iload_n C dX7_copy_114 4 rfl ?_
                  refine x_aload C dX7_copy_115 0 rfl ?_
                  refine x_getN C inlX6 rfl 0 (by decide) nw_X7_252 dX7_copy_117 3 rfl rfl ?_
                  refine x_iload C dX7_copy_120 6 rfl ?_
                  refine x_iload C dX7_copy_122 7 rfl ?_
                  refine x_copyi C (sp' := a9) (dp' := b9) (z' := z9) 0 rfl gw_42_22 gw_23_15 gw_23_16 gw_23_17 (Nat.le_of_ble_eq_true rfl) (Nat.le_of_ble_eq_true rfl) dX7_copy_124 2 2 rfl rfl (rfl) (rfl) (rfl) (by first | decide | omega) (by first | decide | omega) (by first | decide | omega) (by first | decide | omega) ?_
                  show X _ _ [(x, .inr (6, [.ref tw, .ref pw, .ref uw, .ref o, .ref hh, .ref rd, .ref bk, .ref pl, .ref asd, .ref fd, .int (nI wr), .int hi9])), (pl, .inl (cS, 4, .inr (.inr (.inr (.inr plf))))), (ra, .inl (cI, 40, .inl (va_cpy g g a9 b9 z9))), (sh, .inr (5, [.ref ra, .int so9, .int (nI nz)]))] _ _ _
                  refine x_iload C dX7_copy_127 7 rfl ?_
                  show X _ _ _ _ 129 _
                  refine x_sub C [0, 1, 3, 2] (ws' := [(x, .inr (6, [.ref tw, .ref pw, .ref uw, .ref o, .ref hh, .ref rd, .ref bk, .ref pl, .ref asd, .ref fd, .int (nI wr), .int hi9])), (pl, .inl (cS, 4, .inr (.inr (.inr (.inr plf))))), (sh, .inr (5, [.ref ra, .int so9, .int (nI nz)])), (ra, .inl (cI, 40, .inl (va_cpy g g a9 b9 z9)))]) rfl rfl ?_
                  refine E dX7_copy_129 (rfl) ?_
                  exact ⟨(nI z9), (va_cpy g g a9 b9 z9), rfl, rfl, by (unfold o_copy o_copy_g); (try simp only [hnj1, hnj2, hna9, hnz9, hnb9]); (repeat (first | rw [if_pos (by first | (rw [if_pos (by decide)]; assumption) | (rw [if_neg (by decide), if_pos (by decide)]; assumption) | (rw [if_neg (by decide), if_neg (by decide)]; assumption) | assumption | decide | omega | exact o_one_t (by assumption) | (rw [o_one_f (by assumption)]; decide) | exact ⟨by assumption, by assumption⟩ | exact fun h9 => absurd h9.1 (by assumption) | exact fun h9 => absurd h9.2 (by assumption))] | rw [if_neg (by first | (rw [if_pos (by decide)]; assumption) | (rw [if_neg (by decide), if_pos (by decide)]; assumption) | (rw [if_neg (by decide), if_neg (by decide)]; assumption) | assumption | decide | omega | exact o_one_t (by assumption) | (rw [o_one_f (by assumption)]; decide) | exact ⟨by assumption, by assumption⟩ | exact fun h9 => absurd h9.1 (by assumption) | exact fun h9 => absurd h9.2 (by assumption))])); all_goals (first | rfl)⟩
                ·
                  obtain ⟨rfl, rfl, hf31⟩ := h29
                  show X 0 0 [(x, .inr (6, [.ref tw, .ref pw, .ref uw, .ref o, .ref hh, .ref rd, .ref bk, .ref pl, .ref asd, .ref fd, .int (nI wr), .int hi9])), (pl, .inl (cS, 4, .inr (.inr (.inr (.inr plf))))), (ra, .inl (cI, 40, .inl g)), (sh, .inr (5, [.ref ra, .int so9, .int (nI nz)]))] [(7, .ref sh), (6, .ref sh), (0, .ref x), (1, .int (nI j1)), (2, .int (nI a9)), (3, .int (nI j2)), (4, .int j), (5, .int (nI z9))] 103 [.int 0]
                  refine x_if_ne C dX7_copy_103 (tgt := 109) rfl (fun q9 => absurd q9 (by decide)) (fun _ => ?_)
                  refine x_bipush C dX7_copy_106 (v := (-12)) rfl ?_
                  refine x_sub C [0, 1, 3, 2] (ws' := [(x, .inr (6, [.ref tw, .ref pw, .ref uw, .ref o, .ref hh, .ref rd, .ref bk, .ref pl, .ref asd, .ref fd, .int (nI wr), .int hi9])), (pl, .inl (cS, 4, .inr (.inr (.inr (.inr plf))))), (sh, .inr (5, [.ref ra, .int so9, .int (nI nz)])), (ra, .inl (cI, 40, .inl g))]) rfl rfl ?_
                  refine E dX7_copy_108 (rfl) ?_
                  exact ⟨(-12), g, rfl, rfl, by (unfold o_copy o_copy_g); (try simp only [hnj1, hnj2, hna9, hnz9]); (repeat (first | rw [if_pos (by first | (rw [if_pos (by decide)]; assumption) | (rw [if_neg (by decide), if_pos (by decide)]; assumption) | (rw [if_neg (by decide), if_neg (by decide)]; assumption) | assumption | decide | omega | exact o_one_t (by assumption) | (rw [o_one_f (by assumption)]; decide) | exact ⟨by assumption, by assumption⟩ | exact fun h9 => absurd h9.1 (by assumption) | exact fun h9 => absurd h9.2 (by assumption))] | rw [if_neg (by first | (rw [if_pos (by decide)]; assumption) | (rw [if_neg (by decide), if_pos (by decide)]; assumption) | (rw [if_neg (by decide), if_neg (by decide)]; assumption) | assumption | decide | omega | exact o_one_t (by assumption) | (rw [o_one_f (by assumption)]; decide) | exact ⟨by assumption, by assumption⟩ | exact fun h9 => absurd h9.1 (by assumption) | exact fun h9 => absurd h9.2 (by assumption))])); all_goals (first | rfl)⟩
              ·
                obtain ⟨rfl, rfl, hf32⟩ := h25
                show X 0 0 [(x, .inr (6, [.ref tw, .ref pw, .ref uw, .ref o, .ref hh, .ref rd, .ref bk, .ref pl, .ref asd, .ref fd, .int (nI wr), .int hi9])), (pl, .inl (cS, 4, .inr (.inr (.inr (.inr plf))))), (ra, .inl (cI, 40, .inl g)), (sh, .inr (5, [.ref ra, .int so9, .int (nI nz)]))] [(7, .ref sh), (6, .ref sh), (0, .ref x), (1, .int (nI j1)), (2, .int i), (3, .int (nI j2)), (4, .int j), (5, .int n)] 86 [.int 0]
                refine x_if_eq C dX7_copy_86 (tgt := 106) rfl (fun _ => ?_) (fun q9 => by first | exact absurd q9 (by decide) | exact absurd (by decide) q9)
                refine x_bipush C dX7_copy_106 (v := (-12)) rfl ?_
                refine x_sub C [0, 1, 3, 2] (ws' := [(x, .inr (6, [.ref tw, .ref pw, .ref uw, .ref o, .ref hh, .ref rd, .ref bk, .ref pl, .ref asd, .ref fd, .int (nI wr), .int hi9])), (pl, .inl (cS, 4, .inr (.inr (.inr (.inr plf))))), (sh, .inr (5, [.ref ra, .int so9, .int (nI nz)])), (ra, .inl (cI, 40, .inl g))]) rfl rfl ?_
                refine E dX7_copy_108 (rfl) ?_
                exact ⟨(-12), g, rfl, rfl, by (unfold o_copy o_copy_g); (try simp only [hnj1, hnj2]); (repeat (first | rw [if_pos (by first | (rw [if_pos (by decide)]; assumption) | (rw [if_neg (by decide), if_pos (by decide)]; assumption) | (rw [if_neg (by decide), if_neg (by decide)]; assumption) | assumption | decide | omega | exact o_one_t (by assumption) | (rw [o_one_f (by assumption)]; decide) | exact ⟨by assumption, by assumption⟩ | exact fun h9 => absurd h9.1 (by assumption) | exact fun h9 => absurd h9.2 (by assumption))] | rw [if_neg (by first | (rw [if_pos (by decide)]; assumption) | (rw [if_neg (by decide), if_pos (by decide)]; assumption) | (rw [if_neg (by decide), if_neg (by decide)]; assumption) | assumption | decide | omega | exact o_one_t (by assumption) | (rw [o_one_f (by assumption)]; decide) | exact ⟨by assumption, by assumption⟩ | exact fun h9 => absurd h9.1 (by assumption) | exact fun h9 => absurd h9.2 (by assumption))])); all_goals (first | rfl)⟩
          ·
            refine x_bipush C dX7_copy_65 (v := (-13)) rfl ?_
            refine x_sub C [0, 1, 3, 2] (ws' := [(x, .inr (6, [.ref tw, .ref pw, .ref uw, .ref o, .ref hh, .ref rd, .ref bk, .ref pl, .ref asd, .ref fd, .int (nI wr), .int hi9])), (pl, .inl (cS, 4, .inr (.inr (.inr (.inr plf))))), (sh, .inr (5, [.ref ra, .int so9, .int (nI nz)])), (ra, .inl (cI, 40, .inl g))]) rfl rfl ?_
            refine E dX7_copy_67 (rfl) ?_
            exact ⟨(-13), g, rfl, rfl, absurd (Eq.refl so9) (by assumption)⟩
    ·
      obtain ⟨rfl, rfl, hf33⟩ := h8
      show X 0 0 [(x, .inr (6, [.ref tw, .ref pw, .ref uw, .ref o, .ref hh, .ref rd, .ref bk, .ref pl, .ref asd, .ref fd, .int (nI wr), .int hi9])), (pl, .inl (cS, 4, .inr (.inr (.inr (.inr plf))))), (sh, .inr (5, [.ref ra, .int so9, .int (nI nz)])), (ra, .inl (cI, 40, .inl g))] [(0, .ref x), (1, .int (nI j1)), (2, .int i), (3, .int t), (4, .int j), (5, .int n)] 11 [.int 0]
      refine x_if_ne C dX7_copy_11 (tgt := 17) rfl (fun q9 => absurd q9 (by decide)) (fun _ => ?_)
      refine x_bipush C dX7_copy_14 (v := (-2)) rfl ?_
      refine E dX7_copy_16 (rfl) ?_
      exact ⟨(-2), g, rfl, rfl, by (unfold o_copy o_copy_g); (try simp only [hnj1]); (repeat (first | rw [if_pos (by first | (rw [if_pos (by decide)]; assumption) | (rw [if_neg (by decide), if_pos (by decide)]; assumption) | (rw [if_neg (by decide), if_neg (by decide)]; assumption) | assumption | decide | omega | exact o_one_t (by assumption) | (rw [o_one_f (by assumption)]; decide) | exact ⟨by assumption, by assumption⟩ | exact fun h9 => absurd h9.1 (by assumption) | exact fun h9 => absurd h9.2 (by assumption))] | rw [if_neg (by first | (rw [if_pos (by decide)]; assumption) | (rw [if_neg (by decide), if_pos (by decide)]; assumption) | (rw [if_neg (by decide), if_neg (by decide)]; assumption) | assumption | decide | omega | exact o_one_t (by assumption) | (rw [o_one_f (by assumption)]; decide) | exact ⟨by assumption, by assumption⟩ | exact fun h9 => absurd h9.1 (by assumption) | exact fun h9 => absurd h9.2 (by assumption))])); all_goals (first | rfl)⟩
  ·
    obtain ⟨rfl, rfl, hf34⟩ := h3
    show X 0 0 [(x, .inr (6, [.ref tw, .ref pw, .ref uw, .ref o, .ref hh, .ref rd, .ref bk, .ref pl, .ref asd, .ref fd, .int (nI wr), .int hi9])), (pl, .inl (cS, 4, .inr (.inr (.inr (.inr plf))))), (sh, .inr (5, [.ref ra, .int so9, .int (nI nz)])), (ra, .inl (cI, 40, .inl g))] [(0, .ref x), (1, .int s), (2, .int i), (3, .int t), (4, .int j), (5, .int n)] 4 [.int 0]
    refine x_if_eq C dX7_copy_4 (tgt := 14) rfl (fun _ => ?_) (fun q9 => by first | exact absurd q9 (by decide) | exact absurd (by decide) q9)
    refine x_bipush C dX7_copy_14 (v := (-2)) rfl ?_
    refine E dX7_copy_16 (rfl) ?_
    exact ⟨(-2), g, rfl, rfl, by (unfold o_copy o_copy_g); (repeat (first | rw [if_pos (by first | (rw [if_pos (by decide)]; assumption) | (rw [if_neg (by decide), if_pos (by decide)]; assumption) | (rw [if_neg (by decide), if_neg (by decide)]; assumption) | assumption | decide | omega | exact o_one_t (by assumption) | (rw [o_one_f (by assumption)]; decide) | exact ⟨by assumption, by assumption⟩ | exact fun h9 => absurd h9.1 (by assumption) | exact fun h9 => absurd h9.2 (by assumption))] | rw [if_neg (by first | (rw [if_pos (by decide)]; assumption) | (rw [if_neg (by decide), if_pos (by decide)]; assumption) | (rw [if_neg (by decide), if_neg (by decide)]; assumption) | assumption | decide | omega | exact o_one_t (by assumption) | (rw [o_one_f (by assumption)]; decide) | exact ⟨by assumption, by assumption⟩ | exact fun h9 => absurd h9.1 (by assumption) | exact fun h9 => absurd h9.2 (by assumption))])); all_goals (first | rfl)⟩
theorem kV_X7_286 : GoodIn GW (wsV RX7 286 yX7_tree.cls yX7_tree (Cond.code yX7_tree cX7_tree 5 (some .int) :: GW)) := r_gV gw_43_7 gw_20_9 gw_20_10 gw_1_2 gw_20_11
theorem hy_X7_tree : yX7_tree.cls ≠ "java/lang/invoke/MethodHandle" ∧ yX7_tree.cls ≠ "java/lang/invoke/VarHandle" ∧ (parseMethodDescriptor yX7_tree.desc).map (fun d => d.parameters.length) = some 3 := ⟨by decide +kernel, by decide +kernel, by decide +kernel⟩
set_option maxHeartbeats 4000000 in
set_option maxRecDepth 100000 in
theorem c_X7_treesBy (l : Launch) (dG : va_G) (cI cM cW cS : ClassId) (x pw uw o hh rd bk pl asd fd : Nat) (wr : Nat) (hi9 : Int32) (tw tsk tkd tmo tlv ttc tts ttl ts0 ts1 ts2 ts3 : Nat) (ttn tlw : Nat) (trg : Int32) (thp : Int64) (tR0 tR1 tR2 tR3 tkf tmf tlf tcf tsf ttf : Nat → Int32) (plf : Nat → Option Nat) (sh ra : Nat) (so9 : Int32) (nz : Nat) (g : Nat → Int32) (s t at9 n : Int32) (htn : ttn ≤ 4) (hsh : ∀ j, j < 4 → s = nI j → plf j = some sh) (hnz : nz ≤ 40) : rM l yX7_treesBy cX7_treesBy 9 (some .int) ({ frames := 3, cells := 0, slots := 0, locals := 66 } : Room) dG (tY cI cM cW cS) rZ0 [.ref x, .int s, .int t, .int at9, .int n] [(x, .inr (6, [.ref tw, .ref pw, .ref uw, .ref o, .ref hh, .ref rd, .ref bk, .ref pl, .ref asd, .ref fd, .int (nI wr), .int hi9])), (tw, .inr (3, [.ref tsk, .ref tkd, .ref tmo, .ref tlv, .ref ttc, .ref tts, .ref ttl, .int (nI ttn), .int trg, .long thp, .int (nI tlw)])), (ttc, .inl (cI, 4, .inl tcf)), (tts, .inl (cI, 4, .inl tsf)), (ttl, .inl (cI, 4, .inl ttf)), (pl, .inl (cS, 4, .inr (.inr (.inr (.inr plf))))), (sh, .inr (5, [.ref ra, .int so9, .int (nI nz)])), (ra, .inl (cI, 40, .inl g))] (fun ov oz => ∃ (r : Int32) (n' : Nat) (a' : Nat → Int32) (b' : Nat → Int32) (c' : Nat → Int32) (e' : Nat), ov = some (.int r) ∧ oz = [(x, .inr (6, [.ref tw, .ref pw, .ref uw, .ref o, .ref hh, .ref rd, .ref bk, .ref pl, .ref asd, .ref fd, .int (nI wr), .int hi9])), (tw, .inr (3, [.ref tsk, .ref tkd, .ref tmo, .ref tlv, .ref ttc, .ref tts, .ref ttl, .int (nI n'), .int trg, .long thp, .int (nI tlw)])), (ttc, .inl (cI, 4, .inl a')), (tts, .inl (cI, 4, .inl b')), (ttl, .inl (cI, 4, .inl c')), (pl, .inl (cS, 4, .inr (.inr (.inr (.inr plf))))), (sh, .inr (5, [.ref ra, .int so9, .int (nI nz)])), (ra, .inl (cI, 40, .inl g))] ∧ (r, n', a', b', c', e') = o_treesBy g so9 nz (ttn, tcf, tsf, ttf, 0) s t at9 n) := by
  refine rM_ofI rfl (Nat.le_of_ble_eq_true rfl) rfl (fun X C E => ?_)
  show X 0 0 [(x, .inr (6, [.ref tw, .ref pw, .ref uw, .ref o, .ref hh, .ref rd, .ref bk, .ref pl, .ref asd, .ref fd, .int (nI wr), .int hi9])), (tw, .inr (3, [.ref tsk, .ref tkd, .ref tmo, .ref tlv, .ref ttc, .ref tts, .ref ttl, .int (nI ttn), .int trg, .long thp, .int (nI tlw)])), (ttc, .inl (cI, 4, .inl tcf)), (tts, .inl (cI, 4, .inl tsf)), (ttl, .inl (cI, 4, .inl ttf)), (pl, .inl (cS, 4, .inr (.inr (.inr (.inr plf))))), (sh, .inr (5, [.ref ra, .int so9, .int (nI nz)])), (ra, .inl (cI, 40, .inl g))] [(0, .ref x), (1, .int s), (2, .int t), (3, .int at9), (4, .int n)] 0 []
  refine x_iload_n C dX7_treesBy_0 1 rfl ?_
  refine x_callS C (As := [.int s]) (st := []) (wc := []) (wr := [(x, .inr (6, [.ref tw, .ref pw, .ref uw, .ref o, .ref hh, .ref rd, .ref bk, .ref pl, .ref asd, .ref fd, .int (nI wr), .int hi9])), (tw, .inr (3, [.ref tsk, .ref tkd, .ref tmo, .ref tlv, .ref ttc, .ref tts, .ref ttl, .int (nI ttn), .int trg, .long thp, .int (nI tlw)])), (ttc, .inl (cI, 4, .inl tcf)), (tts, .inl (cI, 4, .inl tsf)), (ttl, .inl (cI, 4, .inl ttf)), (pl, .inl (cS, 4, .inr (.inr (.inr (.inr plf))))), (sh, .inr (5, [.ref ra, .int so9, .int (nI nz)])), (ra, .inl (cI, 40, .inl g))]) (c_X7_isSheet l dG cI cM cW cS s ) rZ0_ok (fun _ _ _ _ => trivial) kS_X7_259 hy_X7_isSheet ⟨Nat.le_of_ble_eq_true rfl, Nat.le_of_ble_eq_true rfl⟩ ⟨Nat.le_of_ble_eq_true rfl, Nat.le_of_ble_eq_true rfl⟩ dX7_treesBy_1 [] [0, 1, 2, 3, 4, 5, 6, 7] rfl rfl rfl rfl (by decide) rfl (Nat.le_of_ble_eq_true rfl) ?_
  intro v1 w2 h3
  rcases h3 with h3 | h3
  ·
    obtain ⟨rfl, rfl, hf4⟩ := h3
    show X 0 0 [(x, .inr (6, [.ref tw, .ref pw, .ref uw, .ref o, .ref hh, .ref rd, .ref bk, .ref pl, .ref asd, .ref fd, .int (nI wr), .int hi9])), (tw, .inr (3, [.ref tsk, .ref tkd, .ref tmo, .ref tlv, .ref ttc, .ref tts, .ref ttl, .int (nI ttn), .int trg, .long thp, .int (nI tlw)])), (ttc, .inl (cI, 4, .inl tcf)), (tts, .inl (cI, 4, .inl tsf)), (ttl, .inl (cI, 4, .inl ttf)), (pl, .inl (cS, 4, .inr (.inr (.inr (.inr plf))))), (sh, .inr (5, [.ref ra, .int so9, .int (nI nz)])), (ra, .inl (cI, 40, .inl g))] [(0, .ref x), (1, .int s), (2, .int t), (3, .int at9), (4, .int n)] 4 [.int 1]
    have hr5 := hf4
    obtain ⟨j, hj, rfl⟩ := q_w (n := 3) rfl (by decide) hf4
    have hnj : o_n (nI j) = j := o_n_nI (by omega)
    refine x_if_eq C dX7_treesBy_4 (tgt := 26) rfl (fun q9 => absurd q9 (by decide)) (fun _ => ?_)
    refine x_iload_n C dX7_treesBy_7 2 rfl ?_
    refine x_iconst C dX7_treesBy_8 (v := 0) rfl ?_
    refine x_iconst C dX7_treesBy_9 (v := 2) rfl ?_
    refine x_callS C (As := [.int t, .int 0, .int 2]) (st := []) (wc := []) (wr := [(x, .inr (6, [.ref tw, .ref pw, .ref uw, .ref o, .ref hh, .ref rd, .ref bk, .ref pl, .ref asd, .ref fd, .int (nI wr), .int hi9])), (tw, .inr (3, [.ref tsk, .ref tkd, .ref tmo, .ref tlv, .ref ttc, .ref tts, .ref ttl, .int (nI ttn), .int trg, .long thp, .int (nI tlw)])), (ttc, .inl (cI, 4, .inl tcf)), (tts, .inl (cI, 4, .inl tsf)), (ttl, .inl (cI, 4, .inl ttf)), (pl, .inl (cS, 4, .inr (.inr (.inr (.inr plf))))), (sh, .inr (5, [.ref ra, .int so9, .int (nI nz)])), (ra, .inl (cI, 40, .inl g))]) (c_X7_within l dG cI cM cW cS t 0 2 ) rZ0_ok (fun _ _ _ _ => trivial) kS_X7_92 hy_X7_within ⟨Nat.le_of_ble_eq_true rfl, Nat.le_of_ble_eq_true rfl⟩ ⟨Nat.le_of_ble_eq_true rfl, Nat.le_of_ble_eq_true rfl⟩ dX7_treesBy_10 [] [0, 1, 2, 3, 4, 5, 6, 7] rfl rfl rfl rfl (by decide) rfl (Nat.le_of_ble_eq_true rfl) ?_
    intro v6 w7 h8
    rcases h8 with h8 | h8
    ·
      obtain ⟨rfl, rfl, hf9⟩ := h8
      show X 0 0 [(x, .inr (6, [.ref tw, .ref pw, .ref uw, .ref o, .ref hh, .ref rd, .ref bk, .ref pl, .ref asd, .ref fd, .int (nI wr), .int hi9])), (tw, .inr (3, [.ref tsk, .ref tkd, .ref tmo, .ref tlv, .ref ttc, .ref tts, .ref ttl, .int (nI ttn), .int trg, .long thp, .int (nI tlw)])), (ttc, .inl (cI, 4, .inl tcf)), (tts, .inl (cI, 4, .inl tsf)), (ttl, .inl (cI, 4, .inl ttf)), (pl, .inl (cS, 4, .inr (.inr (.inr (.inr plf))))), (sh, .inr (5, [.ref ra, .int so9, .int (nI nz)])), (ra, .inl (cI, 40, .inl g))] [(0, .ref x), (1, .int (nI j)), (2, .int t), (3, .int at9), (4, .int n)] 13 [.int 1]
      refine x_if_eq C dX7_treesBy_13 (tgt := 26) rfl (fun q9 => absurd q9 (by decide)) (fun _ => ?_)
      refine x_iload C dX7_treesBy_16 4 rfl ?_
      refine x_iconst C dX7_treesBy_18 (v := 0) rfl ?_
      refine x_iconst C dX7_treesBy_19 (v := 4) rfl ?_
      refine x_callS C (As := [.int n, .int 0, .int 4]) (st := []) (wc := []) (wr := [(x, .inr (6, [.ref tw, .ref pw, .ref uw, .ref o, .ref hh, .ref rd, .ref bk, .ref pl, .ref asd, .ref fd, .int (nI wr), .int hi9])), (tw, .inr (3, [.ref tsk, .ref tkd, .ref tmo, .ref tlv, .ref ttc, .ref tts, .ref ttl, .int (nI ttn), .int trg, .long thp, .int (nI tlw)])), (ttc, .inl (cI, 4, .inl tcf)), (tts, .inl (cI, 4, .inl tsf)), (ttl, .inl (cI, 4, .inl ttf)), (pl, .inl (cS, 4, .inr (.inr (.inr (.inr plf))))), (sh, .inr (5, [.ref ra, .int so9, .int (nI nz)])), (ra, .inl (cI, 40, .inl g))]) (c_X7_within l dG cI cM cW cS n 0 4 ) rZ0_ok (fun _ _ _ _ => trivial) kS_X7_92 hy_X7_within ⟨Nat.le_of_ble_eq_true rfl, Nat.le_of_ble_eq_true rfl⟩ ⟨Nat.le_of_ble_eq_true rfl, Nat.le_of_ble_eq_true rfl⟩ dX7_treesBy_20 [] [0, 1, 2, 3, 4, 5, 6, 7] rfl rfl rfl rfl (by decide) rfl (Nat.le_of_ble_eq_true rfl) ?_
      intro v10 w11 h12
      rcases h12 with h12 | h12
      ·
        obtain ⟨rfl, rfl, hf13⟩ := h12
        show X 0 0 [(x, .inr (6, [.ref tw, .ref pw, .ref uw, .ref o, .ref hh, .ref rd, .ref bk, .ref pl, .ref asd, .ref fd, .int (nI wr), .int hi9])), (tw, .inr (3, [.ref tsk, .ref tkd, .ref tmo, .ref tlv, .ref ttc, .ref tts, .ref ttl, .int (nI ttn), .int trg, .long thp, .int (nI tlw)])), (ttc, .inl (cI, 4, .inl tcf)), (tts, .inl (cI, 4, .inl tsf)), (ttl, .inl (cI, 4, .inl ttf)), (pl, .inl (cS, 4, .inr (.inr (.inr (.inr plf))))), (sh, .inr (5, [.ref ra, .int so9, .int (nI nz)])), (ra, .inl (cI, 40, .inl g))] [(0, .ref x), (1, .int (nI j)), (2, .int t), (3, .int at9), (4, .int n)] 23 [.int 1]
        have hr14 := hf13
        obtain ⟨nn, hnn, rfl⟩ := q_w (n := 4) rfl (by decide) hf13
        have hnnn : o_n (nI nn) = nn := o_n_nI (by omega)
        refine x_if_ne C dX7_treesBy_23 (tgt := 29) rfl (fun _ => ?_) (fun q9 => by first | exact absurd q9 (by decide) | exact absurd (by decide) q9)
        refine x_aload_n C dX7_treesBy_29 0 rfl ?_
        refine x_get C inlX7 rfl 7 (by decide) gw_2_10 dX7_treesBy_30 0 rfl rfl ?_
        refine x_iload_n C dX7_treesBy_33 1 rfl ?_
        refine x_aaload C 3 rfl dX7_treesBy_34 j (q_cl rfl (by omega)) (q_ix rfl (by omega) (by omega)) 5 rfl (hsh j (by omega) rfl) ?_
        refine x_astore C dX7_treesBy_35 (by decide) (lv' := [(5, .ref sh), (0, .ref x), (1, .int (nI j)), (2, .int t), (3, .int at9), (4, .int (nI nn))]) rfl ?_
        refine x_aload C dX7_treesBy_37 0 rfl ?_
        refine x_callV C (As := []) (st := []) (wc := [(sh, .inr (5, [.ref ra, .int so9, .int (nI nz)]))]) (wr := [(x, .inr (6, [.ref tw, .ref pw, .ref uw, .ref o, .ref hh, .ref rd, .ref bk, .ref pl, .ref asd, .ref fd, .int (nI wr), .int hi9])), (tw, .inr (3, [.ref tsk, .ref tkd, .ref tmo, .ref tlv, .ref ttc, .ref tts, .ref ttl, .int (nI ttn), .int trg, .long thp, .int (nI tlw)])), (ttc, .inl (cI, 4, .inl tcf)), (tts, .inl (cI, 4, .inl tsf)), (ttl, .inl (cI, 4, .inl ttf)), (pl, .inl (cS, 4, .inr (.inr (.inr (.inr plf))))), (ra, .inl (cI, 40, .inl g))]) (c_X6_isMissing l dG cI cM cW cS sh ra so9 (nI nz) g ) rZ0_ok (fun _ _ _ _ => trivial) kV_X7_269 ⟨rfl, hy_X6_isMissing⟩ ⟨Nat.le_of_ble_eq_true rfl, Nat.le_of_ble_eq_true rfl⟩ ⟨Nat.le_of_ble_eq_true rfl, Nat.le_of_ble_eq_true rfl⟩ dX7_treesBy_39 6 rfl rfl [6] [0, 1, 2, 3, 4, 5, 7] rfl rfl rfl rfl (by decide) rfl (Nat.le_of_ble_eq_true rfl) ?_
        intro v15 w16 h17
        rcases h17 with h17 | h17
        ·
          obtain ⟨rfl, rfl, hf18⟩ := h17
          show X 0 0 [(x, .inr (6, [.ref tw, .ref pw, .ref uw, .ref o, .ref hh, .ref rd, .ref bk, .ref pl, .ref asd, .ref fd, .int (nI wr), .int hi9])), (tw, .inr (3, [.ref tsk, .ref tkd, .ref tmo, .ref tlv, .ref ttc, .ref tts, .ref ttl, .int (nI ttn), .int trg, .long thp, .int (nI tlw)])), (ttc, .inl (cI, 4, .inl tcf)), (tts, .inl (cI, 4, .inl tsf)), (ttl, .inl (cI, 4, .inl ttf)), (pl, .inl (cS, 4, .inr (.inr (.inr (.inr plf))))), (ra, .inl (cI, 40, .inl g)), (sh, .inr (5, [.ref ra, .int so9, .int (nI nz)]))] [(5, .ref sh), (0, .ref x), (1, .int (nI j)), (2, .int t), (3, .int at9), (4, .int (nI nn))] 42 [.int 1]
          refine x_if_eq C dX7_treesBy_42 (tgt := 48) rfl (fun q9 => absurd q9 (by decide)) (fun _ => ?_)
          refine x_bipush C dX7_treesBy_45 (v := (-11)) rfl ?_
          refine x_sub C [0, 1, 2, 3, 4, 5, 7, 6] (ws' := [(x, .inr (6, [.ref tw, .ref pw, .ref uw, .ref o, .ref hh, .ref rd, .ref bk, .ref pl, .ref asd, .ref fd, .int (nI wr), .int hi9])), (tw, .inr (3, [.ref tsk, .ref tkd, .ref tmo, .ref tlv, .ref ttc, .ref tts, .ref ttl, .int (nI ttn), .int trg, .long thp, .int (nI tlw)])), (ttc, .inl (cI, 4, .inl tcf)), (tts, .inl (cI, 4, .inl tsf)), (ttl, .inl (cI, 4, .inl ttf)), (pl, .inl (cS, 4, .inr (.inr (.inr (.inr plf))))), (sh, .inr (5, [.ref ra, .int so9, .int (nI nz)])), (ra, .inl (cI, 40, .inl g))]) rfl rfl ?_
          refine E dX7_treesBy_47 (rfl) ?_
          exact ⟨(-11), ttn, tcf, tsf, ttf, 0, rfl, rfl, by (unfold o_treesBy); (try simp only [hnj, hnnn]); (repeat (first | rw [if_pos (by first | (rw [if_pos (by decide)]; assumption) | (rw [if_neg (by decide), if_pos (by decide)]; assumption) | (rw [if_neg (by decide), if_neg (by decide)]; assumption) | assumption | decide | omega | exact o_one_t (by assumption) | (rw [o_one_f (by assumption)]; decide) | exact ⟨by assumption, by assumption⟩ | exact fun h9 => absurd h9.1 (by assumption) | exact fun h9 => absurd h9.2 (by assumption))] | rw [if_neg (by first | (rw [if_pos (by decide)]; assumption) | (rw [if_neg (by decide), if_pos (by decide)]; assumption) | (rw [if_neg (by decide), if_neg (by decide)]; assumption) | assumption | decide | omega | exact o_one_t (by assumption) | (rw [o_one_f (by assumption)]; decide) | exact ⟨by assumption, by assumption⟩ | exact fun h9 => absurd h9.1 (by assumption) | exact fun h9 => absurd h9.2 (by assumption))])); all_goals (first | rfl)⟩
        ·
          obtain ⟨rfl, rfl, hf19⟩ := h17
          show X 0 0 [(x, .inr (6, [.ref tw, .ref pw, .ref uw, .ref o, .ref hh, .ref rd, .ref bk, .ref pl, .ref asd, .ref fd, .int (nI wr), .int hi9])), (tw, .inr (3, [.ref tsk, .ref tkd, .ref tmo, .ref tlv, .ref ttc, .ref tts, .ref ttl, .int (nI ttn), .int trg, .long thp, .int (nI tlw)])), (ttc, .inl (cI, 4, .inl tcf)), (tts, .inl (cI, 4, .inl tsf)), (ttl, .inl (cI, 4, .inl ttf)), (pl, .inl (cS, 4, .inr (.inr (.inr (.inr plf))))), (ra, .inl (cI, 40, .inl g)), (sh, .inr (5, [.ref ra, .int so9, .int (nI nz)]))] [(5, .ref sh), (0, .ref x), (1, .int (nI j)), (2, .int t), (3, .int at9), (4, .int (nI nn))] 42 [.int 0]
          refine x_if_eq C dX7_treesBy_42 (tgt := 48) rfl (fun _ => ?_) (fun q9 => by first | exact absurd q9 (by decide) | exact absurd (by decide) q9)
          refine x_aload C dX7_treesBy_48 0 rfl ?_
          refine x_getN C inlX6 rfl 1 (by decide) nw_X7_277 dX7_treesBy_50 7 rfl rfl ?_
          refine x_iload_n C dX7_treesBy_53 3 rfl ?_
          refine x_icmp_eq C dX7_treesBy_54 (tgt := 60) rfl (fun c20 => ?_) (fun c20 => ?_)
          ·
            refine x_iconst C dX7_treesBy_60 (v := 0) rfl ?_
            refine x_istore C dX7_treesBy_61 (by decide) (lv' := [(6, .int 0), (5, .ref sh), (0, .ref x), (1, .int (nI j)), (2, .int t), (3, .int at9), (4, .int (nI nn))]) rfl ?_
            refine x_iconst C dX7_treesBy_63 (v := 0) rfl ?_
            refine x_istore C dX7_treesBy_64 (by decide) (lv' := [(7, .int 0), (6, .int 0), (5, .ref sh), (0, .ref x), (1, .int (nI j)), (2, .int t), (3, .int at9), (4, .int (nI nn))]) rfl ?_
            have L66_20 : ∀ (fuel : Nat) (k n1 e1 : Nat) (a1 b1 c1 : Nat → Int32), (hk : k ≤ nn) → (hn1 : n1 ≤ 4) → (hq : o_tbl g nz at9 (nn - k) k (n1, a1, b1, c1, e1) = o_tbl g nz at9 nn 0 (ttn, tcf, tsf, ttf, 0)) → nn - k < fuel → X 0 0 [(x, .inr (6, [.ref tw, .ref pw, .ref uw, .ref o, .ref hh, .ref rd, .ref bk, .ref pl, .ref asd, .ref fd, .int (nI wr), .int hi9])), (tw, .inr (3, [.ref tsk, .ref tkd, .ref tmo, .ref tlv, .ref ttc, .ref tts, .ref ttl, .int (nI n1), .int trg, .long thp, .int (nI tlw)])), (ttc, .inl (cI, 4, .inl a1)), (tts, .inl (cI, 4, .inl b1)), (ttl, .inl (cI, 4, .inl c1)), (pl, .inl (cS, 4, .inr (.inr (.inr (.inr plf))))), (sh, .inr (5, [.ref ra, .int so9, .int (nI nz)])), (ra, .inl (cI, 40, .inl g))] [(7, .int (nI k)), (6, .int (nI e1)), (5, .ref sh), (4, .int (nI nn)), (3, .int at9), (0, .ref x)] 66 [] := by
              intro fuel
              induction fuel with
              | zero => intros; omega
              | succ fuel ihL66_20 =>
                intro k n1 e1 a1 b1 c1 hk hn1 hq hfu
                refine x_iload C dX7_treesBy_66 0 rfl ?_
                refine x_iload C dX7_treesBy_68 3 rfl ?_
                refine x_icmp_ge C dX7_treesBy_70 (tgt := 148) rfl (fun c22 => ?_) (fun c22 => ?_)
                ·
                  have c22 : k ≥ nn := q_ge_t rfl rfl (by omega) (by omega) c22
                  refine x_iload C dX7_treesBy_148 1 rfl ?_
                  refine E dX7_treesBy_150 (rfl) ?_
                  exact ⟨(nI e1), n1, a1, b1, c1, e1, rfl, rfl, by rw [o_treesBy_l (by assumption) (by assumption) (by assumption) (by assumption) (by assumption) hnn, ← hq]; exact (o_tbl_e (q := (n1, a1, b1, c1, e1)) (show k = nn by omega)).symm⟩
                ·
                  have c22 : k < nn := q_ge_f rfl rfl (by omega) (by omega) c22
                  refine x_iload_n C dX7_treesBy_73 4 rfl ?_
                  refine x_iconst C dX7_treesBy_74 (v := 0) rfl ?_
                  refine x_aload C dX7_treesBy_75 2 rfl ?_
                  refine x_getN C inlX6 rfl 2 (by decide) nw_X7_273 dX7_treesBy_77 6 rfl rfl ?_
                  refine x_iconst C dX7_treesBy_80 (v := 3) rfl ?_
                  refine x_iload C dX7_treesBy_81 0 rfl ?_
                  refine x_imul C dX7_treesBy_83 ?_
                  refine x_isub C dX7_treesBy_84 ?_
                  refine x_iconst C dX7_treesBy_85 (v := 3) rfl ?_
                  refine x_isub C dX7_treesBy_86 ?_
                  show X _ _ _ _ 87 _
                  refine x_callS C (As := [.int at9, .int 0, .int (((nI nz) - (3 * (nI k))) - 3)]) (st := []) (wc := []) (wr := [(x, .inr (6, [.ref tw, .ref pw, .ref uw, .ref o, .ref hh, .ref rd, .ref bk, .ref pl, .ref asd, .ref fd, .int (nI wr), .int hi9])), (tw, .inr (3, [.ref tsk, .ref tkd, .ref tmo, .ref tlv, .ref ttc, .ref tts, .ref ttl, .int (nI n1), .int trg, .long thp, .int (nI tlw)])), (ttc, .inl (cI, 4, .inl a1)), (tts, .inl (cI, 4, .inl b1)), (ttl, .inl (cI, 4, .inl c1)), (pl, .inl (cS, 4, .inr (.inr (.inr (.inr plf))))), (sh, .inr (5, [.ref ra, .int so9, .int (nI nz)])), (ra, .inl (cI, 40, .inl g))]) (c_X7_within l dG cI cM cW cS at9 0 (((nI nz) - (3 * (nI k))) - 3) ) rZ0_ok (fun _ _ _ _ => trivial) kS_X7_92 hy_X7_within ⟨Nat.le_of_ble_eq_true rfl, Nat.le_of_ble_eq_true rfl⟩ ⟨Nat.le_of_ble_eq_true rfl, Nat.le_of_ble_eq_true rfl⟩ dX7_treesBy_87 [] [0, 1, 2, 3, 4, 5, 6, 7] rfl rfl rfl rfl (by decide) rfl (Nat.le_of_ble_eq_true rfl) ?_
                  intro v23 w24 h25
                  rcases h25 with h25 | h25
                  ·
                    obtain ⟨rfl, rfl, hf26⟩ := h25
                    show X 0 0 [(x, .inr (6, [.ref tw, .ref pw, .ref uw, .ref o, .ref hh, .ref rd, .ref bk, .ref pl, .ref asd, .ref fd, .int (nI wr), .int hi9])), (tw, .inr (3, [.ref tsk, .ref tkd, .ref tmo, .ref tlv, .ref ttc, .ref tts, .ref ttl, .int (nI n1), .int trg, .long thp, .int (nI tlw)])), (ttc, .inl (cI, 4, .inl a1)), (tts, .inl (cI, 4, .inl b1)), (ttl, .inl (cI, 4, .inl c1)), (pl, .inl (cS, 4, .inr (.inr (.inr (.inr plf))))), (sh, .inr (5, [.ref ra, .int so9, .int (nI nz)])), (ra, .inl (cI, 40, .inl g))] [(7, .int (nI k)), (6, .int (nI e1)), (5, .ref sh), (4, .int (nI nn)), (3, .int at9), (0, .ref x)] 90 [.int 1]
                    have hv9 := hf26
                    obtain ⟨p, hp, hp3⟩ := q_at3 hnz (show k ≤ 4 by omega) hf26
                    refine x_if_ne C dX7_treesBy_90 (tgt := 96) rfl (fun _ => ?_) (fun q9 => by first | exact absurd q9 (by decide) | exact absurd (by decide) q9)
                    refine x_iload_n C dX7_treesBy_96 4 rfl ?_
                    refine x_topi C (nI p) hp ?_
                    refine x_iconst C dX7_treesBy_97 (v := 3) rfl ?_
                    refine x_iload C dX7_treesBy_98 0 rfl ?_
                    refine x_imul C dX7_treesBy_100 ?_
                    refine x_iadd C dX7_treesBy_101 ?_
                    refine x_istore C dX7_treesBy_102 (by decide) (lv' := [(8, .int ((nI p) + (3 * (nI k)))), (7, .int (nI k)), (6, .int (nI e1)), (5, .ref sh), (4, .int (nI nn)), (3, .int at9), (0, .ref x)]) rfl ?_
                    refine x_aload_n C dX7_treesBy_104 6 rfl ?_
                    refine x_aload C dX7_treesBy_105 3 rfl ?_
                    refine x_getN C inlX6 rfl 0 (by decide) nw_X7_252 dX7_treesBy_107 6 rfl rfl ?_
                    show X _ _ _ _ 110 _
                    refine x_iload C dX7_treesBy_110 0 rfl ?_
                    refine x_iaload C 0 rfl dX7_treesBy_112 (p + (3 * k)) (q_cl (q_iadd (a := p) (b := 3 * k) rfl (q_imul (a := 3) (b := k) (rfl : (3 : Int32) = nI 3) rfl)) (by omega)) (q_ix (q_iadd (a := p) (b := 3 * k) rfl (q_imul (a := 3) (b := k) (rfl : (3 : Int32) = nI 3) rfl)) (by omega) (by omega)) 7 rfl ?_
                    refine x_aload C dX7_treesBy_113 3 rfl ?_
                    refine x_getN C inlX6 rfl 0 (by decide) nw_X7_252 dX7_treesBy_115 6 rfl rfl ?_
                    refine x_iload C dX7_treesBy_118 0 rfl ?_
                    refine x_iconst C dX7_treesBy_120 (v := 1) rfl ?_
                    refine x_iadd C dX7_treesBy_121 ?_
                    refine x_iaload C 0 rfl dX7_treesBy_122 ((p + (3 * k)) + 1) (q_cl (q_iadd (a := p + (3 * k)) (b := 1) (q_iadd (a := p) (b := 3 * k) rfl (q_imul (a := 3) (b := k) (rfl : (3 : Int32) = nI 3) rfl)) (rfl : (1 : Int32) = nI 1)) (by omega)) (q_ix (q_iadd (a := p + (3 * k)) (b := 1) (q_iadd (a := p) (b := 3 * k) rfl (q_imul (a := 3) (b := k) (rfl : (3 : Int32) = nI 3) rfl)) (rfl : (1 : Int32) = nI 1)) (by omega) (by omega)) 7 rfl ?_
                    refine x_aload C dX7_treesBy_123 3 rfl ?_
                    refine x_getN C inlX6 rfl 0 (by decide) nw_X7_252 dX7_treesBy_125 6 rfl rfl ?_
                    show X _ _ _ _ 128 _
                    refine x_iload C dX7_treesBy_128 0 rfl ?_
                    refine x_iconst C dX7_treesBy_130 (v := 2) rfl ?_
                    refine x_iadd C dX7_treesBy_131 ?_
                    refine x_iaload C 0 rfl dX7_treesBy_132 ((p + (3 * k)) + 2) (q_cl (q_iadd (a := p + (3 * k)) (b := 2) (q_iadd (a := p) (b := 3 * k) rfl (q_imul (a := 3) (b := k) (rfl : (3 : Int32) = nI 3) rfl)) (rfl : (2 : Int32) = nI 2)) (by omega)) (q_ix (q_iadd (a := p + (3 * k)) (b := 2) (q_iadd (a := p) (b := 3 * k) rfl (q_imul (a := 3) (b := k) (rfl : (3 : Int32) = nI 3) rfl)) (rfl : (2 : Int32) = nI 2)) (by omega) (by omega)) 7 rfl ?_
                    refine x_callV C (As := [.int (g (p + (3 * k))), .int (g ((p + (3 * k)) + 1)), .int (g ((p + (3 * k)) + 2))]) (st := []) (wc := [(x, .inr (6, [.ref tw, .ref pw, .ref uw, .ref o, .ref hh, .ref rd, .ref bk, .ref pl, .ref asd, .ref fd, .int (nI wr), .int hi9])), (tw, .inr (3, [.ref tsk, .ref tkd, .ref tmo, .ref tlv, .ref ttc, .ref tts, .ref ttl, .int (nI n1), .int trg, .long thp, .int (nI tlw)])), (ttc, .inl (cI, 4, .inl a1)), (tts, .inl (cI, 4, .inl b1)), (ttl, .inl (cI, 4, .inl c1))]) (wr := [(pl, .inl (cS, 4, .inr (.inr (.inr (.inr plf))))), (sh, .inr (5, [.ref ra, .int so9, .int (nI nz)])), (ra, .inl (cI, 40, .inl g))]) (c_X7_tree l dG cI cM cW cS x pw uw o hh rd bk pl asd fd wr hi9 tw tsk tkd tmo tlv ttc tts ttl ts0 ts1 ts2 ts3 n1 tlw trg thp tR0 tR1 tR2 tR3 tkf tmf tlf a1 b1 c1 (g (p + (3 * k))) (g ((p + (3 * k)) + 1)) (g ((p + (3 * k)) + 2)) (by first | assumption | omega | decide)) rZ0_ok (fun _ _ _ _ => trivial) kV_X7_286 ⟨rfl, hy_X7_tree⟩ ⟨Nat.le_of_ble_eq_true rfl, Nat.le_of_ble_eq_true rfl⟩ ⟨Nat.le_of_ble_eq_true rfl, Nat.le_of_ble_eq_true rfl⟩ dX7_treesBy_133 0 rfl rfl [0, 1, 2, 3, 4] [5, 6, 7] rfl rfl rfl rfl (by decide) rfl (Nat.le_of_ble_eq_true rfl) ?_
                    intro v27 w28 h29
                    obtain ⟨r_30, n_31, a_32, b_33, c_34, rfl, rfl, hf35⟩ := h29
                    show X 0 0 [(pl, .inl (cS, 4, .inr (.inr (.inr (.inr plf))))), (sh, .inr (5, [.ref ra, .int so9, .int (nI nz)])), (ra, .inl (cI, 40, .inl g)), (x, .inr (6, [.ref tw, .ref pw, .ref uw, .ref o, .ref hh, .ref rd, .ref bk, .ref pl, .ref asd, .ref fd, .int (nI wr), .int hi9])), (tw, .inr (3, [.ref tsk, .ref tkd, .ref tmo, .ref tlv, .ref ttc, .ref tts, .ref ttl, .int (nI n_31), .int trg, .long thp, .int (nI tlw)])), (ttc, .inl (cI, 4, .inl a_32)), (tts, .inl (cI, 4, .inl b_33)), (ttl, .inl (cI, 4, .inl c_34))] [(8, .int ((nI p) + (3 * (nI k)))), (7, .int (nI k)), (6, .int (nI e1)), (5, .ref sh), (4, .int (nI nn)), (3, .int at9), (0, .ref x)] 136 [.int r_30]
                    simp only [Prod.mk.injEq] at hf35
                    obtain ⟨rfl, rfl, rfl, rfl, rfl⟩ := hf35
                    show X 0 0 [(pl, .inl (cS, 4, .inr (.inr (.inr (.inr plf))))), (sh, .inr (5, [.ref ra, .int so9, .int (nI nz)])), (ra, .inl (cI, 40, .inl g)), (x, .inr (6, [.ref tw, .ref pw, .ref uw, .ref o, .ref hh, .ref rd, .ref bk, .ref pl, .ref asd, .ref fd, .int (nI wr), .int hi9])), (tw, .inr (3, [.ref tsk, .ref tkd, .ref tmo, .ref tlv, .ref ttc, .ref tts, .ref ttl, .int (nI (o_tree_n n1 (g (p + 3 * k)) (g (p + 3 * k + 1)) (g (p + 3 * k + 2)))), .int trg, .long thp, .int (nI tlw)])), (ttc, .inl (cI, 4, .inl (o_tree_f a1 n1 (g (p + 3 * k)) (g (p + 3 * k + 1)) (g (p + 3 * k + 2)) (g (p + 3 * k))))), (tts, .inl (cI, 4, .inl (o_tree_f b1 n1 (g (p + 3 * k)) (g (p + 3 * k + 1)) (g (p + 3 * k + 2)) (g (p + 3 * k + 1))))), (ttl, .inl (cI, 4, .inl (o_tree_f c1 n1 (g (p + 3 * k)) (g (p + 3 * k + 1)) (g (p + 3 * k + 2)) (g (p + 3 * k + 2)))))] [(8, .int ((nI p) + (3 * (nI k)))), (7, .int (nI k)), (6, .int (nI e1)), (5, .ref sh), (4, .int (nI nn)), (3, .int at9), (0, .ref x)] 136 [.int (o_tree n1 (g (p + 3 * k)) (g (p + 3 * k + 1)) (g (p + 3 * k + 2)))]
                    refine x_if_lt C dX7_treesBy_136 (tgt := 142) rfl (fun c36 => ?_) (fun c36 => ?_)
                    ·
                      have hlt : o_tree n1 (g (p + 3 * k)) (g (p + 3 * k + 1)) (g (p + 3 * k + 2)) < 0 := c36
                      refine x_iinc C dX7_treesBy_142 1 rfl (v := nI (k + 1)) (nI_1 _) (by decide) (lv' := [(7, .int (nI (k + 1))), (8, .int ((nI p) + (3 * (nI k)))), (6, .int (nI e1)), (5, .ref sh), (4, .int (nI nn)), (3, .int at9), (0, .ref x)]) rfl ?_
                      refine x_goto C dX7_treesBy_145 (tgt := 66) rfl ?_
                      refine x_lv C [0, 2, 3, 4, 5, 6] (lv' := [(7, .int (nI (k + 1))), (6, .int (nI e1)), (5, .ref sh), (4, .int (nI nn)), (3, .int at9), (0, .ref x)]) rfl ?_
                      refine x_sub C [3, 4, 5, 6, 7, 0, 1, 2] (ws' := [(x, .inr (6, [.ref tw, .ref pw, .ref uw, .ref o, .ref hh, .ref rd, .ref bk, .ref pl, .ref asd, .ref fd, .int (nI wr), .int hi9])), (tw, .inr (3, [.ref tsk, .ref tkd, .ref tmo, .ref tlv, .ref ttc, .ref tts, .ref ttl, .int (nI (o_tree_n n1 (g (p + 3 * k)) (g (p + 3 * k + 1)) (g (p + 3 * k + 2)))), .int trg, .long thp, .int (nI tlw)])), (ttc, .inl (cI, 4, .inl (o_tree_f a1 n1 (g (p + 3 * k)) (g (p + 3 * k + 1)) (g (p + 3 * k + 2)) (g (p + 3 * k))))), (tts, .inl (cI, 4, .inl (o_tree_f b1 n1 (g (p + 3 * k)) (g (p + 3 * k + 1)) (g (p + 3 * k + 2)) (g (p + 3 * k + 1))))), (ttl, .inl (cI, 4, .inl (o_tree_f c1 n1 (g (p + 3 * k)) (g (p + 3 * k + 1)) (g (p + 3 * k + 2)) (g (p + 3 * k + 2))))), (pl, .inl (cS, 4, .inr (.inr (.inr (.inr plf))))), (sh, .inr (5, [.ref ra, .int so9, .int (nI nz)])), (ra, .inl (cI, 40, .inl g))]) rfl rfl ?_
                      exact ihL66_20 (k + 1) (o_tree_n n1 (g (p + 3 * k)) (g (p + 3 * k + 1)) (g (p + 3 * k + 2))) e1 (o_tree_f a1 n1 (g (p + 3 * k)) (g (p + 3 * k + 1)) (g (p + 3 * k + 2)) (g (p + 3 * k))) (o_tree_f b1 n1 (g (p + 3 * k)) (g (p + 3 * k + 1)) (g (p + 3 * k + 2)) (g (p + 3 * k + 1))) (o_tree_f c1 n1 (g (p + 3 * k)) (g (p + 3 * k + 1)) (g (p + 3 * k + 2)) (g (p + 3 * k + 2))) (by omega) (o_tree_n_le hn1) (by rw [← hq]; exact o_tbl_s (by omega) hv9 hp (by omega) (by first | exact (if_pos hlt).symm | exact (if_neg hlt).symm)) (by omega)
                    ·
                      have hlt : ¬ o_tree n1 (g (p + 3 * k)) (g (p + 3 * k + 1)) (g (p + 3 * k + 2)) < 0 := c36
                      refine x_iinc C dX7_treesBy_139 2 rfl (v := nI (e1 + 1)) (nI_1 _) (by decide) (lv' := [(6, .int (nI (e1 + 1))), (8, .int ((nI p) + (3 * (nI k)))), (7, .int (nI k)), (5, .ref sh), (4, .int (nI nn)), (3, .int at9), (0, .ref x)]) rfl ?_
                      refine x_iinc C dX7_treesBy_142 2 rfl (v := nI (k + 1)) (nI_1 _) (by decide) (lv' := [(7, .int (nI (k + 1))), (6, .int (nI (e1 + 1))), (8, .int ((nI p) + (3 * (nI k)))), (5, .ref sh), (4, .int (nI nn)), (3, .int at9), (0, .ref x)]) rfl ?_
                      refine x_goto C dX7_treesBy_145 (tgt := 66) rfl ?_
                      refine x_lv C [0, 1, 3, 4, 5, 6] (lv' := [(7, .int (nI (k + 1))), (6, .int (nI (e1 + 1))), (5, .ref sh), (4, .int (nI nn)), (3, .int at9), (0, .ref x)]) rfl ?_
                      refine x_sub C [3, 4, 5, 6, 7, 0, 1, 2] (ws' := [(x, .inr (6, [.ref tw, .ref pw, .ref uw, .ref o, .ref hh, .ref rd, .ref bk, .ref pl, .ref asd, .ref fd, .int (nI wr), .int hi9])), (tw, .inr (3, [.ref tsk, .ref tkd, .ref tmo, .ref tlv, .ref ttc, .ref tts, .ref ttl, .int (nI (o_tree_n n1 (g (p + 3 * k)) (g (p + 3 * k + 1)) (g (p + 3 * k + 2)))), .int trg, .long thp, .int (nI tlw)])), (ttc, .inl (cI, 4, .inl (o_tree_f a1 n1 (g (p + 3 * k)) (g (p + 3 * k + 1)) (g (p + 3 * k + 2)) (g (p + 3 * k))))), (tts, .inl (cI, 4, .inl (o_tree_f b1 n1 (g (p + 3 * k)) (g (p + 3 * k + 1)) (g (p + 3 * k + 2)) (g (p + 3 * k + 1))))), (ttl, .inl (cI, 4, .inl (o_tree_f c1 n1 (g (p + 3 * k)) (g (p + 3 * k + 1)) (g (p + 3 * k + 2)) (g (p + 3 * k + 2))))), (pl, .inl (cS, 4, .inr (.inr (.inr (.inr plf))))), (sh, .inr (5, [.ref ra, .int so9, .int (nI nz)])), (ra, .inl (cI, 40, .inl g))]) rfl rfl ?_
                      exact ihL66_20 (k + 1) (o_tree_n n1 (g (p + 3 * k)) (g (p + 3 * k + 1)) (g (p + 3 * k + 2))) (e1 + 1) (o_tree_f a1 n1 (g (p + 3 * k)) (g (p + 3 * k + 1)) (g (p + 3 * k + 2)) (g (p + 3 * k))) (o_tree_f b1 n1 (g (p + 3 * k)) (g (p + 3 * k + 1)) (g (p + 3 * k + 2)) (g (p + 3 * k + 1))) (o_tree_f c1 n1 (g (p + 3 * k)) (g (p + 3 * k + 1)) (g (p + 3 * k + 2)) (g (p + 3 * k + 2))) (by omega) (o_tree_n_le hn1) (by rw [← hq]; exact o_tbl_s (by omega) hv9 hp (by omega) (by first | exact (if_pos hlt).symm | exact (if_neg hlt).symm)) (by omega)
                  ·
                    obtain ⟨rfl, rfl, hf37⟩ := h25
                    show X 0 0 [(x, .inr (6, [.ref tw, .ref pw, .ref uw, .ref o, .ref hh, .ref rd, .ref bk, .ref pl, .ref asd, .ref fd, .int (nI wr), .int hi9])), (tw, .inr (3, [.ref tsk, .ref tkd, .ref tmo, .ref tlv, .ref ttc, .ref tts, .ref ttl, .int (nI n1), .int trg, .long thp, .int (nI tlw)])), (ttc, .inl (cI, 4, .inl a1)), (tts, .inl (cI, 4, .inl b1)), (ttl, .inl (cI, 4, .inl c1)), (pl, .inl (cS, 4, .inr (.inr (.inr (.inr plf))))), (sh, .inr (5, [.ref ra, .int so9, .int (nI nz)])), (ra, .inl (cI, 40, .inl g))] [(7, .int (nI k)), (6, .int (nI e1)), (5, .ref sh), (4, .int (nI nn)), (3, .int at9), (0, .ref x)] 90 [.int 0]
                    have hv9 := hf37
                    refine x_if_ne C dX7_treesBy_90 (tgt := 96) rfl (fun q9 => absurd q9 (by decide)) (fun _ => ?_)
                    refine x_bipush C dX7_treesBy_93 (v := (-12)) rfl ?_
                    refine E dX7_treesBy_95 (rfl) ?_
                    exact ⟨(-12), n1, a1, b1, c1, e1, rfl, rfl, by rw [o_treesBy_l (by assumption) (by assumption) (by assumption) (by assumption) (by assumption) hnn, ← hq]; exact (o_tbl_x (by assumption) hv9).symm⟩
            refine x_lv C [0, 1, 2, 7, 6, 3] (lv' := [(7, .int 0), (6, .int 0), (5, .ref sh), (4, .int (nI nn)), (3, .int at9), (0, .ref x)]) rfl ?_
            refine x_sub C [0, 1, 2, 3, 4, 5, 7, 6] (ws' := [(x, .inr (6, [.ref tw, .ref pw, .ref uw, .ref o, .ref hh, .ref rd, .ref bk, .ref pl, .ref asd, .ref fd, .int (nI wr), .int hi9])), (tw, .inr (3, [.ref tsk, .ref tkd, .ref tmo, .ref tlv, .ref ttc, .ref tts, .ref ttl, .int (nI ttn), .int trg, .long thp, .int (nI tlw)])), (ttc, .inl (cI, 4, .inl tcf)), (tts, .inl (cI, 4, .inl tsf)), (ttl, .inl (cI, 4, .inl ttf)), (pl, .inl (cS, 4, .inr (.inr (.inr (.inr plf))))), (sh, .inr (5, [.ref ra, .int so9, .int (nI nz)])), (ra, .inl (cI, 40, .inl g))]) rfl rfl ?_
            show X 0 0 [(x, .inr (6, [.ref tw, .ref pw, .ref uw, .ref o, .ref hh, .ref rd, .ref bk, .ref pl, .ref asd, .ref fd, .int (nI wr), .int hi9])), (tw, .inr (3, [.ref tsk, .ref tkd, .ref tmo, .ref tlv, .ref ttc, .ref tts, .ref ttl, .int (nI ttn), .int trg, .long thp, .int (nI tlw)])), (ttc, .inl (cI, 4, .inl tcf)), (tts, .inl (cI, 4, .inl tsf)), (ttl, .inl (cI, 4, .inl ttf)), (pl, .inl (cS, 4, .inr (.inr (.inr (.inr plf))))), (sh, .inr (5, [.ref ra, .int so9, .int (nI nz)])), (ra, .inl (cI, 40, .inl g))] [(7, .int (nI 0)), (6, .int (nI 0)), (5, .ref sh), (4, .int (nI nn)), (3, .int at9), (0, .ref x)] 66 []
            exact L66_20 ((nn - 0) + 1) 0 ttn 0 tcf tsf ttf (Nat.zero_le _) (htn) (rfl) (Nat.lt_succ_self _)
          ·
            refine x_bipush C dX7_treesBy_57 (v := (-13)) rfl ?_
            refine x_sub C [0, 1, 2, 3, 4, 5, 7, 6] (ws' := [(x, .inr (6, [.ref tw, .ref pw, .ref uw, .ref o, .ref hh, .ref rd, .ref bk, .ref pl, .ref asd, .ref fd, .int (nI wr), .int hi9])), (tw, .inr (3, [.ref tsk, .ref tkd, .ref tmo, .ref tlv, .ref ttc, .ref tts, .ref ttl, .int (nI ttn), .int trg, .long thp, .int (nI tlw)])), (ttc, .inl (cI, 4, .inl tcf)), (tts, .inl (cI, 4, .inl tsf)), (ttl, .inl (cI, 4, .inl ttf)), (pl, .inl (cS, 4, .inr (.inr (.inr (.inr plf))))), (sh, .inr (5, [.ref ra, .int so9, .int (nI nz)])), (ra, .inl (cI, 40, .inl g))]) rfl rfl ?_
            refine E dX7_treesBy_59 (rfl) ?_
            exact ⟨(-13), ttn, tcf, tsf, ttf, 0, rfl, rfl, by (unfold o_treesBy); (try simp only [hnj, hnnn]); (repeat (first | rw [if_pos (by first | (rw [if_pos (by decide)]; assumption) | (rw [if_neg (by decide), if_pos (by decide)]; assumption) | (rw [if_neg (by decide), if_neg (by decide)]; assumption) | assumption | decide | omega | exact o_one_t (by assumption) | (rw [o_one_f (by assumption)]; decide) | exact ⟨by assumption, by assumption⟩ | exact fun h9 => absurd h9.1 (by assumption) | exact fun h9 => absurd h9.2 (by assumption))] | rw [if_neg (by first | (rw [if_pos (by decide)]; assumption) | (rw [if_neg (by decide), if_pos (by decide)]; assumption) | (rw [if_neg (by decide), if_neg (by decide)]; assumption) | assumption | decide | omega | exact o_one_t (by assumption) | (rw [o_one_f (by assumption)]; decide) | exact ⟨by assumption, by assumption⟩ | exact fun h9 => absurd h9.1 (by assumption) | exact fun h9 => absurd h9.2 (by assumption))])); all_goals (first | rfl)⟩
      ·
        obtain ⟨rfl, rfl, hf38⟩ := h12
        show X 0 0 [(x, .inr (6, [.ref tw, .ref pw, .ref uw, .ref o, .ref hh, .ref rd, .ref bk, .ref pl, .ref asd, .ref fd, .int (nI wr), .int hi9])), (tw, .inr (3, [.ref tsk, .ref tkd, .ref tmo, .ref tlv, .ref ttc, .ref tts, .ref ttl, .int (nI ttn), .int trg, .long thp, .int (nI tlw)])), (ttc, .inl (cI, 4, .inl tcf)), (tts, .inl (cI, 4, .inl tsf)), (ttl, .inl (cI, 4, .inl ttf)), (pl, .inl (cS, 4, .inr (.inr (.inr (.inr plf))))), (sh, .inr (5, [.ref ra, .int so9, .int (nI nz)])), (ra, .inl (cI, 40, .inl g))] [(0, .ref x), (1, .int (nI j)), (2, .int t), (3, .int at9), (4, .int n)] 23 [.int 0]
        refine x_if_ne C dX7_treesBy_23 (tgt := 29) rfl (fun q9 => absurd q9 (by decide)) (fun _ => ?_)
        refine x_bipush C dX7_treesBy_26 (v := (-2)) rfl ?_
        refine E dX7_treesBy_28 (rfl) ?_
        exact ⟨(-2), ttn, tcf, tsf, ttf, 0, rfl, rfl, by (unfold o_treesBy); (try simp only [hnj]); (repeat (first | rw [if_pos (by first | (rw [if_pos (by decide)]; assumption) | (rw [if_neg (by decide), if_pos (by decide)]; assumption) | (rw [if_neg (by decide), if_neg (by decide)]; assumption) | assumption | decide | omega | exact o_one_t (by assumption) | (rw [o_one_f (by assumption)]; decide) | exact ⟨by assumption, by assumption⟩ | exact fun h9 => absurd h9.1 (by assumption) | exact fun h9 => absurd h9.2 (by assumption))] | rw [if_neg (by first | (rw [if_pos (by decide)]; assumption) | (rw [if_neg (by decide), if_pos (by decide)]; assumption) | (rw [if_neg (by decide), if_neg (by decide)]; assumption) | assumption | decide | omega | exact o_one_t (by assumption) | (rw [o_one_f (by assumption)]; decide) | exact ⟨by assumption, by assumption⟩ | exact fun h9 => absurd h9.1 (by assumption) | exact fun h9 => absurd h9.2 (by assumption))])); all_goals (first | rfl)⟩
    ·
      obtain ⟨rfl, rfl, hf39⟩ := h8
      show X 0 0 [(x, .inr (6, [.ref tw, .ref pw, .ref uw, .ref o, .ref hh, .ref rd, .ref bk, .ref pl, .ref asd, .ref fd, .int (nI wr), .int hi9])), (tw, .inr (3, [.ref tsk, .ref tkd, .ref tmo, .ref tlv, .ref ttc, .ref tts, .ref ttl, .int (nI ttn), .int trg, .long thp, .int (nI tlw)])), (ttc, .inl (cI, 4, .inl tcf)), (tts, .inl (cI, 4, .inl tsf)), (ttl, .inl (cI, 4, .inl ttf)), (pl, .inl (cS, 4, .inr (.inr (.inr (.inr plf))))), (sh, .inr (5, [.ref ra, .int so9, .int (nI nz)])), (ra, .inl (cI, 40, .inl g))] [(0, .ref x), (1, .int (nI j)), (2, .int t), (3, .int at9), (4, .int n)] 13 [.int 0]
      refine x_if_eq C dX7_treesBy_13 (tgt := 26) rfl (fun _ => ?_) (fun q9 => by first | exact absurd q9 (by decide) | exact absurd (by decide) q9)
      refine x_bipush C dX7_treesBy_26 (v := (-2)) rfl ?_
      refine E dX7_treesBy_28 (rfl) ?_
      exact ⟨(-2), ttn, tcf, tsf, ttf, 0, rfl, rfl, by (unfold o_treesBy); (try simp only [hnj]); (repeat (first | rw [if_pos (by first | (rw [if_pos (by decide)]; assumption) | (rw [if_neg (by decide), if_pos (by decide)]; assumption) | (rw [if_neg (by decide), if_neg (by decide)]; assumption) | assumption | decide | omega | exact o_one_t (by assumption) | (rw [o_one_f (by assumption)]; decide) | exact ⟨by assumption, by assumption⟩ | exact fun h9 => absurd h9.1 (by assumption) | exact fun h9 => absurd h9.2 (by assumption))] | rw [if_neg (by first | (rw [if_pos (by decide)]; assumption) | (rw [if_neg (by decide), if_pos (by decide)]; assumption) | (rw [if_neg (by decide), if_neg (by decide)]; assumption) | assumption | decide | omega | exact o_one_t (by assumption) | (rw [o_one_f (by assumption)]; decide) | exact ⟨by assumption, by assumption⟩ | exact fun h9 => absurd h9.1 (by assumption) | exact fun h9 => absurd h9.2 (by assumption))])); all_goals (first | rfl)⟩
  ·
    obtain ⟨rfl, rfl, hf40⟩ := h3
    show X 0 0 [(x, .inr (6, [.ref tw, .ref pw, .ref uw, .ref o, .ref hh, .ref rd, .ref bk, .ref pl, .ref asd, .ref fd, .int (nI wr), .int hi9])), (tw, .inr (3, [.ref tsk, .ref tkd, .ref tmo, .ref tlv, .ref ttc, .ref tts, .ref ttl, .int (nI ttn), .int trg, .long thp, .int (nI tlw)])), (ttc, .inl (cI, 4, .inl tcf)), (tts, .inl (cI, 4, .inl tsf)), (ttl, .inl (cI, 4, .inl ttf)), (pl, .inl (cS, 4, .inr (.inr (.inr (.inr plf))))), (sh, .inr (5, [.ref ra, .int so9, .int (nI nz)])), (ra, .inl (cI, 40, .inl g))] [(0, .ref x), (1, .int s), (2, .int t), (3, .int at9), (4, .int n)] 4 [.int 0]
    refine x_if_eq C dX7_treesBy_4 (tgt := 26) rfl (fun _ => ?_) (fun q9 => by first | exact absurd q9 (by decide) | exact absurd (by decide) q9)
    refine x_bipush C dX7_treesBy_26 (v := (-2)) rfl ?_
    refine E dX7_treesBy_28 (rfl) ?_
    exact ⟨(-2), ttn, tcf, tsf, ttf, 0, rfl, rfl, by (unfold o_treesBy); (repeat (first | rw [if_pos (by first | (rw [if_pos (by decide)]; assumption) | (rw [if_neg (by decide), if_pos (by decide)]; assumption) | (rw [if_neg (by decide), if_neg (by decide)]; assumption) | assumption | decide | omega | exact o_one_t (by assumption) | (rw [o_one_f (by assumption)]; decide) | exact ⟨by assumption, by assumption⟩ | exact fun h9 => absurd h9.1 (by assumption) | exact fun h9 => absurd h9.2 (by assumption))] | rw [if_neg (by first | (rw [if_pos (by decide)]; assumption) | (rw [if_neg (by decide), if_pos (by decide)]; assumption) | (rw [if_neg (by decide), if_neg (by decide)]; assumption) | assumption | decide | omega | exact o_one_t (by assumption) | (rw [o_one_f (by assumption)]; decide) | exact ⟨by assumption, by assumption⟩ | exact fun h9 => absurd h9.1 (by assumption) | exact fun h9 => absurd h9.2 (by assumption))])); all_goals (first | rfl)⟩
