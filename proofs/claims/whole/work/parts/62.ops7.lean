theorem q_w10 {n : Int32} (h : 1 ≤ n ∧ n ≤ 10) : ∃ j, 1 ≤ j ∧ j ≤ 10 ∧ n = nI j := by
  obtain ⟨j, hj, rfl⟩ := q_w (n := 10) rfl (by decide) ⟨Int32.le_trans (by decide) h.1, h.2⟩
  refine ⟨j, ?_, hj, rfl⟩
  exact (nI_leI (a := 1) (by decide) (by omega)).mp h.1
def o_od (G : sG) (sd : Nat) (most : Int32) : Nat → Nat
  | 0 => 0
  | k + 1 => if o_tot 4 (s_gone (o_dr G (sd + k)) 14) 0 ≤ most then o_od G sd most k + 1 else o_od G sd most k
theorem o_od_le (G : sG) (sd : Nat) (most : Int32) : ∀ k, o_od G sd most k ≤ k
  | 0 => Nat.le_refl 0
  | k + 1 => by
    have h := o_od_le G sd most k
    unfold o_od
    split <;> omega
theorem o_od_t {G : sG} {sd k : Nat} {most : Int32} {s : sS} (hS : s_gone (o_dr G (sd + k)) 14 = s) (h : s_sum (fun j => s.1 j + s.2.1 j) 36 ≤ most) : o_od G sd most (k + 1) = o_od G sd most k + 1 := by
  rw [o_od, hS]
  exact if_pos h
theorem o_od_f {G : sG} {sd k : Nat} {most : Int32} {s : sS} (hS : s_gone (o_dr G (sd + k)) 14 = s) (h : ¬ s_sum (fun j => s.1 j + s.2.1 j) 36 ≤ most) : o_od G sd most (k + 1) = o_od G sd most k := by
  rw [o_od, hS]
  exact if_neg h
def o_odds (G : sG) (sd n most p : Int32) : Int64 := if 0 ≤ sd ∧ sd ≤ 99999 then if 1 ≤ n ∧ n ≤ 10 then if 0 ≤ most ∧ most ≤ 9999 then if 0 ≤ p ∧ p ≤ 1 then s_low (o_od G (o_n sd) most (o_n n)) (o_n n) p else -4611686018427387904 else -4611686018427387904 else -4611686018427387904 else -4611686018427387904
