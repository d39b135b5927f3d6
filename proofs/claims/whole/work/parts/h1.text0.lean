/-- the first text on the tape, i bytes of it -/
def zT0 (i : Nat) : sF := fun j => if j < i then zbyt 0 j else 0
theorem zT0_0 : ∀ j, (fun _ => 0 : sF) j = zT0 0 j := fun j => (if_neg (Nat.not_lt_zero j)).symm
theorem zT0_s {tp : sF} {i : Nat} (h : ∀ j, tp j = zT0 i j) : ∀ j, upd tp i (zbyt 0 i) j = zT0 (i + 1) j := fun j => by
  unfold zT0
  by_cases e : j = i
  · subst e
    rw [pk_us, if_pos (Nat.lt_succ_self _)]
  · rw [pk_un e, h j]
    unfold zT0
    by_cases e2 : j < i
    · rw [if_pos e2, if_pos (by omega)]
    · rw [if_neg e2, if_neg (by omega)]
theorem zT_ok : (p_txt (zT0 80) 80).1 = true := by decide +kernel
theorem z_len0 : zlen 0 = 80 := by decide +kernel
theorem z_two : ∀ j, j < 80 → zbyt 2 j = zbyt 0 j := by decide +kernel
theorem z_len2 : zlen 2 = 80 := by decide +kernel
