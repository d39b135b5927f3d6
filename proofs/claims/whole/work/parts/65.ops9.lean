def o_share (G : sG) (n w p : Int32) : Int64 := if 0 ≤ n ∧ n ≤ 14 then if 0 ≤ w ∧ w ≤ 3 then if 0 ≤ p ∧ p ≤ 1 then if s_sum (o_lv G) 36 + s_sum (s_fl G) (o_n n) = 0 then -4611686018427387904 else s_low (o_n ((s_gone G (o_n n)).2.2.2.2.2.1 (o_n w))) (o_n (s_sum (o_lv G) 36 + s_sum (s_fl G) (o_n n))) p else -4611686018427387904 else -4611686018427387904 else -4611686018427387904
theorem o_share_l {G : sG} {n w : Nat} {p : Int32} {a b : Nat} (hn : 0 ≤ nI n ∧ nI n ≤ 14) (hw : 0 ≤ nI w ∧ nI w ≤ 3) (hp : 0 ≤ p ∧ p ≤ 1) (en : o_n (nI n) = n) (ew : o_n (nI w) = w) (h1 : (s_gone G n).2.2.2.2.2.1 w = nI a) (h2 : s_sum (o_lv G) 36 + s_sum (s_fl G) n = nI b) (hab : a ≤ b) (hb : b < 2 ^ 30) : o_share G (nI n) (nI w) p = if b = 0 then -4611686018427387904 else s_low a b p := by
  unfold o_share
  rw [if_pos hn, if_pos hw, if_pos hp, en, ew, h1, h2, o_n_nI (by omega), o_n_nI (by omega)]
  by_cases h0 : b = 0
  · rw [if_pos h0, if_pos (by rw [h0]; exact nI_0)]
  · rw [if_neg h0, if_neg (fun h9 => h0 ((nI_eq (a := b) (b := 0) (by omega) (by decide)).mp (h9.trans nI_0.symm)))]
