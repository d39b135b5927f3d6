/-! ===== the class's reading of tokens ===== -/
theorem z_drop {i k : Nat} (h : k < zlen i) : (zL.getD i []).drop k = zbyt i k :: (zL.getD i []).drop (k + 1) := by
  unfold zlen at h
  unfold zbyt
  generalize zL.getD i [] = l at h ⊢
  have e : l.getD k 0 = l[k] := by
    rw [List.getD_eq_getElem?_getD, List.getElem?_eq_getElem h]
    rfl
  rw [List.drop_eq_getElem_cons h, e]
section PSC
variable {tp : sF} {q e k w i : Nat} {sb : Bool}
theorem p_scan_at (hk : k < zlen 1) (h32 : ¬ zbyt 1 k = 32) (hsb : sb = true) (hi : i < e) (hc : tp i = zbyt 1 k) : p_scan tp q e ((zL.getD 1 []).drop (k + 1)) w (i + 1) true = p_scan tp q e ((zL.getD 1 []).drop k) w i sb := by
  rw [z_drop hk, p_scan, if_neg h32, hsb]
  congr 1
  simp [hi, hc]
theorem p_scan_af (hk : k < zlen 1) (h32 : ¬ zbyt 1 k = 32) (h : ¬ (sb = true ∧ i < e ∧ tp i = zbyt 1 k)) : p_scan tp q e ((zL.getD 1 []).drop (k + 1)) w (i + 1) false = p_scan tp q e ((zL.getD 1 []).drop k) w i sb := by
  rw [z_drop hk, p_scan, if_neg h32]
  congr 1
  symm
  rw [Bool.eq_false_iff]
  intro h9
  simp at h9
  exact h ⟨h9.1, h9.2.1, h9.2.2⟩
theorem p_scan_b (hk : k < zlen 1) (h32 : zbyt 1 k = 32) (h : sb = true ∧ i = e) : nI w = p_scan tp q e ((zL.getD 1 []).drop k) w i sb := by
  rw [z_drop hk, p_scan, if_pos h32, if_pos h]
theorem p_scan_c (hk : k < zlen 1) (h32 : zbyt 1 k = 32) (h : ¬ (sb = true ∧ i = e)) : p_scan tp q e ((zL.getD 1 []).drop (k + 1)) (w + 1) q true = p_scan tp q e ((zL.getD 1 []).drop k) w i sb := by
  rw [z_drop hk, p_scan, if_pos h32, if_neg h]
theorem p_scan_d (hk : zlen 1 ≤ k) : -1 = p_scan tp q e ((zL.getD 1 []).drop k) w i sb := by
  unfold zlen at hk
  rw [List.drop_eq_nil_iff.mpr hk]
  rfl
theorem q_sb0 {s9 : Int32} (hs : s9 = if sb = true then 1 else 0) (h : s9 = 0) : ¬ sb = true := fun e => by
  rw [if_pos e] at hs
  exact absurd (hs.symm.trans h) (by decide)
theorem q_sb1 {s9 : Int32} (hs : s9 = if sb = true then 1 else 0) (h : ¬ s9 = 0) : sb = true := by
  cases sb with
  | true => rfl
  | false => exact absurd hs h
end PSC
theorem z_len1 : zlen 1 = 60 := by decide +kernel
theorem p_sg_t {b : Int32} (h : b = 40 ∨ b = 41 ∨ b = 59 ∨ b = 43 ∨ b = 45 ∨ b = 42 ∨ b = 60 ∨ b = 61) : p_sg b = true := by
  unfold p_sg
  exact decide_eq_true h
theorem p_sg_f {b : Int32} (h1 : ¬ b = 40) (h2 : ¬ b = 41) (h3 : ¬ b = 59) (h4 : ¬ b = 43) (h5 : ¬ b = 45) (h6 : ¬ b = 42) (h7 : ¬ b = 60) (h8 : ¬ b = 61) : ¬ p_sg b = true := fun h => by
  unfold p_sg at h
  rcases of_decide_eq_true h with h | h | h | h | h | h | h | h
  · exact h1 h
  · exact h2 h
  · exact h3 h
  · exact h4 h
  · exact h5 h
  · exact h6 h
  · exact h7 h
  · exact h8 h
section PTK
variable {tp : sF} {n a q k e : Nat}
theorem p_tk_end (h : n ≤ p_pl tp n a) : p_nx tp n a = p_pl tp n a ∧ p_tk tp n a = 0 := by
  unfold p_tk p_nx
  rw [if_pos h, if_pos h]
  exact ⟨rfl, rfl⟩
theorem p_tk_dg (h : p_pl tp n a < n) (d : p_dg (tp (p_pl tp n a)) = true) : p_nx tp n a = p_sk p_dg tp n (p_pl tp n a) ∧ p_tk tp n a = (if 4 < p_sk p_dg tp n (p_pl tp n a) - p_pl tp n a then 1 else 2) ∧ p_vl tp n a = p_num tp (p_pl tp n a) (p_sk p_dg tp n (p_pl tp n a) - p_pl tp n a) := by
  have e : p_nx tp n a = p_sk p_dg tp n (p_pl tp n a) := by
    unfold p_nx
    rw [if_neg (by omega), if_pos d]
  refine ⟨e, ?_, ?_⟩
  · unfold p_tk
    rw [if_neg (by omega), if_pos d, e]
  · unfold p_vl
    rw [if_pos d, e]
theorem p_tk_le (h : p_pl tp n a < n) (d : ¬ p_dg (tp (p_pl tp n a)) = true) (l : p_le (tp (p_pl tp n a)) = true) : p_nx tp n a = p_sk p_le tp n (p_pl tp n a) ∧ p_wd tp n a = p_wix (p_w tp (p_pl tp n a) (p_sk p_le tp n (p_pl tp n a))) ∧ p_tk tp n a = (if p_wd tp n a = -1 then 1 else if p_wd tp n a < 6 then 4 + p_wd tp n a else 3) ∧ p_vl tp n a = p_wd tp n a - 6 := by
  have e : p_nx tp n a = p_sk p_le tp n (p_pl tp n a) := by
    unfold p_nx
    rw [if_neg (by omega), if_neg d, if_pos l]
  refine ⟨e, ?_, ?_, ?_⟩
  · unfold p_wd
    rw [e]
  · unfold p_tk
    rw [if_neg (by omega), if_neg d, if_pos l]
  · unfold p_vl
    rw [if_neg d]
theorem p_tk_sg (h : p_pl tp n a < n) (d : ¬ p_dg (tp (p_pl tp n a)) = true) (l : ¬ p_le (tp (p_pl tp n a)) = true) : p_nx tp n a = p_pl tp n a + 1 ∧ p_tk tp n a = (if p_sg (tp (p_pl tp n a)) = true then tp (p_pl tp n a) else 1) := by
  unfold p_nx p_tk
  rw [if_neg (by omega), if_neg d, if_neg l, if_neg (by omega), if_neg d, if_neg l]
  exact ⟨rfl, rfl⟩
theorem p_bl_t {b : Int32} (h : b = 32 ∨ b = 10) : p_bl b = true := decide_eq_true h
theorem p_bl_f {b : Int32} (h1 : ¬ b = 32) (h2 : ¬ b = 10) : ¬ p_bl b = true := fun h => (of_decide_eq_true h).elim h1 h2
theorem p_sg_ne {b : Int32} (h : p_sg b = true) : ¬ b = 2 ∧ ¬ b = 3 := by
  unfold p_sg at h
  rcases of_decide_eq_true h with h | h | h | h | h | h | h | h <;> rw [h] <;> decide
theorem p_sg_no {b v w : Int32} (h : (if p_sg b = true then b else 1) = 2 ∨ (if p_sg b = true then b else 1) = 3) : v = w := by
  by_cases g : p_sg b = true
  · rw [if_pos g] at h
    exact absurd h (fun h9 => h9.elim (p_sg_ne g).1 (p_sg_ne g).2)
  · rw [if_neg g] at h
    exact absurd h (by decide)
end PTK
