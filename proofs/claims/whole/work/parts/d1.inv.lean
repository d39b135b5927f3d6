/-! ===== what holds between two calls ===== -/
def sky4 (R0 R1 R2 R3 : sF) : sF := fun i => if i % 4 = 0 then R0 (i / 4) else if i % 4 = 1 then R1 (i / 4) else if i % 4 = 2 then R2 (i / 4) else R3 (i / 4)
def gR (N : Nat) (f : sF) (M : Int32) : Prop := ∀ j, j < N → 0 ≤ f j ∧ f j ≤ M
def gH (z : Int64) : Prop := (∃ e, e < 36 ∧ s_b1 z e = true) ∧ ∀ e, e < 36 → s_bb2 z e = s_b1 z e
theorem q_hi : ∀ (N n : Nat), 1 ≤ n → n < 2 ^ N → ∃ e, e < N ∧ n / 2 ^ e % 2 = 1
  | 0, n, h1, h2 => by
    rw [Nat.pow_zero] at h2
    omega
  | N + 1, n, h1, h2 => by
    by_cases e : n % 2 = 1
    · exact ⟨0, by omega, by rw [Nat.pow_zero, Nat.div_one]; exact e⟩
    · have h4 : n / 2 < 2 ^ N := by
        rw [Nat.pow_succ] at h2
        omega
      obtain ⟨k, hk, hk2⟩ := q_hi N (n / 2) (by omega) h4
      exact ⟨k + 1, by omega, by rw [Nat.pow_succ, Nat.mul_comm, ← Nat.div_div_eq_div_mul]; exact hk2⟩
theorem q_heap {v : Int64} (h1 : ¬ lg_cmp v 1 < 0) (h2 : lg_cmp v 68719476736 < 0) : 1 ≤ v.toUInt64.toNat ∧ v.toUInt64.toNat < 68719476736 := by
  have a1 : (1 : Int) ≤ v.toInt := by
    by_cases g : v > 1
    · have g3 := Int64.lt_iff_toInt_lt.mp g
      have e : (1 : Int64).toInt = 1 := rfl
      rw [e] at g3
      omega
    · by_cases g2 : v = 1
      · rw [g2]
        decide
      · exfalso
        apply h1
        unfold lg_cmp
        rw [if_neg g, if_neg g2]
        decide
  have a2 : v.toInt < 68719476736 := by
    have e : (68719476736 : Int64).toInt = 68719476736 := rfl
    by_cases g : v > 68719476736
    · exfalso
      unfold lg_cmp at h2
      rw [if_pos g] at h2
      exact absurd h2 (by decide)
    · by_cases g2 : v = 68719476736
      · exfalso
        unfold lg_cmp at h2
        rw [if_neg g, if_pos g2] at h2
        exact absurd h2 (by decide)
      · have g3 : ¬ (68719476736 : Int64).toInt < v.toInt := fun q => g (Int64.lt_iff_toInt_lt.mpr q)
        have g4 : ¬ v.toInt = (68719476736 : Int64).toInt := fun q => g2 (Int64.toInt_inj.mp q)
        rw [e] at g3 g4
        omega
  have e9 := BitVec.toInt_eq_toNat_cond v.toBitVec
  have e8 : v.toBitVec.toInt = v.toInt := rfl
  have e7 : v.toBitVec.toNat = v.toUInt64.toNat := rfl
  have hlt := v.toBitVec.isLt
  rw [e8, e7] at e9
  rw [e7] at hlt
  split at e9 <;> omega
theorem q_odd {m : Nat} (h : m % 2 = 1) : lN m &&& 1 = 1 := by
  apply Int64.toBitVec_inj.mp
  show BitVec.ofNat 64 m &&& BitVec.ofNat 64 1 = BitVec.ofNat 64 1
  apply BitVec.eq_of_toNat_eq
  rw [BitVec.toNat_and, BitVec.toNat_ofNat, BitVec.toNat_ofNat]
  show m % 2 ^ 64 &&& 1 = 1
  rw [Nat.and_one_is_mod]
  omega
theorem q_gH {v : Int64} (h1 : ¬ lg_cmp v 1 < 0) (h2 : lg_cmp v 68719476736 < 0) : gH v := by
  obtain ⟨a1, a2⟩ := q_heap h1 h2
  refine ⟨?_, s_bb_eq (by omega)⟩
  obtain ⟨e, he, h⟩ := q_hi 36 _ a1 (by omega)
  refine ⟨e, he, ?_⟩
  have hz := lN_self v
  generalize v.toUInt64.toNat = a at a1 a2 h hz
  subst hz
  unfold s_b1
  rw [wq_shr (by omega) he, q_odd h]
  decide
theorem gH_1 : gH 1 := q_gH (by decide) (by decide)
/-- numbers behind a row -/
theorem n_any (f : sF) : ∃ z : Nat → Nat, f = nIf z ∧ ∀ (N M : Nat), M < 2 ^ 31 → gR N f (nI M) → ∀ j, j < N → z j ≤ M := by
  refine ⟨fun j => (f j).toUInt32.toNat, ?_, fun N M hM h j hj => ?_⟩
  · funext j
    show f j = Int32.ofNat (f j).toUInt32.toNat
    apply Int32.toBitVec_inj.mp
    show (f j).toBitVec = BitVec.ofNat 32 (f j).toBitVec.toNat
    apply BitVec.eq_of_toNat_eq
    rw [BitVec.toNat_ofNat]
    exact (Nat.mod_eq_of_lt (f j).toBitVec.isLt).symm
  · obtain ⟨i, hi, e⟩ := q_w (n := M) rfl hM (h j hj)
    show (f j).toUInt32.toNat ≤ M
    rw [e]
    have e2 : (nI i).toUInt32.toNat = i := by
      show (BitVec.ofNat 32 i).toNat = i
      rw [BitVec.toNat_ofNat]
      exact Nat.mod_eq_of_lt (by omega)
    omega
theorem n_row {f : sF} {N M : Nat} (hM : M < 2 ^ 31) (h : gR N f (nI M)) : ∃ z : Nat → Nat, f = nIf z ∧ ∀ j, j < N → z j ≤ M := by
  obtain ⟨z, h1, h2⟩ := n_any f
  exact ⟨z, h1, h2 N M hM h⟩
def iLn (wr tn lw : Nat) (hp : Int64) (R0 kf mf lf cf tf : sF) : Prop := tn ≤ 4 ∧ (lw < wr ∧ wr ≤ 6) ∧ gR 14 R0 3 ∧ gR 36 kf 5 ∧ gR 36 mf 99 ∧ gR 36 lf 999 ∧ gR tn cf 35 ∧ gR tn tf 999 ∧ gH hp
def iPc (wr tn pn pw pin piw : Nat) (hi pg pig : Int32) (ph pih : Int64) (cf sf tf P0 P1 P2 P3 pk pm pv pc ps pt os oc : sF) : Prop := hi ≠ 0 → (pn = pin ∧ pw = piw ∧ pg = pig ∧ ph = pih) ∧ os = sky4 P0 P1 P2 P3 ∧ oc = o_cells pk pm pv ∧ pn ≤ tn ∧ iLn wr pn pw ph P0 pk pm pv pc pt ∧ gT pn pc ps pt cf sf tf
def iSh (so : Nat → Int32) (nz : Nat → Nat) (gs : Nat → sF) (ss sz it : sF) : Prop := ∀ s, s < 4 → nz s ≤ 40 ∧ (0 ≤ sz s ∧ sz s ≤ 40) ∧ ss s = so s ∧ (so s ≠ -1 → sz s = nI (nz s) ∧ ∀ c, c < 40 → gs s c = it (40 * s + c))
def iTx (wr : Nat) (cds ens : Nat → sF) (co bg : sF) (TT : Nat → sT) : Prop := ∀ t, t < wr → s_ok (TT t) ∧ s_law (cds t) (ens t) (TT t) ∧ s_mlaw co bg t (TT t)
def INV (zwr ztn zlw zrz zpn zpw : Nat) (zhi zrg zpg : Int32) (zhp zph : Int64) (zR0 zR1 zR2 zR3 zkf zmf zlf zcf zsf ztf zP0 zP1 zP2 zP3 zpk zpm zpv zpc zps zpt ztp : sF) (zcd zen : Nat → sF) (zso : Nat → Int32) (znz : Nat → Nat) (zgs : Nat → sF) (zin ziw : Nat) (zig : Int32) (zih : Int64) (zsk zmc zms zmt zco zbg zos zoc zss zsz zit : sF) (TT : Nat → sT) : Prop := iLn zwr ztn zlw zhp zR0 zkf zmf zlf zcf ztf ∧ zrz ≤ 160 ∧ zsk = sky4 zR0 zR1 zR2 zR3 ∧ gT ztn zcf zsf ztf zmc zms zmt ∧ (zpn ≤ 4 ∧ zin ≤ 4) ∧ iPc zwr ztn zpn zpw zin ziw zhi zpg zig zph zih zcf zsf ztf zP0 zP1 zP2 zP3 zpk zpm zpv zpc zps zpt zos zoc ∧ iSh zso znz zgs zss zsz zit ∧ iTx zwr zcd zen zco zbg TT
abbrev LH (X : rT) (K9 N9 b9 i9 : Nat) (cI cM cW cS : ClassId) (zad zq zqc zqs zqe zsh zra zem : Nat → Nat) (pc9 : Nat) : Prop := ∀ {zwr ztn zlw zrz zpn zpw : Nat} {zhi zrg zpg : Int32} {zhp zph : Int64} {zR0 zR1 zR2 zR3 zkf zmf zlf zcf zsf ztf zP0 zP1 zP2 zP3 zpk zpm zpv zpc zps zpt ztp : sF} {zcd zen : Nat → sF} {zso : Nat → Int32} {znz : Nat → Nat} {zgs : Nat → sF} {zin ziw : Nat} {zig : Int32} {zih : Int64} {zsk zmc zms zmt zco zbg zos zoc zss zsz zit : sF} {TT : Nat → sT} {Y : sY} {V : sV}, INV zwr ztn zlw zrz zpn zpw zhi zrg zpg zhp zph zR0 zR1 zR2 zR3 zkf zmf zlf zcf zsf ztf zP0 zP1 zP2 zP3 zpk zpm zpv zpc zps zpt ztp zcd zen zso znz zgs zin ziw zig zih zsk zmc zms zmt zco zbg zos zoc zss zsz zit TT → X K9 N9 (CWo cI cM cW cS zad zq zqc zqs zqe zsh zra id zwr ztn zlw zrz zpn zpw zhi zrg zpg zhp zph zR0 zR1 zR2 zR3 zkf zmf zlf zcf zsf ztf zP0 zP1 zP2 zP3 zpk zpm zpv zpc zps zpt ztp zcd zen zso znz zgs Y ++ MW cI zem zwr ztn zlw zrz zin ziw zhi zrg zig zhp zih zsk zkf zmf zlf zmc zms zmt ztp zco zbg zos zoc zss zsz zit V) [(0, .ref b9), (1, .ref (zad 0)), (2, .ref (zem 0)), (3, .int (nI i9))] pc9 []
theorem s_sky4 (wk : Nat → Nat) (R1 R2 R3 : sF) : s_sky wk R1 R2 R3 = sky4 (nIf wk) R1 R2 R3 := rfl
/-- what a question wants of it -/
theorem INV_q {zwr ztn zlw zrz zpn zpw : Nat} {zhi zrg zpg : Int32} {zhp zph : Int64} {zR0 zR1 zR2 zR3 zkf zmf zlf zcf zsf ztf zP0 zP1 zP2 zP3 zpk zpm zpv zpc zps zpt ztp : sF} {zcd zen : Nat → sF} {zso : Nat → Int32} {znz : Nat → Nat} {zgs : Nat → sF} {zin ziw : Nat} {zig : Int32} {zih : Int64} {zsk zmc zms zmt zco zbg zos zoc zss zsz zit : sF} {TT : Nat → sT} (h : INV zwr ztn zlw zrz zpn zpw zhi zrg zpg zhp zph zR0 zR1 zR2 zR3 zkf zmf zlf zcf zsf ztf zP0 zP1 zP2 zP3 zpk zpm zpv zpc zps zpt ztp zcd zen zso znz zgs zin ziw zig zih zsk zmc zms zmt zco zbg zos zoc zss zsz zit TT) : ∃ wk tk mtk : Nat → Nat, zR0 = nIf wk ∧ zcf = nIf tk ∧ zmc = nIf mtk ∧ zsk = s_sky wk zR1 zR2 zR3 ∧ (∀ t, t < ztn → tk t < 36) ∧ (∀ t, t < ztn → mtk t < 36) ∧ (∀ j, j < 14 → wk j < 4) ∧ (∀ T : sT, s_good (T, zkf, zmf, zsf, tk, ztn, zlf, ztf, s_b1 zhp, zrg, wk, zR1, zR2, zR3)) ∧ (∀ T : sT, s_good (T, zkf, zmf, zms, mtk, ztn, zlf, zmt, s_b1 zhp, zrg, wk, zR1, zR2, zR3)) ∧ ∀ T : sT, gA (T, zkf, zmf, zsf, tk, ztn, zlf, ztf, s_b1 zhp, zrg, wk, zR1, zR2, zR3) (T, zkf, zmf, zms, mtk, ztn, zlf, zmt, s_b1 zhp, zrg, wk, zR1, zR2, zR3) := by
  obtain ⟨⟨l1, l2, l3, l4, l5, l6, l7, l8, l9⟩, h2, h3, h4, -⟩ := h
  have r0 : gR 14 zR0 (nI 3) := l3
  obtain ⟨wk, w1, w2⟩ := n_row (by decide) r0
  have c0 : gR ztn zcf (nI 35) := l7
  obtain ⟨tk, t1, t2⟩ := n_row (by decide) c0
  have c1 : gR ztn zmc (nI 35) := fun j hj => by rw [← (h4 j hj).1]; exact l7 j hj
  obtain ⟨mtk, m1, m2⟩ := n_row (by decide) c1
  subst w1
  subst t1
  subst m1
  have e1 : ∀ t, t < ztn → tk t = mtk t := fun t ht => by
    have a1 := t2 t ht
    have a2 := m2 t ht
    exact (nI_eq (a := tk t) (b := mtk t) (by omega) (by omega)).mp (h4 t ht).1
  have lt9 : ∀ {a b : Nat}, a ≤ b → a < b + 1 := fun h => Nat.lt_succ_of_le h
  refine ⟨wk, tk, mtk, rfl, rfl, rfl, h3, fun t ht => lt9 (t2 t ht), fun t ht => lt9 (m2 t ht), fun j hj => lt9 (w2 j hj), fun T => ⟨l1, fun t ht => lt9 (t2 t ht), fun j hj => lt9 (w2 j hj), l5, l9.1, l6, l8⟩, fun T => ⟨l1, fun t ht => lt9 (m2 t ht), fun j hj => lt9 (w2 j hj), l5, l9.1, l6, fun t ht => by rw [← (h4 t ht).2.2]; exact l8 t ht⟩, fun T => g_of rfl rfl (fun t ht => ⟨(h4 t ht).2.1, e1 t ht, (h4 t ht).2.2⟩)⟩
