/-! ===== what each call does to what holds between two calls ===== -/
theorem s_off_in {T : sT} {p j : Nat} (hok : s_ok T) (hp : p < 3) (hj : j < (T p).length) : s_off T p + j < 160 := by
  have h1 := s_off_succ T hp
  have h2 := s_off_le T hp
  have h3 := hok.2
  omega
theorem k_mlaw {co bg mc bg' : sF} {wr t : Nat} {T : sT} (hok : s_ok T) (h : s_mlaw co bg t T) (ht : t < wr) (a1 : ∀ j, j < 170 * wr → mc j = co j) (a2 : ∀ j, j < 4 * wr → bg' j = bg j) : s_mlaw mc bg' t T := by
  refine ⟨fun p hp => ?_, fun p hp j hj => ?_⟩
  · rw [a2 _ (by omega)]
    exact h.1 p hp
  · have h9 := s_off_in hok hp hj
    rw [a1 _ (by omega)]
    exact h.2 p hp j hj
theorem r_ch_id {α : Type} {f : Nat → α} {j : Nat} : r_ch f j (f j) = f := by
  funext i
  by_cases e : i = j
  · subst e
    exact r_ch_s
  · exact r_ch_n e
theorem k_s4 {s : Int32} {j9 : Nat} (hs9 : ∀ i, i < 4 → s = nI i → i = j9) : ¬ (0 ≤ s ∧ s ≤ 3) ∨ (s = nI j9 ∧ o_n s = j9 ∧ (0 ≤ s ∧ s ≤ 3)) := by
  by_cases e : 0 ≤ s ∧ s ≤ 3
  · obtain ⟨j, hj, rfl⟩ := k_in3 e
    have h9 := hs9 j hj rfl
    subst h9
    exact Or.inr ⟨rfl, o_n_nI (by omega), e⟩
  · exact Or.inl e
/-- one sheet, on both sides -/
def iS1 (so : Int32) (nz : Nat) (g : sF) (ss sz : Int32) (it : sF) : Prop := nz ≤ 40 ∧ (0 ≤ sz ∧ sz ≤ 40) ∧ ss = so ∧ (so ≠ -1 → sz = nI nz ∧ ∀ c, c < 40 → g c = it c)
theorem iSh_1 {so : Nat → Int32} {nz : Nat → Nat} {gs : Nat → sF} {ss sz it : sF} (h : iSh so nz gs ss sz it) {j : Nat} (hj : j < 4) : iS1 (so j) (nz j) (gs j) (ss j) (sz j) (o_row it j) := h j hj
theorem iSh_upd {so : Nat → Int32} {nz : Nat → Nat} {gs : Nat → sF} {ss sz it ss2 sz2 it2 : sF} (h : iSh so nz gs ss sz it) {j : Nat} {so' : Int32} {nz' : Nat} {g' : sF} (h1 : iS1 so' nz' g' (ss2 j) (sz2 j) (o_row it2 j)) (h2 : ∀ i, i < 4 → i ≠ j → ss2 i = ss i ∧ sz2 i = sz i ∧ ∀ c, c < 40 → it2 (40 * i + c) = it (40 * i + c)) : iSh (r_ch so j so') (r_ch nz j nz') (r_ch gs j g') ss2 sz2 it2 := fun s hs => by
  by_cases e : s = j
  · subst e
    rw [r_ch_s, r_ch_s, r_ch_s]
    exact h1
  · rw [r_ch_n e, r_ch_n e, r_ch_n e]
    obtain ⟨a1, a2, a3⟩ := h2 s hs e
    obtain ⟨b1, b2, b3, b4⟩ := h s hs
    rw [a1, a2]
    exact ⟨b1, b2, b3, fun hn => ⟨(b4 hn).1, fun c hc => ((b4 hn).2 c hc).trans (a3 c hc).symm⟩⟩
theorem iSh_nz {so : Nat → Int32} {nz : Nat → Nat} {gs : Nat → sF} {ss sz it : sF} (h : iSh so nz gs ss sz it) : ∀ i, i < 4 → nz i ≤ 40 := fun i hi => (h i hi).1
theorem iSh_sz {so : Nat → Int32} {nz : Nat → Nat} {gs : Nat → sF} {ss sz it : sF} (h : iSh so nz gs ss sz it) : ∃ nzf : Nat → Nat, sz = nIf nzf ∧ ∀ j, j < 4 → nzf j ≤ 40 := by
  have r0 : gR 4 sz (nI 40) := fun j hj => (h j hj).2.1
  exact n_row (by decide) r0
theorem iSh_gS {so : Nat → Int32} {nz nzf : Nat → Nat} {gs : Nat → sF} {ss it : sF} (h : iSh so nz gs ss (nIf nzf) it) (hf : ∀ j, j < 4 → nzf j ≤ 40) {j : Nat} (hj : j < 4) : ss j = so j ∧ gS (so j) (nz j) (nzf j) (gs j) (o_row it j) := by
  obtain ⟨b1, b2, b3, b4⟩ := h j hj
  refine ⟨b3, fun hn => ⟨?_, (b4 hn).2⟩⟩
  have h9 := hf j hj
  exact ((nI_eq (a := nzf j) (b := nz j) (by omega) (by omega)).mp (b4 hn).1).symm
section II
variable {zwr ztn zlw zrz zpn zpw : Nat} {zhi zrg zpg : Int32} {zhp zph : Int64} {zR0 zR1 zR2 zR3 zkf zmf zlf zcf zsf ztf zP0 zP1 zP2 zP3 zpk zpm zpv zpc zps zpt ztp : sF} {zcd zen : Nat → sF} {zso : Nat → Int32} {znz : Nat → Nat} {zgs : Nat → sF} {zin ziw : Nat} {zig : Int32} {zih : Int64} {zsk zmc zms zmt zco zbg zos zoc zss zsz zit : sF} {TT : Nat → sT}
theorem I_sky (h : INV zwr ztn zlw zrz zpn zpw zhi zrg zpg zhp zph zR0 zR1 zR2 zR3 zkf zmf zlf zcf zsf ztf zP0 zP1 zP2 zP3 zpk zpm zpv zpc zps zpt ztp zcd zen zso znz zgs zin ziw zig zih zsk zmc zms zmt zco zbg zos zoc zss zsz zit TT) (d w v : Int32) : INV zwr ztn zlw zrz zpn zpw zhi zrg zpg zhp zph (o_sky_k 0 zR0 d w v) (o_sky_k 1 zR1 d w v) (o_sky_k 2 zR2 d w v) (o_sky_k 3 zR3 d w v) zkf zmf zlf zcf zsf ztf zP0 zP1 zP2 zP3 zpk zpm zpv zpc zps zpt ztp zcd zen zso znz zgs zin ziw zig zih (o_msky_f zsk d w v) zmc zms zmt zco zbg zos zoc zss zsz zit TT := by
  obtain ⟨⟨l1, l2, l3, l4, l5, l6, l7, l8, l9⟩, h2, h3, h4, h5, h6, h7, h8⟩ := h
  subst h3
  exact ⟨⟨l1, l2, k_sky3 l3, l4, l5, l6, l7, l8, l9⟩, h2, k_sky2, h4, h5, h6, h7, h8⟩
theorem I_feed (h : INV zwr ztn zlw zrz zpn zpw zhi zrg zpg zhp zph zR0 zR1 zR2 zR3 zkf zmf zlf zcf zsf ztf zP0 zP1 zP2 zP3 zpk zpm zpv zpc zps zpt ztp zcd zen zso znz zgs zin ziw zig zih zsk zmc zms zmt zco zbg zos zoc zss zsz zit TT) (n a b c d e : Int32) : INV zwr ztn zlw (o_feed_n zrz n a b c d e) zpn zpw zhi zrg zpg zhp zph zR0 zR1 zR2 zR3 zkf zmf zlf zcf zsf ztf zP0 zP1 zP2 zP3 zpk zpm zpv zpc zps zpt (o_feed_f ztp zrz n a b c d e) zcd zen zso znz zgs zin ziw zig zih zsk zmc zms zmt zco zbg zos zoc zss zsz zit TT := by
  obtain ⟨⟨l1, l2, l3, l4, l5, l6, l7, l8, l9⟩, h2, h3, h4, h5, h6, h7, h8⟩ := h
  exact ⟨⟨l1, l2, l3, l4, l5, l6, l7, l8, l9⟩, k_feed h2 n a b c d e, h3, h4, h5, h6, h7, h8⟩
theorem I_textf (h : INV zwr ztn zlw zrz zpn zpw zhi zrg zpg zhp zph zR0 zR1 zR2 zR3 zkf zmf zlf zcf zsf ztf zP0 zP1 zP2 zP3 zpk zpm zpv zpc zps zpt ztp zcd zen zso znz zgs zin ziw zig zih zsk zmc zms zmt zco zbg zos zoc zss zsz zit TT) (hw : zwr < 6) {cd' en' mc' bg' : sF} (a1 : ∀ j, j < 170 * zwr → mc' j = zco j) (a2 : ∀ j, j < 4 * zwr → bg' j = zbg j) : INV zwr ztn zlw 0 zpn zpw zhi zrg zpg zhp zph zR0 zR1 zR2 zR3 zkf zmf zlf zcf zsf ztf zP0 zP1 zP2 zP3 zpk zpm zpv zpc zps zpt ztp (r_ch zcd zwr cd') (r_ch zen zwr en') zso znz zgs zin ziw zig zih zsk zmc zms zmt mc' bg' zos zoc zss zsz zit TT := by
  obtain ⟨⟨l1, l2, l3, l4, l5, l6, l7, l8, l9⟩, h2, h3, h4, h5, h6, h7, h8⟩ := h
  refine ⟨⟨l1, l2, l3, l4, l5, l6, l7, l8, l9⟩, Nat.zero_le _, h3, h4, h5, h6, h7, fun t ht => ?_⟩
  obtain ⟨b1, b2, b3⟩ := h8 t ht
  have e : t ≠ zwr := by omega
  rw [r_ch_n e, r_ch_n e]
  exact ⟨b1, b2, k_mlaw b1 b3 ht a1 a2⟩
theorem I_textt (h : INV zwr ztn zlw zrz zpn zpw zhi zrg zpg zhp zph zR0 zR1 zR2 zR3 zkf zmf zlf zcf zsf ztf zP0 zP1 zP2 zP3 zpk zpm zpv zpc zps zpt ztp zcd zen zso znz zgs zin ziw zig zih zsk zmc zms zmt zco zbg zos zoc zss zsz zit TT) (hw : zwr < 6) {cd' en' mc' bg' : sF} (a1 : ∀ j, j < 170 * zwr → mc' j = zco j) (a2 : ∀ j, j < 4 * zwr → bg' j = zbg j) {T9 : sT} (c1 : s_ok T9) (c2 : s_law cd' en' T9) (c3 : s_mlaw mc' bg' zwr T9) : INV (zwr + 1) ztn zlw 0 zpn zpw zhi zrg zpg zhp zph zR0 zR1 zR2 zR3 zkf zmf zlf zcf zsf ztf zP0 zP1 zP2 zP3 zpk zpm zpv zpc zps zpt ztp (r_ch zcd zwr cd') (r_ch zen zwr en') zso znz zgs zin ziw zig zih zsk zmc zms zmt mc' bg' zos zoc zss zsz zit (r_ch TT zwr T9) := by
  obtain ⟨⟨l1, l2, l3, l4, l5, l6, l7, l8, l9⟩, h2, h3, h4, h5, h6, h7, h8⟩ := h
  refine ⟨⟨l1, ⟨by omega, by omega⟩, l3, l4, l5, l6, l7, l8, l9⟩, Nat.zero_le _, h3, h4, h5, fun h9 => ?_, h7, fun t ht => ?_⟩
  · obtain ⟨g1, g2, g3, g4, ⟨m1, m2, m3⟩, g6⟩ := h6 h9
    exact ⟨g1, g2, g3, g4, ⟨m1, ⟨by omega, by omega⟩, m3⟩, g6⟩
  · by_cases e : t = zwr
    · subst e
      rw [r_ch_s, r_ch_s, r_ch_s]
      exact ⟨c1, c2, c3⟩
    · obtain ⟨b1, b2, b3⟩ := h8 t (by omega)
      rw [r_ch_n e, r_ch_n e, r_ch_n e]
      exact ⟨b1, b2, k_mlaw b1 b3 (wr := zwr) (by omega) a1 a2⟩
theorem I_force (h : INV zwr ztn zlw zrz zpn zpw zhi zrg zpg zhp zph zR0 zR1 zR2 zR3 zkf zmf zlf zcf zsf ztf zP0 zP1 zP2 zP3 zpk zpm zpv zpc zps zpt ztp zcd zen zso znz zgs zin ziw zig zih zsk zmc zms zmt zco zbg zos zoc zss zsz zit TT) (v : Int32) : INV zwr ztn (o_force_n v zwr zlw) zrz zpn zpw zhi zrg zpg zhp zph zR0 zR1 zR2 zR3 zkf zmf zlf zcf zsf ztf zP0 zP1 zP2 zP3 zpk zpm zpv zpc zps zpt ztp zcd zen zso znz zgs zin ziw zig zih zsk zmc zms zmt zco zbg zos zoc zss zsz zit TT := by
  obtain ⟨⟨l1, l2, l3, l4, l5, l6, l7, l8, l9⟩, h2, h3, h4, h5, h6, h7, h8⟩ := h
  exact ⟨⟨l1, ⟨k_force l2.1 l2.2 v, l2.2⟩, l3, l4, l5, l6, l7, l8, l9⟩, h2, h3, h4, h5, h6, h7, h8⟩
theorem I_lay (h : INV zwr ztn zlw zrz zpn zpw zhi zrg zpg zhp zph zR0 zR1 zR2 zR3 zkf zmf zlf zcf zsf ztf zP0 zP1 zP2 zP3 zpk zpm zpv zpc zps zpt ztp zcd zen zso znz zgs zin ziw zig zih zsk zmc zms zmt zco zbg zos zoc zss zsz zit TT) (c k m : Int32) : INV zwr ztn zlw zrz zpn zpw zhi zrg zpg zhp zph zR0 zR1 zR2 zR3 (o_lay_f zkf c k m k) (o_lay_f zmf c k m m) zlf zcf zsf ztf zP0 zP1 zP2 zP3 zpk zpm zpv zpc zps zpt ztp zcd zen zso znz zgs zin ziw zig zih zsk zmc zms zmt zco zbg zos zoc zss zsz zit TT := by
  obtain ⟨⟨l1, l2, l3, l4, l5, l6, l7, l8, l9⟩, h2, h3, h4, h5, h6, h7, h8⟩ := h
  exact ⟨⟨l1, l2, l3, k_lay1 l4 c k m, k_lay2 l5 c k m, l6, l7, l8, l9⟩, h2, h3, h4, h5, h6, h7, h8⟩
theorem I_plot (h : INV zwr ztn zlw zrz zpn zpw zhi zrg zpg zhp zph zR0 zR1 zR2 zR3 zkf zmf zlf zcf zsf ztf zP0 zP1 zP2 zP3 zpk zpm zpv zpc zps zpt ztp zcd zen zso znz zgs zin ziw zig zih zsk zmc zms zmt zco zbg zos zoc zss zsz zit TT) (c sh k m : Int32) : INV zwr ztn zlw zrz zpn zpw zhi zrg zpg zhp zph zR0 zR1 zR2 zR3 (o_plot_f zkf c sh k m k) (o_plot_f zmf c sh k m m) zlf zcf zsf ztf zP0 zP1 zP2 zP3 zpk zpm zpv zpc zps zpt ztp zcd zen zso znz zgs zin ziw zig zih zsk zmc zms zmt zco zbg zos zoc zss zsz zit TT := by
  obtain ⟨⟨l1, l2, l3, l4, l5, l6, l7, l8, l9⟩, h2, h3, h4, h5, h6, h7, h8⟩ := h
  exact ⟨⟨l1, l2, l3, k_plot1 l4 c sh k m, k_plot2 l5 c sh k m, l6, l7, l8, l9⟩, h2, h3, h4, h5, h6, h7, h8⟩
theorem I_trees (h : INV zwr ztn zlw zrz zpn zpw zhi zrg zpg zhp zph zR0 zR1 zR2 zR3 zkf zmf zlf zcf zsf ztf zP0 zP1 zP2 zP3 zpk zpm zpv zpc zps zpt ztp zcd zen zso znz zgs zin ziw zig zih zsk zmc zms zmt zco zbg zos zoc zss zsz zit TT) {n' : Nat} {a b c a' b' c' : sF} (hk : kT ztn zcf zsf ztf n' a b c) (hg : gT n' a b c a' b' c') : INV zwr n' zlw zrz zpn zpw zhi zrg zpg zhp zph zR0 zR1 zR2 zR3 zkf zmf zlf a b c zP0 zP1 zP2 zP3 zpk zpm zpv zpc zps zpt ztp zcd zen zso znz zgs zin ziw zig zih zsk a' b' c' zco zbg zos zoc zss zsz zit TT := by
  obtain ⟨⟨l1, l2, l3, l4, l5, l6, l7, l8, l9⟩, h2, h3, h4, h5, h6, h7, h8⟩ := h
  exact ⟨⟨hk.2.1, l2, l3, l4, l5, l6, hk.2.2.1, hk.2.2.2.1, l9⟩, h2, h3, hg, h5, k_pc h6 hk, h7, h8⟩
theorem I_kT (h : INV zwr ztn zlw zrz zpn zpw zhi zrg zpg zhp zph zR0 zR1 zR2 zR3 zkf zmf zlf zcf zsf ztf zP0 zP1 zP2 zP3 zpk zpm zpv zpc zps zpt ztp zcd zen zso znz zgs zin ziw zig zih zsk zmc zms zmt zco zbg zos zoc zss zsz zit TT) : kT ztn zcf zsf ztf ztn zcf zsf ztf := by
  obtain ⟨⟨l1, l2, l3, l4, l5, l6, l7, l8, l9⟩, h2, h3, h4, h5, h6, h7, h8⟩ := h
  exact ⟨Nat.le_refl _, l1, l7, l8, gT_rfl _ _ _ _⟩
theorem I_tree (h : INV zwr ztn zlw zrz zpn zpw zhi zrg zpg zhp zph zR0 zR1 zR2 zR3 zkf zmf zlf zcf zsf ztf zP0 zP1 zP2 zP3 zpk zpm zpv zpc zps zpt ztp zcd zen zso znz zgs zin ziw zig zih zsk zmc zms zmt zco zbg zos zoc zss zsz zit TT) (x s l9 : Int32) : INV zwr (o_tree_n ztn x s l9) zlw zrz zpn zpw zhi zrg zpg zhp zph zR0 zR1 zR2 zR3 zkf zmf zlf (o_tree_f zcf ztn x s l9 x) (o_tree_f zsf ztn x s l9 s) (o_tree_f ztf ztn x s l9 l9) zP0 zP1 zP2 zP3 zpk zpm zpv zpc zps zpt ztp zcd zen zso znz zgs zin ziw zig zih zsk (o_tree_f zmc ztn x s l9 x) (o_tree_f zms ztn x s l9 s) (o_tree_f zmt ztn x s l9 l9) zco zbg zos zoc zss zsz zit TT := by
  exact I_trees h (kT_tree (I_kT h) x s l9) (g_tree h.2.2.2.1 x s l9)
theorem I_fellh (h : INV zwr ztn zlw zrz zpn zpw zhi zrg zpg zhp zph zR0 zR1 zR2 zR3 zkf zmf zlf zcf zsf ztf zP0 zP1 zP2 zP3 zpk zpm zpv zpc zps zpt ztp zcd zen zso znz zgs zin ziw zig zih zsk zmc zms zmt zco zbg zos zoc zss zsz zit TT) : o_fell_h ztn zin zhi = o_fell_h ztn zpn zhi := by
  obtain ⟨⟨l1, l2, l3, l4, l5, l6, l7, l8, l9⟩, h2, h3, h4, h5, h6, h7, h8⟩ := h
  by_cases e : zhi = 0
  · unfold o_fell_h
    rw [e]
    repeat' split
    all_goals rfl
  · obtain ⟨⟨g1, -⟩, -⟩ := h6 e
    rw [g1]
theorem I_fell (h : INV zwr ztn zlw zrz zpn zpw zhi zrg zpg zhp zph zR0 zR1 zR2 zR3 zkf zmf zlf zcf zsf ztf zP0 zP1 zP2 zP3 zpk zpm zpv zpc zps zpt ztp zcd zen zso znz zgs zin ziw zig zih zsk zmc zms zmt zco zbg zos zoc zss zsz zit TT)  : INV zwr (o_fell_n ztn) zlw zrz zpn zpw (o_fell_h ztn zpn zhi) zrg zpg zhp zph zR0 zR1 zR2 zR3 zkf zmf zlf zcf zsf ztf zP0 zP1 zP2 zP3 zpk zpm zpv zpc zps zpt ztp zcd zen zso znz zgs zin ziw zig zih zsk zmc zms zmt zco zbg zos zoc zss zsz zit TT := by
  obtain ⟨⟨l1, l2, l3, l4, l5, l6, l7, l8, l9⟩, h2, h3, h4, h5, h6, h7, h8⟩ := h
  have hn : o_fell_n ztn ≤ ztn := by
    unfold o_fell_n
    split <;> omega
  refine ⟨⟨by omega, l2, l3, l4, l5, l6, gR_le l7 hn, gR_le l8 hn, l9⟩, h2, h3, gT_le h4 hn, h5, fun h9 => ?_, h7, h8⟩
  have h10 : zhi ≠ 0 ∧ (ztn = 0 ∨ zpn ≤ ztn - 1) := by
    unfold o_fell_h at h9
    by_cases e1 : ztn = 0
    · rw [if_pos e1] at h9
      exact ⟨h9, Or.inl e1⟩
    · rw [if_neg e1] at h9
      by_cases e2 : zpn > ztn - 1
      · rw [if_pos e2] at h9
        exact absurd rfl h9
      · rw [if_neg e2] at h9
        exact ⟨h9, Or.inr (by omega)⟩
  obtain ⟨g1, g2, g3, g4, g5, g6⟩ := h6 h10.1
  refine ⟨g1, g2, g3, ?_, g5, g6⟩
  unfold o_fell_n
  split
  · exact g4
  · rcases h10.2 with h11 | h11
    · contradiction
    · exact h11
theorem I_strew (h : INV zwr ztn zlw zrz zpn zpw zhi zrg zpg zhp zph zR0 zR1 zR2 zR3 zkf zmf zlf zcf zsf ztf zP0 zP1 zP2 zP3 zpk zpm zpv zpc zps zpt ztp zcd zen zso znz zgs zin ziw zig zih zsk zmc zms zmt zco zbg zos zoc zss zsz zit TT) (c v : Int32) : INV zwr ztn zlw zrz zpn zpw zhi zrg zpg zhp zph zR0 zR1 zR2 zR3 zkf zmf (o_strew_f zlf c v) zcf zsf ztf zP0 zP1 zP2 zP3 zpk zpm zpv zpc zps zpt ztp zcd zen zso znz zgs zin ziw zig zih zsk zmc zms zmt zco zbg zos zoc zss zsz zit TT := by
  obtain ⟨⟨l1, l2, l3, l4, l5, l6, l7, l8, l9⟩, h2, h3, h4, h5, h6, h7, h8⟩ := h
  exact ⟨⟨l1, l2, l3, l4, l5, k_strew l6 c v, l7, l8, l9⟩, h2, h3, h4, h5, h6, h7, h8⟩
theorem I_rake (h : INV zwr ztn zlw zrz zpn zpw zhi zrg zpg zhp zph zR0 zR1 zR2 zR3 zkf zmf zlf zcf zsf ztf zP0 zP1 zP2 zP3 zpk zpm zpv zpc zps zpt ztp zcd zen zso znz zgs zin ziw zig zih zsk zmc zms zmt zco zbg zos zoc zss zsz zit TT) (v : Int32) : INV zwr ztn zlw zrz zpn zpw zhi v zpg zhp zph zR0 zR1 zR2 zR3 zkf zmf zlf zcf zsf ztf zP0 zP1 zP2 zP3 zpk zpm zpv zpc zps zpt ztp zcd zen zso znz zgs zin ziw zig zih zsk zmc zms zmt zco zbg zos zoc zss zsz zit TT := by
  obtain ⟨⟨l1, l2, l3, l4, l5, l6, l7, l8, l9⟩, h2, h3, h4, h5, h6, h7, h8⟩ := h
  exact ⟨⟨l1, l2, l3, l4, l5, l6, l7, l8, l9⟩, h2, h3, h4, h5, h6, h7, h8⟩
theorem I_heap (h : INV zwr ztn zlw zrz zpn zpw zhi zrg zpg zhp zph zR0 zR1 zR2 zR3 zkf zmf zlf zcf zsf ztf zP0 zP1 zP2 zP3 zpk zpm zpv zpc zps zpt ztp zcd zen zso znz zgs zin ziw zig zih zsk zmc zms zmt zco zbg zos zoc zss zsz zit TT) (v : Int64) : INV zwr ztn zlw zrz zpn zpw zhi zrg zpg (o_heap_v zhp v) zph zR0 zR1 zR2 zR3 zkf zmf zlf zcf zsf ztf zP0 zP1 zP2 zP3 zpk zpm zpv zpc zps zpt ztp zcd zen zso znz zgs zin ziw zig zih zsk zmc zms zmt zco zbg zos zoc zss zsz zit TT := by
  obtain ⟨⟨l1, l2, l3, l4, l5, l6, l7, l8, l9⟩, h2, h3, h4, h5, h6, h7, h8⟩ := h
  exact ⟨⟨l1, l2, l3, l4, l5, l6, l7, l8, k_heap l9⟩, h2, h3, h4, h5, h6, h7, h8⟩
theorem I_image (h : INV zwr ztn zlw zrz zpn zpw zhi zrg zpg zhp zph zR0 zR1 zR2 zR3 zkf zmf zlf zcf zsf ztf zP0 zP1 zP2 zP3 zpk zpm zpv zpc zps zpt ztp zcd zen zso znz zgs zin ziw zig zih zsk zmc zms zmt zco zbg zos zoc zss zsz zit TT)  : INV zwr ztn zlw zrz ztn zlw 1 zrg zrg zhp zhp zR0 zR1 zR2 zR3 zkf zmf zlf zcf zsf ztf zR0 zR1 zR2 zR3 zkf zmf zlf zcf zsf ztf ztp zcd zen zso znz zgs ztn zlw zrg zhp zsk zmc zms zmt zco zbg zsk (o_cells zkf zmf zlf) zss zsz zit TT := by
  obtain ⟨⟨l1, l2, l3, l4, l5, l6, l7, l8, l9⟩, h2, h3, h4, h5, h6, h7, h8⟩ := h
  exact ⟨⟨l1, l2, l3, l4, l5, l6, l7, l8, l9⟩, h2, h3, h4, ⟨l1, l1⟩, fun _ => ⟨⟨rfl, rfl, rfl, rfl⟩, h3, rfl, Nat.le_refl _, ⟨l1, l2, l3, l4, l5, l6, l7, l8, l9⟩, gT_rfl _ _ _ _⟩, h7, h8⟩
theorem I_back (h : INV zwr ztn zlw zrz zpn zpw zhi zrg zpg zhp zph zR0 zR1 zR2 zR3 zkf zmf zlf zcf zsf ztf zP0 zP1 zP2 zP3 zpk zpm zpv zpc zps zpt ztp zcd zen zso znz zgs zin ziw zig zih zsk zmc zms zmt zco zbg zos zoc zss zsz zit TT) (h9 : zhi ≠ 0) : INV zwr zpn zpw zrz zpn zpw zhi zpg zpg zph zph zP0 zP1 zP2 zP3 zpk zpm zpv zpc zps zpt zP0 zP1 zP2 zP3 zpk zpm zpv zpc zps zpt ztp zcd zen zso znz zgs zin ziw zig zih zos zmc zms zmt zco zbg zos zoc zss zsz zit TT := by
  obtain ⟨⟨l1, l2, l3, l4, l5, l6, l7, l8, l9⟩, h2, h3, h4, h5, h6, h7, h8⟩ := h
  obtain ⟨g1, g2, g3, g4, g5, g6⟩ := h6 h9
  exact ⟨g5, h2, g2, gT_tr g6 (gT_le h4 g4), h5, fun _ => ⟨g1, g2, g3, Nat.le_refl _, g5, gT_rfl _ _ _ _⟩, h7, h8⟩
theorem I_backe (h : INV zwr ztn zlw zrz zpn zpw zhi zrg zpg zhp zph zR0 zR1 zR2 zR3 zkf zmf zlf zcf zsf ztf zP0 zP1 zP2 zP3 zpk zpm zpv zpc zps zpt ztp zcd zen zso znz zgs zin ziw zig zih zsk zmc zms zmt zco zbg zos zoc zss zsz zit TT) (h9 : zhi ≠ 0) : zin = zpn ∧ ziw = zpw ∧ zig = zpg ∧ zih = zph ∧ zoc = o_cells zpk zpm zpv := by
  obtain ⟨⟨l1, l2, l3, l4, l5, l6, l7, l8, l9⟩, h2, h3, h4, h5, h6, h7, h8⟩ := h
  obtain ⟨g1, g2, g3, g4, g5, g6⟩ := h6 h9
  exact ⟨g1.1.symm, g1.2.1.symm, g1.2.2.1.symm, g1.2.2.2.symm, g3⟩
theorem I_shs (h : INV zwr ztn zlw zrz zpn zpw zhi zrg zpg zhp zph zR0 zR1 zR2 zR3 zkf zmf zlf zcf zsf ztf zP0 zP1 zP2 zP3 zpk zpm zpv zpc zps zpt ztp zcd zen zso znz zgs zin ziw zig zih zsk zmc zms zmt zco zbg zos zoc zss zsz zit TT) {so' : Nat → Int32} {nz' : Nat → Nat} {gs' : Nat → sF} {ss' sz' it' : sF} (hq : iSh so' nz' gs' ss' sz' it') : INV zwr ztn zlw zrz zpn zpw zhi zrg zpg zhp zph zR0 zR1 zR2 zR3 zkf zmf zlf zcf zsf ztf zP0 zP1 zP2 zP3 zpk zpm zpv zpc zps zpt ztp zcd zen so' nz' gs' zin ziw zig zih zsk zmc zms zmt zco zbg zos zoc ss' sz' it' TT := by
  obtain ⟨⟨l1, l2, l3, l4, l5, l6, l7, l8, l9⟩, h2, h3, h4, h5, h6, h7, h8⟩ := h
  exact ⟨⟨l1, l2, l3, l4, l5, l6, l7, l8, l9⟩, h2, h3, h4, h5, h6, hq, h8⟩
end II
section IS
variable {so : Nat → Int32} {nz nzf : Nat → Nat} {gs : Nat → sF} {ss sz it : sF} {j9 : Nat} {s t n : Int32}
theorem iSh_same (h : iSh so nz gs ss sz it) {it' : sF} (hi : ∀ q, it' q = it q) : iSh so nz gs ss sz it' := by
  have e : it' = it := funext hi
  rw [e]
  exact h
theorem iS_sheet (h : iSh so nz gs ss sz it) (hj9 : j9 < 4) (hs9 : ∀ i, i < 4 → s = nI i → i = j9) {r so' : Int32} {nz' : Nat} {g' c' : sF} (hn : nz' ≤ 40) (he : (r, so', nI nz', g') = (o_sheet s t n, o_sheet_so (so j9) s t n, o_sheet_sz (nI (nz j9)) s t n, o_sheet_g (gs j9) s t n)) (hc : ∀ q, c' q = o_msheet_g it s t n q) : iSh (r_ch so j9 so') (r_ch nz j9 nz') (r_ch gs j9 g') (o_msheet_so ss s t n) (o_msheet_sz sz s t n) c' := by
  obtain ⟨-, he⟩ := Prod.mk.inj he
  obtain ⟨e1, he⟩ := Prod.mk.inj he
  obtain ⟨e2, e3⟩ := Prod.mk.inj he
  have hc9 : c' = o_msheet_g it s t n := funext hc
  subst hc9
  subst e1
  subst e3
  have hb := iSh_1 h hj9
  have sm : nI nz' = nI (nz j9) → nz' = nz j9 := fun e => by
    have h9 := hb.1
    exact (nI_eq (a := nz') (b := nz j9) (by omega) (by omega)).mp e
  unfold o_sheet_so o_sheet_g o_msheet_so o_msheet_sz o_msheet_g
  unfold o_sheet_sz at e2
  rcases k_s4 hs9 with e | ⟨rfl, hj, e⟩
  · simp only [if_neg e] at e2 ⊢
    rw [sm e2, r_ch_id, r_ch_id, r_ch_id]
    exact h
  · by_cases f1 : -1 ≤ t ∧ t ≤ 2
    · by_cases f2 : t = -1
      · simp only [if_pos e, if_pos f1, if_pos f2] at e2 ⊢
        have e9 : nz' = 0 := (nI_eq (a := nz') (b := 0) (by omega) (by omega)).mp (e2.trans nI_0.symm)
        rw [hj]
        refine iSh_upd h ⟨hn, hb.2.1, ?_, fun h9 => absurd f2 h9⟩ (fun i hi hne => ⟨pk_un hne, rfl, fun _ _ => rfl⟩)
        rw [pk_us]
        exact f2.symm
      · by_cases f3 : n ≤ 40
        · by_cases f4 : 0 ≤ n
          · simp only [if_pos e, if_pos f1, if_neg f2, if_pos f3, if_pos f4] at e2 ⊢
            rw [hj]
            refine iSh_upd h ⟨hn, ?_, pk_us, fun _ => ⟨?_, fun c hc => ?_⟩⟩ (fun i hi hne => ⟨pk_un hne, pk_un hne, fun c hc => ?_⟩)
            · rw [pk_us]
              exact ⟨f4, f3⟩
            · rw [pk_us]
              exact e2.symm
            · show (0 : Int32) = o_wipe it j9 40 (40 * j9 + c)
              unfold o_wipe
              rw [if_pos (by omega)]
            · unfold o_wipe
              rw [if_neg (by omega)]
          · simp only [if_pos e, if_pos f1, if_neg f2, if_pos f3, if_neg f4] at e2 ⊢
            rw [sm e2, r_ch_id, r_ch_id, r_ch_id]
            exact h
        · simp only [if_pos e, if_pos f1, if_neg f2, if_neg f3] at e2 ⊢
          rw [sm e2, r_ch_id, r_ch_id, r_ch_id]
          exact h
    · simp only [if_pos e, if_neg f1] at e2 ⊢
      rw [sm e2, r_ch_id, r_ch_id, r_ch_id]
      exact h
theorem iS_cell (h : iSh so nz gs ss (nIf nzf) it) (hf : ∀ j, j < 4 → nzf j ≤ 40) (hj9 : j9 < 4) (hs9 : ∀ i, i < 4 → s = nI i → i = j9) (i v : Int32) : o_cell (so j9) (nz j9) s i v = o_cell (ss (o_n s)) (nzf (o_n s)) s i v ∧ iSh so nz (r_ch gs j9 (o_cell_g (gs j9) (so j9) (nz j9) s i v)) ss (nIf nzf) (o_mcell_g it (ss (o_n s)) (nzf (o_n s)) s i v) := by
  have hb := iSh_1 h hj9
  obtain ⟨hs, hg⟩ := iSh_gS h hf hj9
  rcases k_s4 hs9 with e | ⟨rfl, hj, e⟩
  · unfold o_cell o_cell_g o_mcell_g
    simp only [if_neg e]
    rw [r_ch_id]
    exact ⟨trivial, h⟩
  · rw [hj, hs]
    refine ⟨g_cellS hg _ _ _, ?_⟩
    unfold o_cell_g o_mcell_g
    by_cases f1 : so j9 = -1
    · simp only [if_pos e, if_pos f1]
      rw [r_ch_id]
      exact h
    · obtain ⟨hz, hrow⟩ := hg f1
      rw [← hz, hj]
      by_cases f2 : 0 ≤ i ∧ i ≤ nI (nz j9) - 1
      · simp only [if_pos e, if_neg f1, if_pos f2]
        obtain ⟨k, hk, rfl⟩ := q_size hb.1 f2
        have h40 := hb.1
        rw [o_n_nI (by omega)]
        have q := iSh_upd (so' := so j9) (nz' := nz j9) (g' := upd (gs j9) k (s_cut (so j9) v)) (ss2 := ss) (sz2 := nIf nzf) (it2 := upd it (40 * j9 + k) (s_cut (so j9) v)) h ⟨hb.1, hb.2.1, hs, fun h9 => ⟨(hb.2.2.2 h9).1, fun c hc => ?_⟩⟩ (fun i hi hne => ⟨rfl, rfl, fun c hc => pk_un (by omega)⟩)
        · rw [r_ch_id, r_ch_id] at q
          exact q
        · show upd (gs j9) k (s_cut (so j9) v) c = upd it (40 * j9 + k) (s_cut (so j9) v) (40 * j9 + c)
          by_cases e9 : c = k
          · subst e9
            rw [pk_us, pk_us]
          · rw [pk_un e9, pk_un (by omega)]
            exact hrow c hc
      · simp only [if_pos e, if_neg f1, if_neg f2]
        rw [r_ch_id]
        exact h
theorem q_part {nz : Nat} {i n : Int32} (hz : nz ≤ 40) (hn : ¬ n < 0) (h : 0 ≤ i ∧ i ≤ nI nz - n) : ∃ a z : Nat, i = nI a ∧ n = nI z ∧ a + z ≤ nz := by
  have e0 : (0 : Int32).toInt = 0 := rfl
  have n1 : 0 ≤ n.toInt := by
    rw [Int32.lt_iff_toInt_lt, e0] at hn
    omega
  have n2 : n.toInt < 2147483648 := n.toInt_lt
  have hz9 : (nI nz).toInt = nz := nI_toInt (by omega)
  have i1 : 0 ≤ i.toInt := by
    have h1 := h.1
    rw [Int32.le_iff_toInt_le, e0] at h1
    exact h1
  have i2 : i.toInt ≤ nz - n.toInt := by
    have h1 := h.2
    rw [Int32.le_iff_toInt_le, q_tsub (by omega) (by omega), hz9] at h1
    exact h1
  exact ⟨i.toInt.toNat, n.toInt.toNat, q_nIof i1, q_nIof n1, by omega⟩
theorem iS_copy (h : iSh so nz gs ss (nIf nzf) it) (hf : ∀ j, j < 4 → nzf j ≤ 40) (hj9 : j9 < 4) (hs9 : ∀ i, i < 4 → s = nI i → i = j9) {j8 : Nat} (hj8 : j8 < 4) (hs8 : ∀ i, i < 4 → t = nI i → i = j8) (i j : Int32) : o_copy (so j9) (nz j9) (so j8) (nz j8) s i t j n = o_copy (ss (o_n s)) (nzf (o_n s)) (ss (o_n t)) (nzf (o_n t)) s i t j n ∧ iSh so nz (r_ch gs j8 (o_copy_g (gs j9) (gs j8) (so j9) (nz j9) (so j8) (nz j8) s i t j n)) ss (nIf nzf) (o_mcopy_g it (ss (o_n s)) (ss (o_n t)) (nzf (o_n s)) (nzf (o_n t)) s i t j n) := by
  have hb := iSh_1 h hj9
  have hb8 := iSh_1 h hj8
  obtain ⟨hs, hg⟩ := iSh_gS h hf hj9
  obtain ⟨ht, hg8⟩ := iSh_gS h hf hj8
  rcases k_s4 hs9 with e | ⟨rfl, hj, e⟩
  · unfold o_copy o_copy_g o_mcopy_g
    simp only [if_neg e]
    rw [r_ch_id]
    exact ⟨trivial, h⟩
  · rcases k_s4 hs8 with f | ⟨rfl, hk, f⟩
    · unfold o_copy o_copy_g o_mcopy_g
      simp only [if_pos e, if_neg f]
      rw [r_ch_id]
      exact ⟨trivial, h⟩
    · rw [hj, hs, hk, ht]
      refine ⟨g_copyS hg hg8 _ _ _ _ _, ?_⟩
      unfold o_copy_g o_mcopy_g
      by_cases f1 : so j9 = -1
      · simp only [if_pos e, if_pos f, if_pos f1]
        rw [r_ch_id]
        exact h
      · by_cases f2 : so j8 = -1
        · simp only [if_pos e, if_pos f, if_neg f1, if_pos f2]
          rw [r_ch_id]
          exact h
        · obtain ⟨hz, hrow⟩ := hg f1
          obtain ⟨hz8, hrow8⟩ := hg8 f2
          rw [← hz, ← hz8, hj, hk]
          by_cases f3 : so j9 = so j8
          · by_cases f4 : n < 0
            · simp only [if_pos e, if_pos f, if_neg f1, if_neg f2, if_pos f3, if_pos f4]
              rw [r_ch_id]
              exact h
            · by_cases f5 : 0 ≤ i ∧ i ≤ nI (nz j9) - n
              · by_cases f6 : 0 ≤ j ∧ j ≤ nI (nz j8) - n
                · simp only [if_pos e, if_pos f, if_neg f1, if_neg f2, if_pos f3, if_neg f4, if_pos f5, if_pos f6]
                  obtain ⟨a, z, rfl, hn1, ha⟩ := q_part hb.1 f4 f5
                  obtain ⟨b, z2, rfl, hn2, hb2⟩ := q_part hb8.1 f4 f6
                  have h40 := hb.1
                  have h48 := hb8.1
                  have e9 : z = z2 := (nI_eq (a := z) (b := z2) (by omega) (by omega)).mp (hn1.symm.trans hn2)
                  subst e9
                  subst hn1
                  rw [o_n_nI (j := a) (by omega), o_n_nI (j := b) (by omega), o_n_nI (j := z) (by omega)]
                  have q := iSh_upd (j := j8) (so' := so j8) (nz' := nz j8) (g' := va_cpy (gs j9) (gs j8) a b z) (ss2 := ss) (sz2 := nIf nzf) (it2 := o_mcp it (40 * j9 + a) (40 * j8 + b) z) h ⟨hb8.1, hb8.2.1, ht, fun h9 => ⟨(hb8.2.2.2 h9).1, fun c hc => ?_⟩⟩ (fun i hi hne => ⟨rfl, rfl, fun c hc => by unfold o_mcp; rw [if_neg (by omega)]⟩)
                  · rw [r_ch_id, r_ch_id] at q
                    exact q
                  · show va_cpy (gs j9) (gs j8) a b z c = o_mcp it (40 * j9 + a) (40 * j8 + b) z (40 * j8 + c)
                    unfold va_cpy o_mcp
                    by_cases e9 : b ≤ c ∧ c < b + z
                    · rw [if_pos e9, if_pos (by omega), hrow _ (by omega)]
                      show it (40 * j9 + (a + (c - b))) = _
                      congr 1
                      omega
                    · rw [if_neg e9, if_neg (by omega)]
                      exact hrow8 c hc
                · simp only [if_pos e, if_pos f, if_neg f1, if_neg f2, if_pos f3, if_neg f4, if_pos f5, if_neg f6]
                  rw [r_ch_id]
                  exact h
              · simp only [if_pos e, if_pos f, if_neg f1, if_neg f2, if_pos f3, if_neg f4, if_neg f5]
                rw [r_ch_id]
                exact h
          · simp only [if_pos e, if_pos f, if_neg f1, if_neg f2, if_neg f3]
            rw [r_ch_id]
            exact h
theorem iS_film {G G' : sG} (hG : gA G G') (h : iSh so nz gs ss (nIf nzf) it) (hj9 : j9 < 4) (hs9 : ∀ i, i < 4 → s = nI i → i = j9) {so' : Int32} {nz' : Nat} {g' c' : sF} (e1 : so' = o_film_so (so j9) s n) (e2 : nz' = o_film_nz (nz j9) s n) (e3 : ∀ q, g' q = o_film_g G (gs j9) s n q) (hc : ∀ q, c' q = o_mfilm_g G' it s n q) : iSh (r_ch so j9 so') (r_ch nz j9 nz') (r_ch gs j9 g') (o_mfilm_so ss s n) (o_mfilm_sz (nIf nzf) s n) c' := by
  have hc9 : c' = o_mfilm_g G' it s n := funext hc
  have hg9 : g' = o_film_g G (gs j9) s n := funext e3
  subst hc9
  subst hg9
  subst e1
  subst e2
  have hb := iSh_1 h hj9
  unfold o_film_so o_film_nz o_film_g o_mfilm_so o_mfilm_sz o_mfilm_g
  rcases k_s4 hs9 with e | ⟨rfl, hj, e⟩
  · simp only [if_neg e]
    rw [r_ch_id, r_ch_id, r_ch_id]
    exact h
  · by_cases f1 : 0 ≤ n ∧ n ≤ 14
    · simp only [if_pos e, if_pos f1]
      rw [hj, hG.1 (o_n n)]
      refine iSh_upd h ⟨by decide, ?_, pk_us, fun _ => ⟨?_, fun c hc => ?_⟩⟩ (fun i hi hne => ⟨pk_un hne, pk_un hne, fun c hc => ?_⟩)
      · rw [pk_us]
        exact ⟨by decide, by decide⟩
      · rw [pk_us]
        rfl
      · show (if c < 36 then o_sm (s_gone G' (o_n n)) c else 0) = o_mfl G' (o_n n) it j9 40 (40 * j9 + c)
        unfold o_mfl
        rw [if_pos (show 40 * j9 ≤ 40 * j9 + c ∧ 40 * j9 + c < 40 * j9 + 40 by omega), show 40 * j9 + c - 40 * j9 = c by omega]
      · unfold o_mfl
        rw [if_neg (by omega)]
    · simp only [if_pos e, if_neg f1]
      rw [r_ch_id, r_ch_id, r_ch_id]
      exact h
end IS
