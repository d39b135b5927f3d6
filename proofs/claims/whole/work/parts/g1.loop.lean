theorem q_and63 (x : Int32) : ∃ j, j < 64 ∧ x &&& 63 = nI j := by
  refine ⟨(x &&& 63).toBitVec.toNat, ?_, ?_⟩
  · have e : (x &&& 63).toBitVec = x.toBitVec &&& 63#32 := rfl
    rw [e, BitVec.toNat_and]
    have h := Nat.and_le_right (n := x.toBitVec.toNat) (m := (63#32).toNat)
    have e2 : (63#32 : BitVec 32).toNat = 63 := rfl
    omega
  · apply Int32.toBitVec_inj.mp
    show (x &&& 63).toBitVec = BitVec.ofNat 32 (x &&& 63).toBitVec.toNat
    apply BitVec.eq_of_toNat_eq
    rw [BitVec.toNat_ofNat]
    exact (Nat.mod_eq_of_lt (x &&& 63).toBitVec.isLt).symm
theorem q_seven {L i : Nat} (hL : L ≤ 448) (hi : i ≤ L) (c : ¬ nI L - 7 < nI i) : i + 7 ≤ L := by
  have e7 : (7 : Int32).toInt = 7 := rfl
  have eL : (nI L).toInt = L := nI_toInt (by omega)
  have ei : (nI i).toInt = i := nI_toInt (by omega)
  rw [Int32.lt_iff_toInt_lt, q_tsub (by omega) (by omega), e7, eL, ei] at c
  omega
section LP
variable {X : rT} {l : Launch} {D9 : va_G} {cI cM cW cS : ClassId} {adK adV : Nat → Nat} {fm : Option Nat} {b9 L9 i9 K9 N9 : Nat} {xs9 : Nat → Int32} {zad zq zqc zqs zqe zsh zra zem : Nat → Nat} {zwr ztn zlw zrz zpn zpw : Nat} {zhi zrg zpg : Int32} {zhp zph : Int64} {zR0 zR1 zR2 zR3 zkf zmf zlf zcf zsf ztf zP0 zP1 zP2 zP3 zpk zpm zpv zpc zps zpt ztp : sF} {zcd zen : Nat → sF} {zso : Nat → Int32} {znz : Nat → Nat} {zgs : Nat → sF} {zin ziw : Nat} {zig : Int32} {zih : Int64} {zsk zmc zms zmt zco zbg zos zoc zss zsz zit : sF} {TT : Nat → sT} {Y : sY} {V : sV}
set_option maxHeartbeats 4000000 in
set_option maxRecDepth 100000 in
theorem L_sw (C9 : rC X l cL_law 4 RL room_1 D9 (tY cI cM cW cS) (zLw adK adV fm b9 L9 xs9) false) (hL : L9 < 2 ^ 31) (hi : i9 + 6 < L9) (hk : K9 ≤ 600000 ∧ N9 ≤ 7302250) (h : INV zwr ztn zlw zrz zpn zpw zhi zrg zpg zhp zph zR0 zR1 zR2 zR3 zkf zmf zlf zcf zsf ztf zP0 zP1 zP2 zP3 zpk zpm zpv zpc zps zpt ztp zcd zen zso znz zgs zin ziw zig zih zsk zmc zms zmt zco zbg zos zoc zss zsz zit TT) (kk : LH X K9 N9 b9 i9 cI cM cW cS zad zq zqc zqs zqe zsh zra zem 1764) {j : Nat} (hj : j < 64) : X K9 N9 (CWo cI cM cW cS zad zq zqc zqs zqe zsh zra id zwr ztn zlw zrz zpn zpw zhi zrg zpg zhp zph zR0 zR1 zR2 zR3 zkf zmf zlf zcf zsf ztf zP0 zP1 zP2 zP3 zpk zpm zpv zpc zps zpt ztp zcd zen zso znz zgs Y ++ MW cI zem zwr ztn zlw zrz zin ziw zhi zrg zig zhp zih zsk zkf zmf zlf zmc zms zmt ztp zco zbg zos zoc zss zsz zit V) [(0, .ref b9), (1, .ref (zad 0)), (2, .ref (zem 0)), (3, .int (nI i9))] 33 [.int (nI j)] := by
  by_cases e : 42 < j
  · refine x_tableOut C9 dL_law_33 (Or.inr ?_) (tgt := 1764) rfl (kk h)
    rw [nI_toInt (by omega)]
    omega
  · rcases (show j = 0 ∨ j = 1 ∨ j = 2 ∨ j = 3 ∨ j = 4 ∨ j = 5 ∨ j = 6 ∨ j = 7 ∨ j = 8 ∨ j = 9 ∨ j = 10 ∨ j = 11 ∨ j = 12 ∨ j = 13 ∨ j = 14 ∨ j = 15 ∨ j = 16 ∨ j = 17 ∨ j = 18 ∨ j = 19 ∨ j = 20 ∨ j = 21 ∨ j = 22 ∨ j = 23 ∨ j = 24 ∨ j = 25 ∨ j = 26 ∨ j = 27 ∨ j = 28 ∨ j = 29 ∨ j = 30 ∨ j = 31 ∨ j = 32 ∨ j = 33 ∨ j = 34 ∨ j = 35 ∨ j = 36 ∨ j = 37 ∨ j = 38 ∨ j = 39 ∨ j = 40 ∨ j = 41 ∨ j = 42 by omega) with rfl | rfl | rfl | rfl | rfl | rfl | rfl | rfl | rfl | rfl | rfl | rfl | rfl | rfl | rfl | rfl | rfl | rfl | rfl | rfl | rfl | rfl | rfl | rfl | rfl | rfl | rfl | rfl | rfl | rfl | rfl | rfl | rfl | rfl | rfl | rfl | rfl | rfl | rfl | rfl | rfl | rfl | rfl
    · exact x_tableIn C9 dL_law_33 (by decide) (by decide) (off := 187) (tgt := 220) rfl rfl (L_sky C9 hL hi hk h kk)
    · exact x_tableIn C9 dL_law_33 (by decide) (by decide) (off := 230) (tgt := 263) rfl rfl (L_skyTold C9 hL hi hk h kk)
    · exact x_tableIn C9 dL_law_33 (by decide) (by decide) (off := 263) (tgt := 296) rfl rfl (L_count C9 hL hi hk h kk)
    · exact x_tableIn C9 dL_law_33 (by decide) (by decide) (off := 286) (tgt := 319) rfl rfl (L_feed C9 hL hi hk h kk)
    · exact x_tableIn C9 dL_law_33 (by decide) (by decide) (off := 361) (tgt := 394) rfl rfl (L_text C9 hL hi hk h kk)
    · exact x_tableIn C9 dL_law_33 (by decide) (by decide) (off := 374) (tgt := 407) rfl rfl (L_force C9 hL hi hk h kk)
    · exact x_tableIn C9 dL_law_33 (by decide) (by decide) (off := 397) (tgt := 430) rfl rfl (L_asks C9 hL hi hk h kk)
    · exact x_tableIn C9 dL_law_33 (by decide) (by decide) (off := 460) (tgt := 493) rfl rfl (L_lay C9 hL hi hk h kk)
    · exact x_tableIn C9 dL_law_33 (by decide) (by decide) (off := 503) (tgt := 536) rfl rfl (L_plot C9 hL hi hk h kk)
    · exact x_tableIn C9 dL_law_33 (by decide) (by decide) (off := 556) (tgt := 589) rfl rfl (L_cellTold C9 hL hi hk h kk)
    · exact x_tableIn C9 dL_law_33 (by decide) (by decide) (off := 589) (tgt := 622) rfl rfl (L_tree C9 hL hi hk h kk)
    · exact x_tableIn C9 dL_law_33 (by decide) (by decide) (off := 632) (tgt := 665) rfl rfl (L_treeTold C9 hL hi hk h kk)
    · exact x_tableIn C9 dL_law_33 (by decide) (by decide) (off := 665) (tgt := 698) rfl rfl (L_fell C9 hL hi hk h kk)
    · exact x_tableIn C9 dL_law_33 (by decide) (by decide) (off := 678) (tgt := 711) rfl rfl (L_strew C9 hL hi hk h kk)
    · exact x_tableIn C9 dL_law_33 (by decide) (by decide) (off := 711) (tgt := 744) rfl rfl (L_rake C9 hL hi hk h kk)
    · exact x_tableIn C9 dL_law_33 (by decide) (by decide) (off := 734) (tgt := 767) rfl rfl (L_heap C9 hL hi hk h kk)
    · exact x_tableIn C9 dL_law_33 (by decide) (by decide) (off := 788) (tgt := 821) rfl rfl (L_lie C9 hL hi hk h kk)
    · exact x_tableIn C9 dL_law_33 (by decide) (by decide) (off := 831) (tgt := 864) rfl rfl (L_sum C9 hL hi hk h kk)
    · exact x_tableIn C9 dL_law_33 (by decide) (by decide) (off := 864) (tgt := 897) rfl rfl (L_hang C9 hL hi hk h kk)
    · exact x_tableIn C9 dL_law_33 (by decide) (by decide) (off := 897) (tgt := 930) rfl rfl (L_great C9 hL hi hk h kk)
    · exact x_tableIn C9 dL_law_33 (by decide) (by decide) (off := 920) (tgt := 953) rfl rfl (L_worst C9 hL hi hk h kk)
    · exact x_tableIn C9 dL_law_33 (by decide) (by decide) (off := 953) (tgt := 986) rfl rfl (L_corner C9 hL hi hk h kk)
    · exact x_tableIn C9 dL_law_33 (by decide) (by decide) (off := 986) (tgt := 1019) rfl rfl (L_least C9 hL hi hk h kk)
    · exact x_tableIn C9 dL_law_33 (by decide) (by decide) (off := 1019) (tgt := 1052) rfl rfl (L_thrice C9 hL hi hk h kk)
    · exact x_tableIn C9 dL_law_33 (by decide) (by decide) (off := 1032) (tgt := 1065) rfl rfl (L_where C9 hL hi hk h kk)
    · exact x_tableIn C9 dL_law_33 (by decide) (by decide) (off := 1065) (tgt := 1098) rfl rfl (L_raking C9 hL hi hk h kk)
    · exact x_tableIn C9 dL_law_33 (by decide) (by decide) (off := 1088) (tgt := 1121) rfl rfl (L_tonight C9 hL hi hk h kk)
    · exact x_tableIn C9 dL_law_33 (by decide) (by decide) (off := 1131) (tgt := 1164) rfl rfl (L_hurdle C9 hL hi hk h kk)
    · exact x_tableIn C9 dL_law_33 (by decide) (by decide) (off := 1174) (tgt := 1207) rfl rfl (L_share C9 hL hi hk h kk)
    · exact x_tableIn C9 dL_law_33 (by decide) (by decide) (off := 1218) (tgt := 1251) rfl rfl (L_away C9 hL hi hk h kk)
    · exact x_tableIn C9 dL_law_33 (by decide) (by decide) (off := 1241) (tgt := 1274) rfl rfl (L_judge C9 hL hi hk h kk)
    · exact x_tableIn C9 dL_law_33 (by decide) (by decide) (off := 1274) (tgt := 1307) rfl rfl (L_laws C9 hL hi hk h kk)
    · exact x_tableIn C9 dL_law_33 (by decide) (by decide) (off := 1307) (tgt := 1340) rfl rfl (L_winds C9 hL hi hk h kk)
    · exact x_tableIn C9 dL_law_33 (by decide) (by decide) (off := 1340) (tgt := 1373) rfl rfl (L_film C9 hL hi hk h kk)
    · exact x_tableIn C9 dL_law_33 (by decide) (by decide) (off := 1373) (tgt := 1406) rfl rfl (L_drawn C9 hL hi hk h kk)
    · exact x_tableIn C9 dL_law_33 (by decide) (by decide) (off := 1416) (tgt := 1449) rfl rfl (L_odds C9 hL hi hk h kk)
    · exact x_tableIn C9 dL_law_33 (by decide) (by decide) (off := 1470) (tgt := 1503) rfl rfl (L_image C9 hL hi hk h kk)
    · exact x_tableIn C9 dL_law_33 (by decide) (by decide) (off := 1483) (tgt := 1516) rfl rfl (L_back C9 hL hi hk h kk)
    · exact x_tableIn C9 dL_law_33 (by decide) (by decide) (off := 1496) (tgt := 1529) rfl rfl (L_sheet C9 hL hi hk h kk)
    · exact x_tableIn C9 dL_law_33 (by decide) (by decide) (off := 1539) (tgt := 1572) rfl rfl (L_cell C9 hL hi hk h kk)
    · exact x_tableIn C9 dL_law_33 (by decide) (by decide) (off := 1582) (tgt := 1615) rfl rfl (L_copy C9 hL hi hk h kk)
    · exact x_tableIn C9 dL_law_33 (by decide) (by decide) (off := 1645) (tgt := 1678) rfl rfl (L_treesBy C9 hL hi hk h kk)
    · exact x_tableIn C9 dL_law_33 (by decide) (by decide) (off := 1698) (tgt := 1731) rfl rfl (L_taken C9 hL hi hk h kk)
theorem L_next (C9 : rC X l cL_law 4 RL room_1 D9 (tY cI cM cW cS) (zLw adK adV fm b9 L9 xs9) false) (h : INV zwr ztn zlw zrz zpn zpw zhi zrg zpg zhp zph zR0 zR1 zR2 zR3 zkf zmf zlf zcf zsf ztf zP0 zP1 zP2 zP3 zpk zpm zpv zpc zps zpt ztp zcd zen zso znz zgs zin ziw zig zih zsk zmc zms zmt zco zbg zos zoc zss zsz zit TT) (kk : LH X K9 N9 b9 (i9 + 7) cI cM cW cS zad zq zqc zqs zqe zsh zra zem 18) : X K9 N9 (CWo cI cM cW cS zad zq zqc zqs zqe zsh zra id zwr ztn zlw zrz zpn zpw zhi zrg zpg zhp zph zR0 zR1 zR2 zR3 zkf zmf zlf zcf zsf ztf zP0 zP1 zP2 zP3 zpk zpm zpv zpc zps zpt ztp zcd zen zso znz zgs Y ++ MW cI zem zwr ztn zlw zrz zin ziw zhi zrg zig zhp zih zsk zkf zmf zlf zmc zms zmt ztp zco zbg zos zoc zss zsz zit V) [(0, .ref b9), (1, .ref (zad 0)), (2, .ref (zem 0)), (3, .int (nI i9))] 1764 [] := by
  refine x_iinc C9 dL_law_1764 3 rfl (v := nI (i9 + 7)) (nI_add i9 7) (by decide) (lv' := [(3, .int (nI (i9 + 7))), (0, .ref b9), (1, .ref (zad 0)), (2, .ref (zem 0))]) rfl ?_
  refine x_goto C9 dL_law_1767 (tgt := 18) rfl ?_
  refine x_lv C9 [1, 2, 3, 0] (lv' := [(0, .ref b9), (1, .ref (zad 0)), (2, .ref (zem 0)), (3, .int (nI (i9 + 7)))]) rfl ?_
  exact kk h
set_option maxHeartbeats 4000000 in
set_option maxRecDepth 100000 in
theorem L_loop (C9 : rC X l cL_law 4 RL room_1 D9 (tY cI cM cW cS) (zLw adK adV fm b9 L9 xs9) false) (hL : L9 ≤ 448) (hk : K9 ≤ 600000 ∧ N9 ≤ 7302250) (E : ∀ (ws : va_W) (lv : rL), X K9 N9 ws lv 1771 [.int 1]) : ∀ (f i9 : Nat), i9 ≤ L9 → L9 - i9 < f → LH X K9 N9 b9 i9 cI cM cW cS zad zq zqc zqs zqe zsh zra zem 18
  | 0, _, _, hf => absurd hf (Nat.not_lt_zero _)
  | f + 1, i9, hi, hf => by
    intros
    rename_i h
    refine x_iload_n C9 dL_law_18 3 rfl ?_
    refine x_aload_n C9 dL_law_19 0 rfl ?_
    refine x_slen C9 dL_law_20 ?_
    refine x_bipush C9 dL_law_21 (v := 7) rfl ?_
    refine x_isub C9 dL_law_23 ?_
    refine x_icmp_gt C9 dL_law_24 (tgt := 1770) rfl (fun c => ?_) (fun c => ?_)
    · refine x_iconst C9 dL_law_1770 (v := 1) rfl ?_
      exact E _ _
    · have hi7 := q_seven hL hi c
      refine x_aload_n C9 dL_law_27 0 rfl ?_
      refine x_iload_n C9 dL_law_28 3 rfl ?_
      refine x_sld C9 (j := i9) (by omega) (by omega) dL_law_29 ?_
      refine x_bipush C9 dL_law_30 (v := 63) rfl ?_
      refine x_iand C9 dL_law_32 ?_
      obtain ⟨j, hj, ej⟩ := q_and63 (xs9 i9)
      refine x_topi C9 (nI j) ej ?_
      exact L_sw C9 (by omega) (by omega) hk h (fun h2 => L_next C9 h2 (L_loop C9 hL hk E f (i9 + 7) (by omega) (by omega))) hj
end LP
