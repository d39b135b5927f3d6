section KK
variable {X : rT} {l : Launch} {D9 : va_G} {cI cM cW cS : ClassId} {adK adV : Nat → Nat} {fm : Option Nat} {b9 L9 : Nat} {xs9 : Nat → Int32} {K9 N9 : Nat} {T9 : va_W} {lv9 : rL} {pc9 : Nat} {st9 : List Value}
variable {zad zq zqc zqs zqe zsh zra : Nat → Nat} {zwr ztn zlw zrz zpn zpw : Nat} {zhi zrg zpg : Int32} {zhp zph : Int64} {zR0 zR1 zR2 zR3 zkf zmf zlf zcf zsf ztf zP0 zP1 zP2 zP3 zpk zpm zpv zpc zps zpt ztp : sF} {zcd zen : Nat → sF} {zso : Nat → Int32} {znz : Nat → Nat} {zgs : Nat → sF} {Y : sY}
theorem kg7_text : GoodIn GW (wsV RL 33 yX7_text.cls yX7_text (Cond.code yX7_text cX7_text 2 (some .int) :: GW)) := r_gV gw_16_18 gw_16_19 gw_16_20 gw_1_2 gw_16_21
theorem kh7_text : yX7_text.cls ≠ "java/lang/invoke/MethodHandle" ∧ yX7_text.cls ≠ "java/lang/invoke/VarHandle" ∧ (parseMethodDescriptor yX7_text.desc).map (fun d => d.parameters.length) = some 0 := ⟨by decide +kernel, by decide +kernel, by decide +kernel⟩
set_option maxHeartbeats 4000000 in
set_option maxRecDepth 100000 in
theorem k7_text (C9 : rC X l cL_law 4 RL room_1 D9 (tY cI cM cW cS) (zLw adK adV fm b9 L9 xs9) false) (hn : zrz ≤ 160) (hwr6 : zwr ≤ 6) (j9 : Nat) (hj9 : j9 < 6) (hs9 : zwr < 6 → zwr = j9) (hd : decode cL_law pc9 = .ok (.invokevirtual 33, 3)) (hk : K9 ≤ 600000 ∧ N9 ≤ 7302250) (hcat : (st9.map fun v => v.category).sum ≤ 8) (kk0 : (6 ≤ zwr) → X K9 N9 (CWo cI cM cW cS zad zq zqc zqs zqe zsh zra id zwr ztn zlw zrz zpn zpw zhi zrg zpg zhp zph zR0 zR1 zR2 zR3 zkf zmf zlf zcf zsf ztf zP0 zP1 zP2 zP3 zpk zpm zpv zpc zps zpt ztp zcd zen zso znz zgs Y ++ T9) lv9 (pc9 + 3) (.int (-4) :: st9)) (kk1 : ∀ (Y' : sY) (cd' : Nat → Int32) (en' : Nat → Int32) (f' : Nat), (zwr < 6 ∧ (p_txt ztp zrz).1 = false ∧ f' = p_pl ztp zrz (p_txt ztp zrz).2.1) → X K9 N9 (CWo cI cM cW cS zad zq zqc zqs zqe zsh zra id zwr ztn zlw 0 zpn zpw zhi zrg zpg zhp zph zR0 zR1 zR2 zR3 zkf zmf zlf zcf zsf ztf zP0 zP1 zP2 zP3 zpk zpm zpv zpc zps zpt ztp (r_ch zcd j9 cd') (r_ch zen j9 en') zso znz zgs Y' ++ T9) lv9 (pc9 + 3) (.int (-100 - nI f') :: st9)) (kk2 : ∀ (Y' : sY) (cd' : Nat → Int32) (en' : Nat → Int32), (zwr < 6 ∧ (p_txt ztp zrz).1 = true ∧ s_law cd' en' (p_txt ztp zrz).2.2 ∧ s_ok (p_txt ztp zrz).2.2) → X K9 N9 (CWo cI cM cW cS zad zq zqc zqs zqe zsh zra id (zwr + 1) ztn zlw 0 zpn zpw zhi zrg zpg zhp zph zR0 zR1 zR2 zR3 zkf zmf zlf zcf zsf ztf zP0 zP1 zP2 zP3 zpk zpm zpv zpc zps zpt ztp (r_ch zcd j9 cd') (r_ch zen j9 en') zso znz zgs Y' ++ T9) lv9 (pc9 + 3) (.int (nI zwr) :: st9)) : X K9 N9 (CWo cI cM cW cS zad zq zqc zqs zqe zsh zra id zwr ztn zlw zrz zpn zpw zhi zrg zpg zhp zph zR0 zR1 zR2 zR3 zkf zmf zlf zcf zsf ztf zP0 zP1 zP2 zP3 zpk zpm zpv zpc zps zpt ztp zcd zen zso znz zgs Y ++ T9) lv9 pc9 (.ref (zad 0) :: st9) := by
  rcases (show j9 = 0 ∨ j9 = 1 ∨ j9 = 2 ∨ j9 = 3 ∨ j9 = 4 ∨ j9 = 5 by omega) with rfl | rfl | rfl | rfl | rfl | rfl
  ·
    refine x_callB C9 (As := []) (st := st9) (c_X7_text l D9 cI cM cW cS adK adV fm (zad 0) (zad 1) (zad 13) (zad 25) (zad 37) (zad 49) (zad 51) (zad 53) (zad 54) (zad 55) (zad 56) zwr zhi (zad 52) (Y.2.2.2.1.2.2.2.2.2) zrz (zq 0) (zqc 0) (zqs 0) (zqe 0) ztp (Y.2.2.2.1.1) (Y.2.2.2.1.2.1) (Y.2.2.2.1.2.2.1) (Y.2.2.2.1.2.2.2.1) (Y.2.2.2.1.2.2.2.2.1) ((Y.2.2.2.2.1) 0) (zcd 0) (zen 0) (rr6 (zq 0) (zq 1) (zq 2) (zq 3) (zq 4) (zq 5)) hn hwr6 (fun h9 => by rw [hs9 h9]; rfl)) [0, 53, 51, 52, 54, 55, 57] [(1, 50), (56, 1), (58, 31)] 89 rfl (by decide +kernel) rfl (rZs_ok adK adV fm) (fun _ _ _ h9 => h9.1) kg7_text ⟨rfl, kh7_text⟩ ⟨Nat.le_of_ble_eq_true rfl, Nat.le_of_ble_eq_true rfl⟩ ⟨hk.1, hk.2⟩ hd rfl (T9 := TX7) (N := 12) rfl rfl hcat ?_
    intro v9 w9 hp9
    rcases hp9 with hp9 | hp9 | hp9
    ·
      obtain ⟨rfl, rfl, he9⟩ := hp9
      show X K9 N9 _ lv9 (pc9 + 3) (.int (-4) :: st9)
      refine x_back C9 (wsN := CWo cI cM cW cS zad zq zqc zqs zqe zsh zra id zwr ztn zlw zrz zpn zpw zhi zrg zpg zhp zph zR0 zR1 zR2 zR3 zkf zmf zlf zcf zsf ztf zP0 zP1 zP2 zP3 zpk zpm zpv zpc zps zpt ztp zcd zen zso znz zgs Y) [0, 53, 51, 52, 54, 55, 57] [(1, 50), (56, 1), (58, 31)] 89 rfl (by decide +kernel) rfl rfl ?_
      exact kk0  he9
    ·
      obtain ⟨rat9, rtk9, rpl9, rva9, rfa9, sz9, cd9, en9, f9, rfl, rfl, he9⟩ := hp9
      show X K9 N9 _ lv9 (pc9 + 3) (.int (-100 - nI f9) :: st9)
      refine x_back C9 (wsN := CWo cI cM cW cS zad zq zqc zqs zqe zsh zra id zwr ztn zlw 0 zpn zpw zhi zrg zpg zhp zph zR0 zR1 zR2 zR3 zkf zmf zlf zcf zsf ztf zP0 zP1 zP2 zP3 zpk zpm zpv zpc zps zpt ztp (r_ch zcd 0 cd9) (r_ch zen 0 en9) zso znz zgs ((Y.1.1, Y.1.2.1, Y.1.2.2.1, Y.1.2.2.2.1, Y.1.2.2.2.2.1, Y.1.2.2.2.2.2.1, Y.1.2.2.2.2.2.2.1, Y.1.2.2.2.2.2.2.2.1, Y.1.2.2.2.2.2.2.2.2.1, Y.1.2.2.2.2.2.2.2.2.2.1, Y.1.2.2.2.2.2.2.2.2.2.2.1, Y.1.2.2.2.2.2.2.2.2.2.2.2.1, Y.1.2.2.2.2.2.2.2.2.2.2.2.2.1, Y.1.2.2.2.2.2.2.2.2.2.2.2.2.2), (Y.2.1.1, Y.2.1.2.1, Y.2.1.2.2.1, Y.2.1.2.2.2.1, Y.2.1.2.2.2.2.1, Y.2.1.2.2.2.2.2.1, Y.2.1.2.2.2.2.2.2.1, Y.2.1.2.2.2.2.2.2.2.1, Y.2.1.2.2.2.2.2.2.2.2.1, Y.2.1.2.2.2.2.2.2.2.2.2.1, Y.2.1.2.2.2.2.2.2.2.2.2.2.1, Y.2.1.2.2.2.2.2.2.2.2.2.2.2), Y.2.2.1, (rat9, rtk9, rpl9, rva9, rfa9, (zq 0)), (r_ch (Y.2.2.2.2.1) 0 sz9), Y.2.2.2.2.2.1, Y.2.2.2.2.2.2.1, Y.2.2.2.2.2.2.2)) [0, 53, 51, 52, 54, 55, 57] [(1, 50), (56, 1), (58, 31)] 89 rfl (by decide +kernel) rfl rfl ?_
      exact kk1 _ cd9 en9 f9 he9
    ·
      obtain ⟨rat9, rtk9, rpl9, rva9, rfa9, sz9, cd9, en9, rfl, rfl, he9⟩ := hp9
      show X K9 N9 _ lv9 (pc9 + 3) (.int (nI zwr) :: st9)
      refine x_back C9 (wsN := CWo cI cM cW cS zad zq zqc zqs zqe zsh zra id (zwr + 1) ztn zlw 0 zpn zpw zhi zrg zpg zhp zph zR0 zR1 zR2 zR3 zkf zmf zlf zcf zsf ztf zP0 zP1 zP2 zP3 zpk zpm zpv zpc zps zpt ztp (r_ch zcd 0 cd9) (r_ch zen 0 en9) zso znz zgs ((Y.1.1, Y.1.2.1, Y.1.2.2.1, Y.1.2.2.2.1, Y.1.2.2.2.2.1, Y.1.2.2.2.2.2.1, Y.1.2.2.2.2.2.2.1, Y.1.2.2.2.2.2.2.2.1, Y.1.2.2.2.2.2.2.2.2.1, Y.1.2.2.2.2.2.2.2.2.2.1, Y.1.2.2.2.2.2.2.2.2.2.2.1, Y.1.2.2.2.2.2.2.2.2.2.2.2.1, Y.1.2.2.2.2.2.2.2.2.2.2.2.2.1, Y.1.2.2.2.2.2.2.2.2.2.2.2.2.2), (Y.2.1.1, Y.2.1.2.1, Y.2.1.2.2.1, Y.2.1.2.2.2.1, Y.2.1.2.2.2.2.1, Y.2.1.2.2.2.2.2.1, Y.2.1.2.2.2.2.2.2.1, Y.2.1.2.2.2.2.2.2.2.1, Y.2.1.2.2.2.2.2.2.2.2.1, Y.2.1.2.2.2.2.2.2.2.2.2.1, Y.2.1.2.2.2.2.2.2.2.2.2.2.1, Y.2.1.2.2.2.2.2.2.2.2.2.2.2), Y.2.2.1, (rat9, rtk9, rpl9, rva9, rfa9, (zq 0)), (r_ch (Y.2.2.2.2.1) 0 sz9), Y.2.2.2.2.2.1, Y.2.2.2.2.2.2.1, Y.2.2.2.2.2.2.2)) [0, 53, 51, 52, 54, 55, 57] [(1, 50), (56, 1), (58, 31)] 89 rfl (by decide +kernel) rfl rfl ?_
      exact kk2 _ cd9 en9 he9
  ·
    refine x_callB C9 (As := []) (st := st9) (c_X7_text l D9 cI cM cW cS adK adV fm (zad 0) (zad 1) (zad 13) (zad 25) (zad 37) (zad 49) (zad 51) (zad 53) (zad 54) (zad 55) (zad 56) zwr zhi (zad 52) (Y.2.2.2.1.2.2.2.2.2) zrz (zq 1) (zqc 1) (zqs 1) (zqe 1) ztp (Y.2.2.2.1.1) (Y.2.2.2.1.2.1) (Y.2.2.2.1.2.2.1) (Y.2.2.2.1.2.2.2.1) (Y.2.2.2.1.2.2.2.2.1) ((Y.2.2.2.2.1) 1) (zcd 1) (zen 1) (rr6 (zq 0) (zq 1) (zq 2) (zq 3) (zq 4) (zq 5)) hn hwr6 (fun h9 => by rw [hs9 h9]; rfl)) [0, 53, 51, 52, 58, 59, 61] [(1, 50), (54, 4), (60, 1), (62, 27)] 89 rfl (by decide +kernel) rfl (rZs_ok adK adV fm) (fun _ _ _ h9 => h9.1) kg7_text ⟨rfl, kh7_text⟩ ⟨Nat.le_of_ble_eq_true rfl, Nat.le_of_ble_eq_true rfl⟩ ⟨hk.1, hk.2⟩ hd rfl (T9 := TX7) (N := 12) rfl rfl hcat ?_
    intro v9 w9 hp9
    rcases hp9 with hp9 | hp9 | hp9
    ·
      obtain ⟨rfl, rfl, he9⟩ := hp9
      show X K9 N9 _ lv9 (pc9 + 3) (.int (-4) :: st9)
      refine x_back C9 (wsN := CWo cI cM cW cS zad zq zqc zqs zqe zsh zra id zwr ztn zlw zrz zpn zpw zhi zrg zpg zhp zph zR0 zR1 zR2 zR3 zkf zmf zlf zcf zsf ztf zP0 zP1 zP2 zP3 zpk zpm zpv zpc zps zpt ztp zcd zen zso znz zgs Y) [0, 53, 51, 52, 58, 59, 61] [(1, 50), (54, 4), (60, 1), (62, 27)] 89 rfl (by decide +kernel) rfl rfl ?_
      exact kk0  he9
    ·
      obtain ⟨rat9, rtk9, rpl9, rva9, rfa9, sz9, cd9, en9, f9, rfl, rfl, he9⟩ := hp9
      show X K9 N9 _ lv9 (pc9 + 3) (.int (-100 - nI f9) :: st9)
      refine x_back C9 (wsN := CWo cI cM cW cS zad zq zqc zqs zqe zsh zra id zwr ztn zlw 0 zpn zpw zhi zrg zpg zhp zph zR0 zR1 zR2 zR3 zkf zmf zlf zcf zsf ztf zP0 zP1 zP2 zP3 zpk zpm zpv zpc zps zpt ztp (r_ch zcd 1 cd9) (r_ch zen 1 en9) zso znz zgs ((Y.1.1, Y.1.2.1, Y.1.2.2.1, Y.1.2.2.2.1, Y.1.2.2.2.2.1, Y.1.2.2.2.2.2.1, Y.1.2.2.2.2.2.2.1, Y.1.2.2.2.2.2.2.2.1, Y.1.2.2.2.2.2.2.2.2.1, Y.1.2.2.2.2.2.2.2.2.2.1, Y.1.2.2.2.2.2.2.2.2.2.2.1, Y.1.2.2.2.2.2.2.2.2.2.2.2.1, Y.1.2.2.2.2.2.2.2.2.2.2.2.2.1, Y.1.2.2.2.2.2.2.2.2.2.2.2.2.2), (Y.2.1.1, Y.2.1.2.1, Y.2.1.2.2.1, Y.2.1.2.2.2.1, Y.2.1.2.2.2.2.1, Y.2.1.2.2.2.2.2.1, Y.2.1.2.2.2.2.2.2.1, Y.2.1.2.2.2.2.2.2.2.1, Y.2.1.2.2.2.2.2.2.2.2.1, Y.2.1.2.2.2.2.2.2.2.2.2.1, Y.2.1.2.2.2.2.2.2.2.2.2.2.1, Y.2.1.2.2.2.2.2.2.2.2.2.2.2), Y.2.2.1, (rat9, rtk9, rpl9, rva9, rfa9, (zq 1)), (r_ch (Y.2.2.2.2.1) 1 sz9), Y.2.2.2.2.2.1, Y.2.2.2.2.2.2.1, Y.2.2.2.2.2.2.2)) [0, 53, 51, 52, 58, 59, 61] [(1, 50), (54, 4), (60, 1), (62, 27)] 89 rfl (by decide +kernel) rfl rfl ?_
      exact kk1 _ cd9 en9 f9 he9
    ·
      obtain ⟨rat9, rtk9, rpl9, rva9, rfa9, sz9, cd9, en9, rfl, rfl, he9⟩ := hp9
      show X K9 N9 _ lv9 (pc9 + 3) (.int (nI zwr) :: st9)
      refine x_back C9 (wsN := CWo cI cM cW cS zad zq zqc zqs zqe zsh zra id (zwr + 1) ztn zlw 0 zpn zpw zhi zrg zpg zhp zph zR0 zR1 zR2 zR3 zkf zmf zlf zcf zsf ztf zP0 zP1 zP2 zP3 zpk zpm zpv zpc zps zpt ztp (r_ch zcd 1 cd9) (r_ch zen 1 en9) zso znz zgs ((Y.1.1, Y.1.2.1, Y.1.2.2.1, Y.1.2.2.2.1, Y.1.2.2.2.2.1, Y.1.2.2.2.2.2.1, Y.1.2.2.2.2.2.2.1, Y.1.2.2.2.2.2.2.2.1, Y.1.2.2.2.2.2.2.2.2.1, Y.1.2.2.2.2.2.2.2.2.2.1, Y.1.2.2.2.2.2.2.2.2.2.2.1, Y.1.2.2.2.2.2.2.2.2.2.2.2.1, Y.1.2.2.2.2.2.2.2.2.2.2.2.2.1, Y.1.2.2.2.2.2.2.2.2.2.2.2.2.2), (Y.2.1.1, Y.2.1.2.1, Y.2.1.2.2.1, Y.2.1.2.2.2.1, Y.2.1.2.2.2.2.1, Y.2.1.2.2.2.2.2.1, Y.2.1.2.2.2.2.2.2.1, Y.2.1.2.2.2.2.2.2.2.1, Y.2.1.2.2.2.2.2.2.2.2.1, Y.2.1.2.2.2.2.2.2.2.2.2.1, Y.2.1.2.2.2.2.2.2.2.2.2.2.1, Y.2.1.2.2.2.2.2.2.2.2.2.2.2), Y.2.2.1, (rat9, rtk9, rpl9, rva9, rfa9, (zq 1)), (r_ch (Y.2.2.2.2.1) 1 sz9), Y.2.2.2.2.2.1, Y.2.2.2.2.2.2.1, Y.2.2.2.2.2.2.2)) [0, 53, 51, 52, 58, 59, 61] [(1, 50), (54, 4), (60, 1), (62, 27)] 89 rfl (by decide +kernel) rfl rfl ?_
      exact kk2 _ cd9 en9 he9
  ·
    refine x_callB C9 (As := []) (st := st9) (c_X7_text l D9 cI cM cW cS adK adV fm (zad 0) (zad 1) (zad 13) (zad 25) (zad 37) (zad 49) (zad 51) (zad 53) (zad 54) (zad 55) (zad 56) zwr zhi (zad 52) (Y.2.2.2.1.2.2.2.2.2) zrz (zq 2) (zqc 2) (zqs 2) (zqe 2) ztp (Y.2.2.2.1.1) (Y.2.2.2.1.2.1) (Y.2.2.2.1.2.2.1) (Y.2.2.2.1.2.2.2.1) (Y.2.2.2.1.2.2.2.2.1) ((Y.2.2.2.2.1) 2) (zcd 2) (zen 2) (rr6 (zq 0) (zq 1) (zq 2) (zq 3) (zq 4) (zq 5)) hn hwr6 (fun h9 => by rw [hs9 h9]; rfl)) [0, 53, 51, 52, 62, 63, 65] [(1, 50), (54, 8), (64, 1), (66, 23)] 89 rfl (by decide +kernel) rfl (rZs_ok adK adV fm) (fun _ _ _ h9 => h9.1) kg7_text ⟨rfl, kh7_text⟩ ⟨Nat.le_of_ble_eq_true rfl, Nat.le_of_ble_eq_true rfl⟩ ⟨hk.1, hk.2⟩ hd rfl (T9 := TX7) (N := 12) rfl rfl hcat ?_
    intro v9 w9 hp9
    rcases hp9 with hp9 | hp9 | hp9
    ·
      obtain ⟨rfl, rfl, he9⟩ := hp9
      show X K9 N9 _ lv9 (pc9 + 3) (.int (-4) :: st9)
      refine x_back C9 (wsN := CWo cI cM cW cS zad zq zqc zqs zqe zsh zra id zwr ztn zlw zrz zpn zpw zhi zrg zpg zhp zph zR0 zR1 zR2 zR3 zkf zmf zlf zcf zsf ztf zP0 zP1 zP2 zP3 zpk zpm zpv zpc zps zpt ztp zcd zen zso znz zgs Y) [0, 53, 51, 52, 62, 63, 65] [(1, 50), (54, 8), (64, 1), (66, 23)] 89 rfl (by decide +kernel) rfl rfl ?_
      exact kk0  he9
    ·
      obtain ⟨rat9, rtk9, rpl9, rva9, rfa9, sz9, cd9, en9, f9, rfl, rfl, he9⟩ := hp9
      show X K9 N9 _ lv9 (pc9 + 3) (.int (-100 - nI f9) :: st9)
      refine x_back C9 (wsN := CWo cI cM cW cS zad zq zqc zqs zqe zsh zra id zwr ztn zlw 0 zpn zpw zhi zrg zpg zhp zph zR0 zR1 zR2 zR3 zkf zmf zlf zcf zsf ztf zP0 zP1 zP2 zP3 zpk zpm zpv zpc zps zpt ztp (r_ch zcd 2 cd9) (r_ch zen 2 en9) zso znz zgs ((Y.1.1, Y.1.2.1, Y.1.2.2.1, Y.1.2.2.2.1, Y.1.2.2.2.2.1, Y.1.2.2.2.2.2.1, Y.1.2.2.2.2.2.2.1, Y.1.2.2.2.2.2.2.2.1, Y.1.2.2.2.2.2.2.2.2.1, Y.1.2.2.2.2.2.2.2.2.2.1, Y.1.2.2.2.2.2.2.2.2.2.2.1, Y.1.2.2.2.2.2.2.2.2.2.2.2.1, Y.1.2.2.2.2.2.2.2.2.2.2.2.2.1, Y.1.2.2.2.2.2.2.2.2.2.2.2.2.2), (Y.2.1.1, Y.2.1.2.1, Y.2.1.2.2.1, Y.2.1.2.2.2.1, Y.2.1.2.2.2.2.1, Y.2.1.2.2.2.2.2.1, Y.2.1.2.2.2.2.2.2.1, Y.2.1.2.2.2.2.2.2.2.1, Y.2.1.2.2.2.2.2.2.2.2.1, Y.2.1.2.2.2.2.2.2.2.2.2.1, Y.2.1.2.2.2.2.2.2.2.2.2.2.1, Y.2.1.2.2.2.2.2.2.2.2.2.2.2), Y.2.2.1, (rat9, rtk9, rpl9, rva9, rfa9, (zq 2)), (r_ch (Y.2.2.2.2.1) 2 sz9), Y.2.2.2.2.2.1, Y.2.2.2.2.2.2.1, Y.2.2.2.2.2.2.2)) [0, 53, 51, 52, 62, 63, 65] [(1, 50), (54, 8), (64, 1), (66, 23)] 89 rfl (by decide +kernel) rfl rfl ?_
      exact kk1 _ cd9 en9 f9 he9
    ·
      obtain ⟨rat9, rtk9, rpl9, rva9, rfa9, sz9, cd9, en9, rfl, rfl, he9⟩ := hp9
      show X K9 N9 _ lv9 (pc9 + 3) (.int (nI zwr) :: st9)
      refine x_back C9 (wsN := CWo cI cM cW cS zad zq zqc zqs zqe zsh zra id (zwr + 1) ztn zlw 0 zpn zpw zhi zrg zpg zhp zph zR0 zR1 zR2 zR3 zkf zmf zlf zcf zsf ztf zP0 zP1 zP2 zP3 zpk zpm zpv zpc zps zpt ztp (r_ch zcd 2 cd9) (r_ch zen 2 en9) zso znz zgs ((Y.1.1, Y.1.2.1, Y.1.2.2.1, Y.1.2.2.2.1, Y.1.2.2.2.2.1, Y.1.2.2.2.2.2.1, Y.1.2.2.2.2.2.2.1, Y.1.2.2.2.2.2.2.2.1, Y.1.2.2.2.2.2.2.2.2.1, Y.1.2.2.2.2.2.2.2.2.2.1, Y.1.2.2.2.2.2.2.2.2.2.2.1, Y.1.2.2.2.2.2.2.2.2.2.2.2.1, Y.1.2.2.2.2.2.2.2.2.2.2.2.2.1, Y.1.2.2.2.2.2.2.2.2.2.2.2.2.2), (Y.2.1.1, Y.2.1.2.1, Y.2.1.2.2.1, Y.2.1.2.2.2.1, Y.2.1.2.2.2.2.1, Y.2.1.2.2.2.2.2.1, Y.2.1.2.2.2.2.2.2.1, Y.2.1.2.2.2.2.2.2.2.1, Y.2.1.2.2.2.2.2.2.2.2.1, Y.2.1.2.2.2.2.2.2.2.2.2.1, Y.2.1.2.2.2.2.2.2.2.2.2.2.1, Y.2.1.2.2.2.2.2.2.2.2.2.2.2), Y.2.2.1, (rat9, rtk9, rpl9, rva9, rfa9, (zq 2)), (r_ch (Y.2.2.2.2.1) 2 sz9), Y.2.2.2.2.2.1, Y.2.2.2.2.2.2.1, Y.2.2.2.2.2.2.2)) [0, 53, 51, 52, 62, 63, 65] [(1, 50), (54, 8), (64, 1), (66, 23)] 89 rfl (by decide +kernel) rfl rfl ?_
      exact kk2 _ cd9 en9 he9
  ·
    refine x_callB C9 (As := []) (st := st9) (c_X7_text l D9 cI cM cW cS adK adV fm (zad 0) (zad 1) (zad 13) (zad 25) (zad 37) (zad 49) (zad 51) (zad 53) (zad 54) (zad 55) (zad 56) zwr zhi (zad 52) (Y.2.2.2.1.2.2.2.2.2) zrz (zq 3) (zqc 3) (zqs 3) (zqe 3) ztp (Y.2.2.2.1.1) (Y.2.2.2.1.2.1) (Y.2.2.2.1.2.2.1) (Y.2.2.2.1.2.2.2.1) (Y.2.2.2.1.2.2.2.2.1) ((Y.2.2.2.2.1) 3) (zcd 3) (zen 3) (rr6 (zq 0) (zq 1) (zq 2) (zq 3) (zq 4) (zq 5)) hn hwr6 (fun h9 => by rw [hs9 h9]; rfl)) [0, 53, 51, 52, 66, 67, 69] [(1, 50), (54, 12), (68, 1), (70, 19)] 89 rfl (by decide +kernel) rfl (rZs_ok adK adV fm) (fun _ _ _ h9 => h9.1) kg7_text ⟨rfl, kh7_text⟩ ⟨Nat.le_of_ble_eq_true rfl, Nat.le_of_ble_eq_true rfl⟩ ⟨hk.1, hk.2⟩ hd rfl (T9 := TX7) (N := 12) rfl rfl hcat ?_
    intro v9 w9 hp9
    rcases hp9 with hp9 | hp9 | hp9
    ·
      obtain ⟨rfl, rfl, he9⟩ := hp9
      show X K9 N9 _ lv9 (pc9 + 3) (.int (-4) :: st9)
      refine x_back C9 (wsN := CWo cI cM cW cS zad zq zqc zqs zqe zsh zra id zwr ztn zlw zrz zpn zpw zhi zrg zpg zhp zph zR0 zR1 zR2 zR3 zkf zmf zlf zcf zsf ztf zP0 zP1 zP2 zP3 zpk zpm zpv zpc zps zpt ztp zcd zen zso znz zgs Y) [0, 53, 51, 52, 66, 67, 69] [(1, 50), (54, 12), (68, 1), (70, 19)] 89 rfl (by decide +kernel) rfl rfl ?_
      exact kk0  he9
    ·
      obtain ⟨rat9, rtk9, rpl9, rva9, rfa9, sz9, cd9, en9, f9, rfl, rfl, he9⟩ := hp9
      show X K9 N9 _ lv9 (pc9 + 3) (.int (-100 - nI f9) :: st9)
      refine x_back C9 (wsN := CWo cI cM cW cS zad zq zqc zqs zqe zsh zra id zwr ztn zlw 0 zpn zpw zhi zrg zpg zhp zph zR0 zR1 zR2 zR3 zkf zmf zlf zcf zsf ztf zP0 zP1 zP2 zP3 zpk zpm zpv zpc zps zpt ztp (r_ch zcd 3 cd9) (r_ch zen 3 en9) zso znz zgs ((Y.1.1, Y.1.2.1, Y.1.2.2.1, Y.1.2.2.2.1, Y.1.2.2.2.2.1, Y.1.2.2.2.2.2.1, Y.1.2.2.2.2.2.2.1, Y.1.2.2.2.2.2.2.2.1, Y.1.2.2.2.2.2.2.2.2.1, Y.1.2.2.2.2.2.2.2.2.2.1, Y.1.2.2.2.2.2.2.2.2.2.2.1, Y.1.2.2.2.2.2.2.2.2.2.2.2.1, Y.1.2.2.2.2.2.2.2.2.2.2.2.2.1, Y.1.2.2.2.2.2.2.2.2.2.2.2.2.2), (Y.2.1.1, Y.2.1.2.1, Y.2.1.2.2.1, Y.2.1.2.2.2.1, Y.2.1.2.2.2.2.1, Y.2.1.2.2.2.2.2.1, Y.2.1.2.2.2.2.2.2.1, Y.2.1.2.2.2.2.2.2.2.1, Y.2.1.2.2.2.2.2.2.2.2.1, Y.2.1.2.2.2.2.2.2.2.2.2.1, Y.2.1.2.2.2.2.2.2.2.2.2.2.1, Y.2.1.2.2.2.2.2.2.2.2.2.2.2), Y.2.2.1, (rat9, rtk9, rpl9, rva9, rfa9, (zq 3)), (r_ch (Y.2.2.2.2.1) 3 sz9), Y.2.2.2.2.2.1, Y.2.2.2.2.2.2.1, Y.2.2.2.2.2.2.2)) [0, 53, 51, 52, 66, 67, 69] [(1, 50), (54, 12), (68, 1), (70, 19)] 89 rfl (by decide +kernel) rfl rfl ?_
      exact kk1 _ cd9 en9 f9 he9
    ·
      obtain ⟨rat9, rtk9, rpl9, rva9, rfa9, sz9, cd9, en9, rfl, rfl, he9⟩ := hp9
      show X K9 N9 _ lv9 (pc9 + 3) (.int (nI zwr) :: st9)
      refine x_back C9 (wsN := CWo cI cM cW cS zad zq zqc zqs zqe zsh zra id (zwr + 1) ztn zlw 0 zpn zpw zhi zrg zpg zhp zph zR0 zR1 zR2 zR3 zkf zmf zlf zcf zsf ztf zP0 zP1 zP2 zP3 zpk zpm zpv zpc zps zpt ztp (r_ch zcd 3 cd9) (r_ch zen 3 en9) zso znz zgs ((Y.1.1, Y.1.2.1, Y.1.2.2.1, Y.1.2.2.2.1, Y.1.2.2.2.2.1, Y.1.2.2.2.2.2.1, Y.1.2.2.2.2.2.2.1, Y.1.2.2.2.2.2.2.2.1, Y.1.2.2.2.2.2.2.2.2.1, Y.1.2.2.2.2.2.2.2.2.2.1, Y.1.2.2.2.2.2.2.2.2.2.2.1, Y.1.2.2.2.2.2.2.2.2.2.2.2.1, Y.1.2.2.2.2.2.2.2.2.2.2.2.2.1, Y.1.2.2.2.2.2.2.2.2.2.2.2.2.2), (Y.2.1.1, Y.2.1.2.1, Y.2.1.2.2.1, Y.2.1.2.2.2.1, Y.2.1.2.2.2.2.1, Y.2.1.2.2.2.2.2.1, Y.2.1.2.2.2.2.2.2.1, Y.2.1.2.2.2.2.2.2.2.1, Y.2.1.2.2.2.2.2.2.2.2.1, Y.2.1.2.2.2.2.2.2.2.2.2.1, Y.2.1.2.2.2.2.2.2.2.2.2.2.1, Y.2.1.2.2.2.2.2.2.2.2.2.2.2), Y.2.2.1, (rat9, rtk9, rpl9, rva9, rfa9, (zq 3)), (r_ch (Y.2.2.2.2.1) 3 sz9), Y.2.2.2.2.2.1, Y.2.2.2.2.2.2.1, Y.2.2.2.2.2.2.2)) [0, 53, 51, 52, 66, 67, 69] [(1, 50), (54, 12), (68, 1), (70, 19)] 89 rfl (by decide +kernel) rfl rfl ?_
      exact kk2 _ cd9 en9 he9
  ·
    refine x_callB C9 (As := []) (st := st9) (c_X7_text l D9 cI cM cW cS adK adV fm (zad 0) (zad 1) (zad 13) (zad 25) (zad 37) (zad 49) (zad 51) (zad 53) (zad 54) (zad 55) (zad 56) zwr zhi (zad 52) (Y.2.2.2.1.2.2.2.2.2) zrz (zq 4) (zqc 4) (zqs 4) (zqe 4) ztp (Y.2.2.2.1.1) (Y.2.2.2.1.2.1) (Y.2.2.2.1.2.2.1) (Y.2.2.2.1.2.2.2.1) (Y.2.2.2.1.2.2.2.2.1) ((Y.2.2.2.2.1) 4) (zcd 4) (zen 4) (rr6 (zq 0) (zq 1) (zq 2) (zq 3) (zq 4) (zq 5)) hn hwr6 (fun h9 => by rw [hs9 h9]; rfl)) [0, 53, 51, 52, 70, 71, 73] [(1, 50), (54, 16), (72, 1), (74, 15)] 89 rfl (by decide +kernel) rfl (rZs_ok adK adV fm) (fun _ _ _ h9 => h9.1) kg7_text ⟨rfl, kh7_text⟩ ⟨Nat.le_of_ble_eq_true rfl, Nat.le_of_ble_eq_true rfl⟩ ⟨hk.1, hk.2⟩ hd rfl (T9 := TX7) (N := 12) rfl rfl hcat ?_
    intro v9 w9 hp9
    rcases hp9 with hp9 | hp9 | hp9
    ·
      obtain ⟨rfl, rfl, he9⟩ := hp9
      show X K9 N9 _ lv9 (pc9 + 3) (.int (-4) :: st9)
      refine x_back C9 (wsN := CWo cI cM cW cS zad zq zqc zqs zqe zsh zra id zwr ztn zlw zrz zpn zpw zhi zrg zpg zhp zph zR0 zR1 zR2 zR3 zkf zmf zlf zcf zsf ztf zP0 zP1 zP2 zP3 zpk zpm zpv zpc zps zpt ztp zcd zen zso znz zgs Y) [0, 53, 51, 52, 70, 71, 73] [(1, 50), (54, 16), (72, 1), (74, 15)] 89 rfl (by decide +kernel) rfl rfl ?_
      exact kk0  he9
    ·
      obtain ⟨rat9, rtk9, rpl9, rva9, rfa9, sz9, cd9, en9, f9, rfl, rfl, he9⟩ := hp9
      show X K9 N9 _ lv9 (pc9 + 3) (.int (-100 - nI f9) :: st9)
      refine x_back C9 (wsN := CWo cI cM cW cS zad zq zqc zqs zqe zsh zra id zwr ztn zlw 0 zpn zpw zhi zrg zpg zhp zph zR0 zR1 zR2 zR3 zkf zmf zlf zcf zsf ztf zP0 zP1 zP2 zP3 zpk zpm zpv zpc zps zpt ztp (r_ch zcd 4 cd9) (r_ch zen 4 en9) zso znz zgs ((Y.1.1, Y.1.2.1, Y.1.2.2.1, Y.1.2.2.2.1, Y.1.2.2.2.2.1, Y.1.2.2.2.2.2.1, Y.1.2.2.2.2.2.2.1, Y.1.2.2.2.2.2.2.2.1, Y.1.2.2.2.2.2.2.2.2.1, Y.1.2.2.2.2.2.2.2.2.2.1, Y.1.2.2.2.2.2.2.2.2.2.2.1, Y.1.2.2.2.2.2.2.2.2.2.2.2.1, Y.1.2.2.2.2.2.2.2.2.2.2.2.2.1, Y.1.2.2.2.2.2.2.2.2.2.2.2.2.2), (Y.2.1.1, Y.2.1.2.1, Y.2.1.2.2.1, Y.2.1.2.2.2.1, Y.2.1.2.2.2.2.1, Y.2.1.2.2.2.2.2.1, Y.2.1.2.2.2.2.2.2.1, Y.2.1.2.2.2.2.2.2.2.1, Y.2.1.2.2.2.2.2.2.2.2.1, Y.2.1.2.2.2.2.2.2.2.2.2.1, Y.2.1.2.2.2.2.2.2.2.2.2.2.1, Y.2.1.2.2.2.2.2.2.2.2.2.2.2), Y.2.2.1, (rat9, rtk9, rpl9, rva9, rfa9, (zq 4)), (r_ch (Y.2.2.2.2.1) 4 sz9), Y.2.2.2.2.2.1, Y.2.2.2.2.2.2.1, Y.2.2.2.2.2.2.2)) [0, 53, 51, 52, 70, 71, 73] [(1, 50), (54, 16), (72, 1), (74, 15)] 89 rfl (by decide +kernel) rfl rfl ?_
      exact kk1 _ cd9 en9 f9 he9
    ·
      obtain ⟨rat9, rtk9, rpl9, rva9, rfa9, sz9, cd9, en9, rfl, rfl, he9⟩ := hp9
      show X K9 N9 _ lv9 (pc9 + 3) (.int (nI zwr) :: st9)
      refine x_back C9 (wsN := CWo cI cM cW cS zad zq zqc zqs zqe zsh zra id (zwr + 1) ztn zlw 0 zpn zpw zhi zrg zpg zhp zph zR0 zR1 zR2 zR3 zkf zmf zlf zcf zsf ztf zP0 zP1 zP2 zP3 zpk zpm zpv zpc zps zpt ztp (r_ch zcd 4 cd9) (r_ch zen 4 en9) zso znz zgs ((Y.1.1, Y.1.2.1, Y.1.2.2.1, Y.1.2.2.2.1, Y.1.2.2.2.2.1, Y.1.2.2.2.2.2.1, Y.1.2.2.2.2.2.2.1, Y.1.2.2.2.2.2.2.2.1, Y.1.2.2.2.2.2.2.2.2.1, Y.1.2.2.2.2.2.2.2.2.2.1, Y.1.2.2.2.2.2.2.2.2.2.2.1, Y.1.2.2.2.2.2.2.2.2.2.2.2.1, Y.1.2.2.2.2.2.2.2.2.2.2.2.2.1, Y.1.2.2.2.2.2.2.2.2.2.2.2.2.2), (Y.2.1.1, Y.2.1.2.1, Y.2.1.2.2.1, Y.2.1.2.2.2.1, Y.2.1.2.2.2.2.1, Y.2.1.2.2.2.2.2.1, Y.2.1.2.2.2.2.2.2.1, Y.2.1.2.2.2.2.2.2.2.1, Y.2.1.2.2.2.2.2.2.2.2.1, Y.2.1.2.2.2.2.2.2.2.2.2.1, Y.2.1.2.2.2.2.2.2.2.2.2.2.1, Y.2.1.2.2.2.2.2.2.2.2.2.2.2), Y.2.2.1, (rat9, rtk9, rpl9, rva9, rfa9, (zq 4)), (r_ch (Y.2.2.2.2.1) 4 sz9), Y.2.2.2.2.2.1, Y.2.2.2.2.2.2.1, Y.2.2.2.2.2.2.2)) [0, 53, 51, 52, 70, 71, 73] [(1, 50), (54, 16), (72, 1), (74, 15)] 89 rfl (by decide +kernel) rfl rfl ?_
      exact kk2 _ cd9 en9 he9
  ·
    refine x_callB C9 (As := []) (st := st9) (c_X7_text l D9 cI cM cW cS adK adV fm (zad 0) (zad 1) (zad 13) (zad 25) (zad 37) (zad 49) (zad 51) (zad 53) (zad 54) (zad 55) (zad 56) zwr zhi (zad 52) (Y.2.2.2.1.2.2.2.2.2) zrz (zq 5) (zqc 5) (zqs 5) (zqe 5) ztp (Y.2.2.2.1.1) (Y.2.2.2.1.2.1) (Y.2.2.2.1.2.2.1) (Y.2.2.2.1.2.2.2.1) (Y.2.2.2.1.2.2.2.2.1) ((Y.2.2.2.2.1) 5) (zcd 5) (zen 5) (rr6 (zq 0) (zq 1) (zq 2) (zq 3) (zq 4) (zq 5)) hn hwr6 (fun h9 => by rw [hs9 h9]; rfl)) [0, 53, 51, 52, 74, 75, 77] [(1, 50), (54, 20), (76, 1), (78, 11)] 89 rfl (by decide +kernel) rfl (rZs_ok adK adV fm) (fun _ _ _ h9 => h9.1) kg7_text ⟨rfl, kh7_text⟩ ⟨Nat.le_of_ble_eq_true rfl, Nat.le_of_ble_eq_true rfl⟩ ⟨hk.1, hk.2⟩ hd rfl (T9 := TX7) (N := 12) rfl rfl hcat ?_
    intro v9 w9 hp9
    rcases hp9 with hp9 | hp9 | hp9
    ·
      obtain ⟨rfl, rfl, he9⟩ := hp9
      show X K9 N9 _ lv9 (pc9 + 3) (.int (-4) :: st9)
      refine x_back C9 (wsN := CWo cI cM cW cS zad zq zqc zqs zqe zsh zra id zwr ztn zlw zrz zpn zpw zhi zrg zpg zhp zph zR0 zR1 zR2 zR3 zkf zmf zlf zcf zsf ztf zP0 zP1 zP2 zP3 zpk zpm zpv zpc zps zpt ztp zcd zen zso znz zgs Y) [0, 53, 51, 52, 74, 75, 77] [(1, 50), (54, 20), (76, 1), (78, 11)] 89 rfl (by decide +kernel) rfl rfl ?_
      exact kk0  he9
    ·
      obtain ⟨rat9, rtk9, rpl9, rva9, rfa9, sz9, cd9, en9, f9, rfl, rfl, he9⟩ := hp9
      show X K9 N9 _ lv9 (pc9 + 3) (.int (-100 - nI f9) :: st9)
      refine x_back C9 (wsN := CWo cI cM cW cS zad zq zqc zqs zqe zsh zra id zwr ztn zlw 0 zpn zpw zhi zrg zpg zhp zph zR0 zR1 zR2 zR3 zkf zmf zlf zcf zsf ztf zP0 zP1 zP2 zP3 zpk zpm zpv zpc zps zpt ztp (r_ch zcd 5 cd9) (r_ch zen 5 en9) zso znz zgs ((Y.1.1, Y.1.2.1, Y.1.2.2.1, Y.1.2.2.2.1, Y.1.2.2.2.2.1, Y.1.2.2.2.2.2.1, Y.1.2.2.2.2.2.2.1, Y.1.2.2.2.2.2.2.2.1, Y.1.2.2.2.2.2.2.2.2.1, Y.1.2.2.2.2.2.2.2.2.2.1, Y.1.2.2.2.2.2.2.2.2.2.2.1, Y.1.2.2.2.2.2.2.2.2.2.2.2.1, Y.1.2.2.2.2.2.2.2.2.2.2.2.2.1, Y.1.2.2.2.2.2.2.2.2.2.2.2.2.2), (Y.2.1.1, Y.2.1.2.1, Y.2.1.2.2.1, Y.2.1.2.2.2.1, Y.2.1.2.2.2.2.1, Y.2.1.2.2.2.2.2.1, Y.2.1.2.2.2.2.2.2.1, Y.2.1.2.2.2.2.2.2.2.1, Y.2.1.2.2.2.2.2.2.2.2.1, Y.2.1.2.2.2.2.2.2.2.2.2.1, Y.2.1.2.2.2.2.2.2.2.2.2.2.1, Y.2.1.2.2.2.2.2.2.2.2.2.2.2), Y.2.2.1, (rat9, rtk9, rpl9, rva9, rfa9, (zq 5)), (r_ch (Y.2.2.2.2.1) 5 sz9), Y.2.2.2.2.2.1, Y.2.2.2.2.2.2.1, Y.2.2.2.2.2.2.2)) [0, 53, 51, 52, 74, 75, 77] [(1, 50), (54, 20), (76, 1), (78, 11)] 89 rfl (by decide +kernel) rfl rfl ?_
      exact kk1 _ cd9 en9 f9 he9
    ·
      obtain ⟨rat9, rtk9, rpl9, rva9, rfa9, sz9, cd9, en9, rfl, rfl, he9⟩ := hp9
      show X K9 N9 _ lv9 (pc9 + 3) (.int (nI zwr) :: st9)
      refine x_back C9 (wsN := CWo cI cM cW cS zad zq zqc zqs zqe zsh zra id (zwr + 1) ztn zlw 0 zpn zpw zhi zrg zpg zhp zph zR0 zR1 zR2 zR3 zkf zmf zlf zcf zsf ztf zP0 zP1 zP2 zP3 zpk zpm zpv zpc zps zpt ztp (r_ch zcd 5 cd9) (r_ch zen 5 en9) zso znz zgs ((Y.1.1, Y.1.2.1, Y.1.2.2.1, Y.1.2.2.2.1, Y.1.2.2.2.2.1, Y.1.2.2.2.2.2.1, Y.1.2.2.2.2.2.2.1, Y.1.2.2.2.2.2.2.2.1, Y.1.2.2.2.2.2.2.2.2.1, Y.1.2.2.2.2.2.2.2.2.2.1, Y.1.2.2.2.2.2.2.2.2.2.2.1, Y.1.2.2.2.2.2.2.2.2.2.2.2.1, Y.1.2.2.2.2.2.2.2.2.2.2.2.2.1, Y.1.2.2.2.2.2.2.2.2.2.2.2.2.2), (Y.2.1.1, Y.2.1.2.1, Y.2.1.2.2.1, Y.2.1.2.2.2.1, Y.2.1.2.2.2.2.1, Y.2.1.2.2.2.2.2.1, Y.2.1.2.2.2.2.2.2.1, Y.2.1.2.2.2.2.2.2.2.1, Y.2.1.2.2.2.2.2.2.2.2.1, Y.2.1.2.2.2.2.2.2.2.2.2.1, Y.2.1.2.2.2.2.2.2.2.2.2.2.1, Y.2.1.2.2.2.2.2.2.2.2.2.2.2), Y.2.2.1, (rat9, rtk9, rpl9, rva9, rfa9, (zq 5)), (r_ch (Y.2.2.2.2.1) 5 sz9), Y.2.2.2.2.2.1, Y.2.2.2.2.2.2.1, Y.2.2.2.2.2.2.2)) [0, 53, 51, 52, 74, 75, 77] [(1, 50), (54, 20), (76, 1), (78, 11)] 89 rfl (by decide +kernel) rfl rfl ?_
      exact kk2 _ cd9 en9 he9
end KK
