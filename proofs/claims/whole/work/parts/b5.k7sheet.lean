section KK
variable {X : rT} {l : Launch} {D9 : va_G} {cI cM cW cS : ClassId} {adK adV : Nat → Nat} {fm : Option Nat} {b9 L9 : Nat} {xs9 : Nat → Int32} {K9 N9 : Nat} {T9 : va_W} {lv9 : rL} {pc9 : Nat} {st9 : List Value}
variable {zad zq zqc zqs zqe zsh zra : Nat → Nat} {zwr ztn zlw zrz zpn zpw : Nat} {zhi zrg zpg : Int32} {zhp zph : Int64} {zR0 zR1 zR2 zR3 zkf zmf zlf zcf zsf ztf zP0 zP1 zP2 zP3 zpk zpm zpv zpc zps zpt ztp : sF} {zcd zen : Nat → sF} {zso : Nat → Int32} {znz : Nat → Nat} {zgs : Nat → sF} {Y : sY}
theorem kg7_sheet : GoodIn GW (wsV RL 177 yX7_sheet.cls yX7_sheet (Cond.code yX7_sheet cX7_sheet 5 (some .int) :: GW)) := r_gV gw_41_22 gw_41_23 gw_42_0 gw_1_2 gw_42_1
theorem kh7_sheet : yX7_sheet.cls ≠ "java/lang/invoke/MethodHandle" ∧ yX7_sheet.cls ≠ "java/lang/invoke/VarHandle" ∧ (parseMethodDescriptor yX7_sheet.desc).map (fun d => d.parameters.length) = some 3 := ⟨by decide +kernel, by decide +kernel, by decide +kernel⟩
set_option maxHeartbeats 4000000 in
set_option maxRecDepth 100000 in
theorem k7_sheet (C9 : rC X l cL_law 4 RL room_1 D9 (tY cI cM cW cS) (zLw adK adV fm b9 L9 xs9) false) (s : Int32) (t : Int32) (n : Int32) (j9 : Nat) (hj9 : j9 < 4) (hs9 : ∀ i, i < 4 → s = nI i → i = j9) (hz9 : ∀ i, i < 4 → znz i ≤ 40) (hd : decode cL_law pc9 = .ok (.invokevirtual 177, 3)) (hk : K9 ≤ 600000 ∧ N9 ≤ 7302250) (hcat : (st9.map fun v => v.category).sum ≤ 8) (kk0 : ∀ (r : Int32) (so' : Int32) (nz' : Nat) (g' : Nat → Int32), nz' ≤ 40 → ((r, so', (nI nz'), g') = (o_sheet s t n, o_sheet_so (zso j9) s t n, o_sheet_sz (nI (znz j9)) s t n, o_sheet_g (zgs j9) s t n)) → X K9 N9 (CWo cI cM cW cS zad zq zqc zqs zqe zsh zra id zwr ztn zlw zrz zpn zpw zhi zrg zpg zhp zph zR0 zR1 zR2 zR3 zkf zmf zlf zcf zsf ztf zP0 zP1 zP2 zP3 zpk zpm zpv zpc zps zpt ztp zcd zen (r_ch zso j9 so') (r_ch znz j9 nz') (r_ch zgs j9 g') Y ++ T9) lv9 (pc9 + 3) (.int r :: st9)) : X K9 N9 (CWo cI cM cW cS zad zq zqc zqs zqe zsh zra id zwr ztn zlw zrz zpn zpw zhi zrg zpg zhp zph zR0 zR1 zR2 zR3 zkf zmf zlf zcf zsf ztf zP0 zP1 zP2 zP3 zpk zpm zpv zpc zps zpt ztp zcd zen zso znz zgs Y ++ T9) lv9 pc9 (.int n :: .int t :: .int s :: .ref (zad 0) :: st9) := by
  rcases (show j9 = 0 ∨ j9 = 1 ∨ j9 = 2 ∨ j9 = 3 by omega) with rfl | rfl | rfl | rfl
  ·
    refine x_callB C9 (As := [.int s, .int t, .int n]) (st := st9) (c_X7_sheet l D9 cI cM cW cS (zad 0) (zad 13) (zad 25) (zad 37) (zad 49) (zad 51) (zad 53) (zad 54) (zad 55) (zad 56) zwr zhi (zad 1) (rr4 (zsh 0) (zsh 1) (zsh 2) (zsh 3)) (zsh 0) (zra 0) (zso 0) (znz 0) (zgs 0) s t n (fun i hi he => by rw [hs9 i hi he]; rfl)) [0, 78, 79, 80] [(1, 77), (81, 8)] 89 rfl (by decide +kernel) rfl rZ0_ok (fun _ _ _ _ => trivial) kg7_sheet ⟨rfl, kh7_sheet⟩ ⟨Nat.le_of_ble_eq_true rfl, Nat.le_of_ble_eq_true rfl⟩ ⟨hk.1, hk.2⟩ hd rfl (T9 := TX7) (N := 12) rfl rfl hcat ?_
    intro v9 w9 hp9
    obtain ⟨r, so9, sz9, g9, rfl, rfl, he9⟩ := hp9
    obtain ⟨nz9, hn9, rfl⟩ := k_sheet9 (hz9 0 (by decide)) he9
    show X K9 N9 _ lv9 (pc9 + 3) (.int r :: st9)
    refine x_back C9 (wsN := CWo cI cM cW cS zad zq zqc zqs zqe zsh zra id zwr ztn zlw zrz zpn zpw zhi zrg zpg zhp zph zR0 zR1 zR2 zR3 zkf zmf zlf zcf zsf ztf zP0 zP1 zP2 zP3 zpk zpm zpv zpc zps zpt ztp zcd zen (r_ch zso 0 so9) (r_ch znz 0 nz9) (r_ch zgs 0 g9) Y) [0, 78, 79, 80] [(1, 77), (81, 8)] 89 rfl (by decide +kernel) rfl rfl ?_
    exact kk0 r so9 nz9 g9 hn9 he9
  ·
    refine x_callB C9 (As := [.int s, .int t, .int n]) (st := st9) (c_X7_sheet l D9 cI cM cW cS (zad 0) (zad 13) (zad 25) (zad 37) (zad 49) (zad 51) (zad 53) (zad 54) (zad 55) (zad 56) zwr zhi (zad 1) (rr4 (zsh 0) (zsh 1) (zsh 2) (zsh 3)) (zsh 1) (zra 1) (zso 1) (znz 1) (zgs 1) s t n (fun i hi he => by rw [hs9 i hi he]; rfl)) [0, 78, 81, 82] [(1, 77), (79, 2), (83, 6)] 89 rfl (by decide +kernel) rfl rZ0_ok (fun _ _ _ _ => trivial) kg7_sheet ⟨rfl, kh7_sheet⟩ ⟨Nat.le_of_ble_eq_true rfl, Nat.le_of_ble_eq_true rfl⟩ ⟨hk.1, hk.2⟩ hd rfl (T9 := TX7) (N := 12) rfl rfl hcat ?_
    intro v9 w9 hp9
    obtain ⟨r, so9, sz9, g9, rfl, rfl, he9⟩ := hp9
    obtain ⟨nz9, hn9, rfl⟩ := k_sheet9 (hz9 1 (by decide)) he9
    show X K9 N9 _ lv9 (pc9 + 3) (.int r :: st9)
    refine x_back C9 (wsN := CWo cI cM cW cS zad zq zqc zqs zqe zsh zra id zwr ztn zlw zrz zpn zpw zhi zrg zpg zhp zph zR0 zR1 zR2 zR3 zkf zmf zlf zcf zsf ztf zP0 zP1 zP2 zP3 zpk zpm zpv zpc zps zpt ztp zcd zen (r_ch zso 1 so9) (r_ch znz 1 nz9) (r_ch zgs 1 g9) Y) [0, 78, 81, 82] [(1, 77), (79, 2), (83, 6)] 89 rfl (by decide +kernel) rfl rfl ?_
    exact kk0 r so9 nz9 g9 hn9 he9
  ·
    refine x_callB C9 (As := [.int s, .int t, .int n]) (st := st9) (c_X7_sheet l D9 cI cM cW cS (zad 0) (zad 13) (zad 25) (zad 37) (zad 49) (zad 51) (zad 53) (zad 54) (zad 55) (zad 56) zwr zhi (zad 1) (rr4 (zsh 0) (zsh 1) (zsh 2) (zsh 3)) (zsh 2) (zra 2) (zso 2) (znz 2) (zgs 2) s t n (fun i hi he => by rw [hs9 i hi he]; rfl)) [0, 78, 83, 84] [(1, 77), (79, 4), (85, 4)] 89 rfl (by decide +kernel) rfl rZ0_ok (fun _ _ _ _ => trivial) kg7_sheet ⟨rfl, kh7_sheet⟩ ⟨Nat.le_of_ble_eq_true rfl, Nat.le_of_ble_eq_true rfl⟩ ⟨hk.1, hk.2⟩ hd rfl (T9 := TX7) (N := 12) rfl rfl hcat ?_
    intro v9 w9 hp9
    obtain ⟨r, so9, sz9, g9, rfl, rfl, he9⟩ := hp9
    obtain ⟨nz9, hn9, rfl⟩ := k_sheet9 (hz9 2 (by decide)) he9
    show X K9 N9 _ lv9 (pc9 + 3) (.int r :: st9)
    refine x_back C9 (wsN := CWo cI cM cW cS zad zq zqc zqs zqe zsh zra id zwr ztn zlw zrz zpn zpw zhi zrg zpg zhp zph zR0 zR1 zR2 zR3 zkf zmf zlf zcf zsf ztf zP0 zP1 zP2 zP3 zpk zpm zpv zpc zps zpt ztp zcd zen (r_ch zso 2 so9) (r_ch znz 2 nz9) (r_ch zgs 2 g9) Y) [0, 78, 83, 84] [(1, 77), (79, 4), (85, 4)] 89 rfl (by decide +kernel) rfl rfl ?_
    exact kk0 r so9 nz9 g9 hn9 he9
  ·
    refine x_callB C9 (As := [.int s, .int t, .int n]) (st := st9) (c_X7_sheet l D9 cI cM cW cS (zad 0) (zad 13) (zad 25) (zad 37) (zad 49) (zad 51) (zad 53) (zad 54) (zad 55) (zad 56) zwr zhi (zad 1) (rr4 (zsh 0) (zsh 1) (zsh 2) (zsh 3)) (zsh 3) (zra 3) (zso 3) (znz 3) (zgs 3) s t n (fun i hi he => by rw [hs9 i hi he]; rfl)) [0, 78, 85, 86] [(1, 77), (79, 6), (87, 2)] 89 rfl (by decide +kernel) rfl rZ0_ok (fun _ _ _ _ => trivial) kg7_sheet ⟨rfl, kh7_sheet⟩ ⟨Nat.le_of_ble_eq_true rfl, Nat.le_of_ble_eq_true rfl⟩ ⟨hk.1, hk.2⟩ hd rfl (T9 := TX7) (N := 12) rfl rfl hcat ?_
    intro v9 w9 hp9
    obtain ⟨r, so9, sz9, g9, rfl, rfl, he9⟩ := hp9
    obtain ⟨nz9, hn9, rfl⟩ := k_sheet9 (hz9 3 (by decide)) he9
    show X K9 N9 _ lv9 (pc9 + 3) (.int r :: st9)
    refine x_back C9 (wsN := CWo cI cM cW cS zad zq zqc zqs zqe zsh zra id zwr ztn zlw zrz zpn zpw zhi zrg zpg zhp zph zR0 zR1 zR2 zR3 zkf zmf zlf zcf zsf ztf zP0 zP1 zP2 zP3 zpk zpm zpv zpc zps zpt ztp zcd zen (r_ch zso 3 so9) (r_ch znz 3 nz9) (r_ch zgs 3 g9) Y) [0, 78, 85, 86] [(1, 77), (79, 6), (87, 2)] 89 rfl (by decide +kernel) rfl rfl ?_
    exact kk0 r so9 nz9 g9 hn9 he9
theorem kg7_cell : GoodIn GW (wsV RL 181 yX7_cell.cls yX7_cell (Cond.code yX7_cell cX7_cell 5 (some .int) :: GW)) := r_gV gw_42_6 gw_42_7 gw_42_8 gw_1_2 gw_42_9
theorem kh7_cell : yX7_cell.cls ≠ "java/lang/invoke/MethodHandle" ∧ yX7_cell.cls ≠ "java/lang/invoke/VarHandle" ∧ (parseMethodDescriptor yX7_cell.desc).map (fun d => d.parameters.length) = some 3 := ⟨by decide +kernel, by decide +kernel, by decide +kernel⟩
set_option maxHeartbeats 4000000 in
set_option maxRecDepth 100000 in
theorem k7_cell (C9 : rC X l cL_law 4 RL room_1 D9 (tY cI cM cW cS) (zLw adK adV fm b9 L9 xs9) false) (s : Int32) (i : Int32) (v : Int32) (j9 : Nat) (hj9 : j9 < 4) (hs9 : ∀ i, i < 4 → s = nI i → i = j9) (hz9 : ∀ i, i < 4 → znz i ≤ 40) (hd : decode cL_law pc9 = .ok (.invokevirtual 181, 3)) (hk : K9 ≤ 600000 ∧ N9 ≤ 7302250) (hcat : (st9.map fun v => v.category).sum ≤ 8) (kk0 : ∀ (r : Int32) (g' : Nat → Int32), ((r, g') = (o_cell (zso j9) (znz j9) s i v, o_cell_g (zgs j9) (zso j9) (znz j9) s i v)) → X K9 N9 (CWo cI cM cW cS zad zq zqc zqs zqe zsh zra id zwr ztn zlw zrz zpn zpw zhi zrg zpg zhp zph zR0 zR1 zR2 zR3 zkf zmf zlf zcf zsf ztf zP0 zP1 zP2 zP3 zpk zpm zpv zpc zps zpt ztp zcd zen zso znz (r_ch zgs j9 g') Y ++ T9) lv9 (pc9 + 3) (.int r :: st9)) : X K9 N9 (CWo cI cM cW cS zad zq zqc zqs zqe zsh zra id zwr ztn zlw zrz zpn zpw zhi zrg zpg zhp zph zR0 zR1 zR2 zR3 zkf zmf zlf zcf zsf ztf zP0 zP1 zP2 zP3 zpk zpm zpv zpc zps zpt ztp zcd zen zso znz zgs Y ++ T9) lv9 pc9 (.int v :: .int i :: .int s :: .ref (zad 0) :: st9) := by
  rcases (show j9 = 0 ∨ j9 = 1 ∨ j9 = 2 ∨ j9 = 3 by omega) with rfl | rfl | rfl | rfl
  ·
    refine x_callB C9 (As := [.int s, .int i, .int v]) (st := st9) (c_X7_cell l D9 cI cM cW cS (zad 0) (zad 13) (zad 25) (zad 37) (zad 49) (zad 51) (zad 53) (zad 54) (zad 55) (zad 56) zwr zhi (zad 1) (rr4 (zsh 0) (zsh 1) (zsh 2) (zsh 3)) (zsh 0) (zra 0) (zso 0) (znz 0) (zgs 0) s i v (fun i hi he => by rw [hs9 i hi he]; rfl) (hz9 0 (by decide))) [0, 78, 79, 80] [(1, 77), (81, 8)] 89 rfl (by decide +kernel) rfl rZ0_ok (fun _ _ _ _ => trivial) kg7_cell ⟨rfl, kh7_cell⟩ ⟨Nat.le_of_ble_eq_true rfl, Nat.le_of_ble_eq_true rfl⟩ ⟨hk.1, hk.2⟩ hd rfl (T9 := TX7) (N := 12) rfl rfl hcat ?_
    intro v9 w9 hp9
    obtain ⟨r, g9, rfl, rfl, he9⟩ := hp9
    show X K9 N9 _ lv9 (pc9 + 3) (.int r :: st9)
    refine x_back C9 (wsN := CWo cI cM cW cS zad zq zqc zqs zqe zsh zra id zwr ztn zlw zrz zpn zpw zhi zrg zpg zhp zph zR0 zR1 zR2 zR3 zkf zmf zlf zcf zsf ztf zP0 zP1 zP2 zP3 zpk zpm zpv zpc zps zpt ztp zcd zen zso znz (r_ch zgs 0 g9) Y) [0, 78, 79, 80] [(1, 77), (81, 8)] 89 rfl (by decide +kernel) rfl rfl ?_
    exact kk0 r g9 he9
  ·
    refine x_callB C9 (As := [.int s, .int i, .int v]) (st := st9) (c_X7_cell l D9 cI cM cW cS (zad 0) (zad 13) (zad 25) (zad 37) (zad 49) (zad 51) (zad 53) (zad 54) (zad 55) (zad 56) zwr zhi (zad 1) (rr4 (zsh 0) (zsh 1) (zsh 2) (zsh 3)) (zsh 1) (zra 1) (zso 1) (znz 1) (zgs 1) s i v (fun i hi he => by rw [hs9 i hi he]; rfl) (hz9 1 (by decide))) [0, 78, 81, 82] [(1, 77), (79, 2), (83, 6)] 89 rfl (by decide +kernel) rfl rZ0_ok (fun _ _ _ _ => trivial) kg7_cell ⟨rfl, kh7_cell⟩ ⟨Nat.le_of_ble_eq_true rfl, Nat.le_of_ble_eq_true rfl⟩ ⟨hk.1, hk.2⟩ hd rfl (T9 := TX7) (N := 12) rfl rfl hcat ?_
    intro v9 w9 hp9
    obtain ⟨r, g9, rfl, rfl, he9⟩ := hp9
    show X K9 N9 _ lv9 (pc9 + 3) (.int r :: st9)
    refine x_back C9 (wsN := CWo cI cM cW cS zad zq zqc zqs zqe zsh zra id zwr ztn zlw zrz zpn zpw zhi zrg zpg zhp zph zR0 zR1 zR2 zR3 zkf zmf zlf zcf zsf ztf zP0 zP1 zP2 zP3 zpk zpm zpv zpc zps zpt ztp zcd zen zso znz (r_ch zgs 1 g9) Y) [0, 78, 81, 82] [(1, 77), (79, 2), (83, 6)] 89 rfl (by decide +kernel) rfl rfl ?_
    exact kk0 r g9 he9
  ·
    refine x_callB C9 (As := [.int s, .int i, .int v]) (st := st9) (c_X7_cell l D9 cI cM cW cS (zad 0) (zad 13) (zad 25) (zad 37) (zad 49) (zad 51) (zad 53) (zad 54) (zad 55) (zad 56) zwr zhi (zad 1) (rr4 (zsh 0) (zsh 1) (zsh 2) (zsh 3)) (zsh 2) (zra 2) (zso 2) (znz 2) (zgs 2) s i v (fun i hi he => by rw [hs9 i hi he]; rfl) (hz9 2 (by decide))) [0, 78, 83, 84] [(1, 77), (79, 4), (85, 4)] 89 rfl (by decide +kernel) rfl rZ0_ok (fun _ _ _ _ => trivial) kg7_cell ⟨rfl, kh7_cell⟩ ⟨Nat.le_of_ble_eq_true rfl, Nat.le_of_ble_eq_true rfl⟩ ⟨hk.1, hk.2⟩ hd rfl (T9 := TX7) (N := 12) rfl rfl hcat ?_
    intro v9 w9 hp9
    obtain ⟨r, g9, rfl, rfl, he9⟩ := hp9
    show X K9 N9 _ lv9 (pc9 + 3) (.int r :: st9)
    refine x_back C9 (wsN := CWo cI cM cW cS zad zq zqc zqs zqe zsh zra id zwr ztn zlw zrz zpn zpw zhi zrg zpg zhp zph zR0 zR1 zR2 zR3 zkf zmf zlf zcf zsf ztf zP0 zP1 zP2 zP3 zpk zpm zpv zpc zps zpt ztp zcd zen zso znz (r_ch zgs 2 g9) Y) [0, 78, 83, 84] [(1, 77), (79, 4), (85, 4)] 89 rfl (by decide +kernel) rfl rfl ?_
    exact kk0 r g9 he9
  ·
    refine x_callB C9 (As := [.int s, .int i, .int v]) (st := st9) (c_X7_cell l D9 cI cM cW cS (zad 0) (zad 13) (zad 25) (zad 37) (zad 49) (zad 51) (zad 53) (zad 54) (zad 55) (zad 56) zwr zhi (zad 1) (rr4 (zsh 0) (zsh 1) (zsh 2) (zsh 3)) (zsh 3) (zra 3) (zso 3) (znz 3) (zgs 3) s i v (fun i hi he => by rw [hs9 i hi he]; rfl) (hz9 3 (by decide))) [0, 78, 85, 86] [(1, 77), (79, 6), (87, 2)] 89 rfl (by decide +kernel) rfl rZ0_ok (fun _ _ _ _ => trivial) kg7_cell ⟨rfl, kh7_cell⟩ ⟨Nat.le_of_ble_eq_true rfl, Nat.le_of_ble_eq_true rfl⟩ ⟨hk.1, hk.2⟩ hd rfl (T9 := TX7) (N := 12) rfl rfl hcat ?_
    intro v9 w9 hp9
    obtain ⟨r, g9, rfl, rfl, he9⟩ := hp9
    show X K9 N9 _ lv9 (pc9 + 3) (.int r :: st9)
    refine x_back C9 (wsN := CWo cI cM cW cS zad zq zqc zqs zqe zsh zra id zwr ztn zlw zrz zpn zpw zhi zrg zpg zhp zph zR0 zR1 zR2 zR3 zkf zmf zlf zcf zsf ztf zP0 zP1 zP2 zP3 zpk zpm zpv zpc zps zpt ztp zcd zen zso znz (r_ch zgs 3 g9) Y) [0, 78, 85, 86] [(1, 77), (79, 6), (87, 2)] 89 rfl (by decide +kernel) rfl rfl ?_
    exact kk0 r g9 he9
theorem kg7_treesBy : GoodIn GW (wsV RL 189 yX7_treesBy.cls yX7_treesBy (Cond.code yX7_treesBy cX7_treesBy 9 (some .int) :: GW)) := r_gV gw_43_3 gw_43_4 gw_43_5 gw_1_2 gw_43_6
theorem kh7_treesBy : yX7_treesBy.cls ≠ "java/lang/invoke/MethodHandle" ∧ yX7_treesBy.cls ≠ "java/lang/invoke/VarHandle" ∧ (parseMethodDescriptor yX7_treesBy.desc).map (fun d => d.parameters.length) = some 4 := ⟨by decide +kernel, by decide +kernel, by decide +kernel⟩
set_option maxHeartbeats 4000000 in
set_option maxRecDepth 100000 in
theorem k7_treesBy (C9 : rC X l cL_law 4 RL room_1 D9 (tY cI cM cW cS) (zLw adK adV fm b9 L9 xs9) false) (s : Int32) (t : Int32) (at9 : Int32) (n : Int32) (htn : ztn ≤ 4) (j9 : Nat) (hj9 : j9 < 4) (hs9 : ∀ i, i < 4 → s = nI i → i = j9) (hz9 : ∀ i, i < 4 → znz i ≤ 40) (hd : decode cL_law pc9 = .ok (.invokevirtual 189, 3)) (hk : K9 ≤ 600000 ∧ N9 ≤ 7302250) (hcat : (st9.map fun v => v.category).sum ≤ 8) (kk0 : ∀ (r : Int32) (n' : Nat) (a' : Nat → Int32) (b' : Nat → Int32) (c' : Nat → Int32) (e' : Nat), ((r, n', a', b', c', e') = o_treesBy (zgs j9) (zso j9) (znz j9) (ztn, zcf, zsf, ztf, 0) s t at9 n) → X K9 N9 (CWo cI cM cW cS zad zq zqc zqs zqe zsh zra id zwr n' zlw zrz zpn zpw zhi zrg zpg zhp zph zR0 zR1 zR2 zR3 zkf zmf zlf a' b' c' zP0 zP1 zP2 zP3 zpk zpm zpv zpc zps zpt ztp zcd zen zso znz zgs Y ++ T9) lv9 (pc9 + 3) (.int r :: st9)) : X K9 N9 (CWo cI cM cW cS zad zq zqc zqs zqe zsh zra id zwr ztn zlw zrz zpn zpw zhi zrg zpg zhp zph zR0 zR1 zR2 zR3 zkf zmf zlf zcf zsf ztf zP0 zP1 zP2 zP3 zpk zpm zpv zpc zps zpt ztp zcd zen zso znz zgs Y ++ T9) lv9 pc9 (.int n :: .int at9 :: .int t :: .int s :: .ref (zad 0) :: st9) := by
  rcases (show j9 = 0 ∨ j9 = 1 ∨ j9 = 2 ∨ j9 = 3 by omega) with rfl | rfl | rfl | rfl
  ·
    refine x_callB C9 (As := [.int s, .int t, .int at9, .int n]) (st := st9) (c_X7_treesBy l D9 cI cM cW cS (zad 0) (zad 13) (zad 25) (zad 37) (zad 49) (zad 51) (zad 53) (zad 54) (zad 55) (zad 56) zwr zhi (zad 1) (zad 2) (zad 7) (zad 8) (zad 9) (zad 10) (zad 11) (zad 12) 0 0 0 0 ztn zlw zrg zhp (fun _ => 0) (fun _ => 0) (fun _ => 0) (fun _ => 0) (fun _ => 0) (fun _ => 0) (fun _ => 0) zcf zsf ztf (rr4 (zsh 0) (zsh 1) (zsh 2) (zsh 3)) (zsh 0) (zra 0) (zso 0) (znz 0) (zgs 0) s t at9 n htn (fun i hi he => by rw [hs9 i hi he]; rfl) (hz9 0 (by decide))) [0, 1, 10, 11, 12, 78, 79, 80] [(2, 8), (13, 65), (81, 8)] 89 rfl (by decide +kernel) rfl rZ0_ok (fun _ _ _ _ => trivial) kg7_treesBy ⟨rfl, kh7_treesBy⟩ ⟨Nat.le_of_ble_eq_true rfl, Nat.le_of_ble_eq_true rfl⟩ ⟨hk.1, hk.2⟩ hd rfl (T9 := TX7) (N := 12) rfl rfl hcat ?_
    intro v9 w9 hp9
    obtain ⟨r, n9, a9, b9, c9, e9, rfl, rfl, he9⟩ := hp9
    show X K9 N9 _ lv9 (pc9 + 3) (.int r :: st9)
    refine x_back C9 (wsN := CWo cI cM cW cS zad zq zqc zqs zqe zsh zra id zwr n9 zlw zrz zpn zpw zhi zrg zpg zhp zph zR0 zR1 zR2 zR3 zkf zmf zlf a9 b9 c9 zP0 zP1 zP2 zP3 zpk zpm zpv zpc zps zpt ztp zcd zen zso znz zgs Y) [0, 1, 10, 11, 12, 78, 79, 80] [(2, 8), (13, 65), (81, 8)] 89 rfl (by decide +kernel) rfl rfl ?_
    exact kk0 r n9 a9 b9 c9 e9 he9
  ·
    refine x_callB C9 (As := [.int s, .int t, .int at9, .int n]) (st := st9) (c_X7_treesBy l D9 cI cM cW cS (zad 0) (zad 13) (zad 25) (zad 37) (zad 49) (zad 51) (zad 53) (zad 54) (zad 55) (zad 56) zwr zhi (zad 1) (zad 2) (zad 7) (zad 8) (zad 9) (zad 10) (zad 11) (zad 12) 0 0 0 0 ztn zlw zrg zhp (fun _ => 0) (fun _ => 0) (fun _ => 0) (fun _ => 0) (fun _ => 0) (fun _ => 0) (fun _ => 0) zcf zsf ztf (rr4 (zsh 0) (zsh 1) (zsh 2) (zsh 3)) (zsh 1) (zra 1) (zso 1) (znz 1) (zgs 1) s t at9 n htn (fun i hi he => by rw [hs9 i hi he]; rfl) (hz9 1 (by decide))) [0, 1, 10, 11, 12, 78, 81, 82] [(2, 8), (13, 65), (79, 2), (83, 6)] 89 rfl (by decide +kernel) rfl rZ0_ok (fun _ _ _ _ => trivial) kg7_treesBy ⟨rfl, kh7_treesBy⟩ ⟨Nat.le_of_ble_eq_true rfl, Nat.le_of_ble_eq_true rfl⟩ ⟨hk.1, hk.2⟩ hd rfl (T9 := TX7) (N := 12) rfl rfl hcat ?_
    intro v9 w9 hp9
    obtain ⟨r, n9, a9, b9, c9, e9, rfl, rfl, he9⟩ := hp9
    show X K9 N9 _ lv9 (pc9 + 3) (.int r :: st9)
    refine x_back C9 (wsN := CWo cI cM cW cS zad zq zqc zqs zqe zsh zra id zwr n9 zlw zrz zpn zpw zhi zrg zpg zhp zph zR0 zR1 zR2 zR3 zkf zmf zlf a9 b9 c9 zP0 zP1 zP2 zP3 zpk zpm zpv zpc zps zpt ztp zcd zen zso znz zgs Y) [0, 1, 10, 11, 12, 78, 81, 82] [(2, 8), (13, 65), (79, 2), (83, 6)] 89 rfl (by decide +kernel) rfl rfl ?_
    exact kk0 r n9 a9 b9 c9 e9 he9
  ·
    refine x_callB C9 (As := [.int s, .int t, .int at9, .int n]) (st := st9) (c_X7_treesBy l D9 cI cM cW cS (zad 0) (zad 13) (zad 25) (zad 37) (zad 49) (zad 51) (zad 53) (zad 54) (zad 55) (zad 56) zwr zhi (zad 1) (zad 2) (zad 7) (zad 8) (zad 9) (zad 10) (zad 11) (zad 12) 0 0 0 0 ztn zlw zrg zhp (fun _ => 0) (fun _ => 0) (fun _ => 0) (fun _ => 0) (fun _ => 0) (fun _ => 0) (fun _ => 0) zcf zsf ztf (rr4 (zsh 0) (zsh 1) (zsh 2) (zsh 3)) (zsh 2) (zra 2) (zso 2) (znz 2) (zgs 2) s t at9 n htn (fun i hi he => by rw [hs9 i hi he]; rfl) (hz9 2 (by decide))) [0, 1, 10, 11, 12, 78, 83, 84] [(2, 8), (13, 65), (79, 4), (85, 4)] 89 rfl (by decide +kernel) rfl rZ0_ok (fun _ _ _ _ => trivial) kg7_treesBy ⟨rfl, kh7_treesBy⟩ ⟨Nat.le_of_ble_eq_true rfl, Nat.le_of_ble_eq_true rfl⟩ ⟨hk.1, hk.2⟩ hd rfl (T9 := TX7) (N := 12) rfl rfl hcat ?_
    intro v9 w9 hp9
    obtain ⟨r, n9, a9, b9, c9, e9, rfl, rfl, he9⟩ := hp9
    show X K9 N9 _ lv9 (pc9 + 3) (.int r :: st9)
    refine x_back C9 (wsN := CWo cI cM cW cS zad zq zqc zqs zqe zsh zra id zwr n9 zlw zrz zpn zpw zhi zrg zpg zhp zph zR0 zR1 zR2 zR3 zkf zmf zlf a9 b9 c9 zP0 zP1 zP2 zP3 zpk zpm zpv zpc zps zpt ztp zcd zen zso znz zgs Y) [0, 1, 10, 11, 12, 78, 83, 84] [(2, 8), (13, 65), (79, 4), (85, 4)] 89 rfl (by decide +kernel) rfl rfl ?_
    exact kk0 r n9 a9 b9 c9 e9 he9
  ·
    refine x_callB C9 (As := [.int s, .int t, .int at9, .int n]) (st := st9) (c_X7_treesBy l D9 cI cM cW cS (zad 0) (zad 13) (zad 25) (zad 37) (zad 49) (zad 51) (zad 53) (zad 54) (zad 55) (zad 56) zwr zhi (zad 1) (zad 2) (zad 7) (zad 8) (zad 9) (zad 10) (zad 11) (zad 12) 0 0 0 0 ztn zlw zrg zhp (fun _ => 0) (fun _ => 0) (fun _ => 0) (fun _ => 0) (fun _ => 0) (fun _ => 0) (fun _ => 0) zcf zsf ztf (rr4 (zsh 0) (zsh 1) (zsh 2) (zsh 3)) (zsh 3) (zra 3) (zso 3) (znz 3) (zgs 3) s t at9 n htn (fun i hi he => by rw [hs9 i hi he]; rfl) (hz9 3 (by decide))) [0, 1, 10, 11, 12, 78, 85, 86] [(2, 8), (13, 65), (79, 6), (87, 2)] 89 rfl (by decide +kernel) rfl rZ0_ok (fun _ _ _ _ => trivial) kg7_treesBy ⟨rfl, kh7_treesBy⟩ ⟨Nat.le_of_ble_eq_true rfl, Nat.le_of_ble_eq_true rfl⟩ ⟨hk.1, hk.2⟩ hd rfl (T9 := TX7) (N := 12) rfl rfl hcat ?_
    intro v9 w9 hp9
    obtain ⟨r, n9, a9, b9, c9, e9, rfl, rfl, he9⟩ := hp9
    show X K9 N9 _ lv9 (pc9 + 3) (.int r :: st9)
    refine x_back C9 (wsN := CWo cI cM cW cS zad zq zqc zqs zqe zsh zra id zwr n9 zlw zrz zpn zpw zhi zrg zpg zhp zph zR0 zR1 zR2 zR3 zkf zmf zlf a9 b9 c9 zP0 zP1 zP2 zP3 zpk zpm zpv zpc zps zpt ztp zcd zen zso znz zgs Y) [0, 1, 10, 11, 12, 78, 85, 86] [(2, 8), (13, 65), (79, 6), (87, 2)] 89 rfl (by decide +kernel) rfl rfl ?_
    exact kk0 r n9 a9 b9 c9 e9 he9
end KK
