section KK
variable {X : rT} {l : Launch} {D9 : va_G} {cI cM cW cS : ClassId} {adK adV : Nat → Nat} {fm : Option Nat} {b9 L9 : Nat} {xs9 : Nat → Int32} {K9 N9 : Nat} {T9 : va_W} {lv9 : rL} {pc9 : Nat} {st9 : List Value}
variable {zad zq zqc zqs zqe zsh zra : Nat → Nat} {zwr ztn zlw zrz zpn zpw : Nat} {zhi zrg zpg : Int32} {zhp zph : Int64} {zR0 zR1 zR2 zR3 zkf zmf zlf zcf zsf ztf zP0 zP1 zP2 zP3 zpk zpm zpv zpc zps zpt ztp : sF} {zcd zen : Nat → sF} {zso : Nat → Int32} {znz : Nat → Nat} {zgs : Nat → sF} {Y : sY}
theorem kg7_copy : GoodIn GW (wsV RL 185 yX7_copy.cls yX7_copy (Cond.code yX7_copy cX7_copy 8 (some .int) :: GW)) := r_gV gw_42_18 gw_42_19 gw_42_20 gw_1_2 gw_42_21
theorem kh7_copy : yX7_copy.cls ≠ "java/lang/invoke/MethodHandle" ∧ yX7_copy.cls ≠ "java/lang/invoke/VarHandle" ∧ (parseMethodDescriptor yX7_copy.desc).map (fun d => d.parameters.length) = some 5 := ⟨by decide +kernel, by decide +kernel, by decide +kernel⟩
set_option maxHeartbeats 4000000 in
set_option maxRecDepth 100000 in
theorem k7_copy (C9 : rC X l cL_law 4 RL room_1 D9 (tY cI cM cW cS) (zLw adK adV fm b9 L9 xs9) false) (s : Int32) (i : Int32) (t : Int32) (j : Int32) (n : Int32) (j9 : Nat) (hj9 : j9 < 4) (hs9 : ∀ i, i < 4 → s = nI i → i = j9) (hz9 : ∀ i, i < 4 → znz i ≤ 40) (j8 : Nat) (hj8 : j8 < 4) (hs8 : ∀ i, i < 4 → t = nI i → i = j8) (hne : j9 ≠ j8) (hd : decode cL_law pc9 = .ok (.invokevirtual 185, 3)) (hk : K9 ≤ 600000 ∧ N9 ≤ 7302250) (hcat : (st9.map fun v => v.category).sum ≤ 8) (kk0 : ∀ (r : Int32) (g2' : Nat → Int32), ((r, g2') = (o_copy (zso j9) (znz j9) (zso j8) (znz j8) s i t j n, o_copy_g (zgs j9) (zgs j8) (zso j9) (znz j9) (zso j8) (znz j8) s i t j n)) → X K9 N9 (CWo cI cM cW cS zad zq zqc zqs zqe zsh zra id zwr ztn zlw zrz zpn zpw zhi zrg zpg zhp zph zR0 zR1 zR2 zR3 zkf zmf zlf zcf zsf ztf zP0 zP1 zP2 zP3 zpk zpm zpv zpc zps zpt ztp zcd zen zso znz (r_ch zgs j8 g2') Y ++ T9) lv9 (pc9 + 3) (.int r :: st9)) : X K9 N9 (CWo cI cM cW cS zad zq zqc zqs zqe zsh zra id zwr ztn zlw zrz zpn zpw zhi zrg zpg zhp zph zR0 zR1 zR2 zR3 zkf zmf zlf zcf zsf ztf zP0 zP1 zP2 zP3 zpk zpm zpv zpc zps zpt ztp zcd zen zso znz zgs Y ++ T9) lv9 pc9 (.int n :: .int j :: .int t :: .int i :: .int s :: .ref (zad 0) :: st9) := by
  rcases (show j9 = 0 ∨ j9 = 1 ∨ j9 = 2 ∨ j9 = 3 by omega) with rfl | rfl | rfl | rfl
  ·
    rcases (show j8 = 0 ∨ j8 = 1 ∨ j8 = 2 ∨ j8 = 3 by omega) with rfl | rfl | rfl | rfl
    ·
      exact absurd rfl hne
    ·
      refine x_callB C9 (As := [.int s, .int i, .int t, .int j, .int n]) (st := st9) (c_X7_copy l D9 cI cM cW cS (zad 0) (zad 13) (zad 25) (zad 37) (zad 49) (zad 51) (zad 53) (zad 54) (zad 55) (zad 56) zwr zhi (zad 1) (rr4 (zsh 0) (zsh 1) (zsh 2) (zsh 3)) (zsh 0) (zra 0) (zso 0) (znz 0) (zgs 0) (zsh 1) (zra 1) (zso 1) (znz 1) (zgs 1) s i t j n (fun i hi he => by rw [hs9 i hi he]; rfl) (fun i hi he => by rw [hs8 i hi he]; rfl) (hz9 0 (by decide)) (hz9 1 (by decide))) [0, 78, 79, 80, 81, 82] [(1, 77), (83, 6)] 89 rfl (by decide +kernel) rfl rZ0_ok (fun _ _ _ _ => trivial) kg7_copy ⟨rfl, kh7_copy⟩ ⟨Nat.le_of_ble_eq_true rfl, Nat.le_of_ble_eq_true rfl⟩ ⟨hk.1, hk.2⟩ hd rfl (T9 := TX7) (N := 12) rfl rfl hcat ?_
      intro v9 w9 hp9
      obtain ⟨r, g29, rfl, rfl, he9⟩ := hp9
      show X K9 N9 _ lv9 (pc9 + 3) (.int r :: st9)
      refine x_back C9 (wsN := CWo cI cM cW cS zad zq zqc zqs zqe zsh zra id zwr ztn zlw zrz zpn zpw zhi zrg zpg zhp zph zR0 zR1 zR2 zR3 zkf zmf zlf zcf zsf ztf zP0 zP1 zP2 zP3 zpk zpm zpv zpc zps zpt ztp zcd zen zso znz (r_ch zgs 1 g29) Y) [0, 78, 79, 80, 81, 82] [(1, 77), (83, 6)] 89 rfl (by decide +kernel) rfl rfl ?_
      exact kk0 r g29 he9
    ·
      refine x_callB C9 (As := [.int s, .int i, .int t, .int j, .int n]) (st := st9) (c_X7_copy l D9 cI cM cW cS (zad 0) (zad 13) (zad 25) (zad 37) (zad 49) (zad 51) (zad 53) (zad 54) (zad 55) (zad 56) zwr zhi (zad 1) (rr4 (zsh 0) (zsh 1) (zsh 2) (zsh 3)) (zsh 0) (zra 0) (zso 0) (znz 0) (zgs 0) (zsh 2) (zra 2) (zso 2) (znz 2) (zgs 2) s i t j n (fun i hi he => by rw [hs9 i hi he]; rfl) (fun i hi he => by rw [hs8 i hi he]; rfl) (hz9 0 (by decide)) (hz9 2 (by decide))) [0, 78, 79, 80, 83, 84] [(1, 77), (81, 2), (85, 4)] 89 rfl (by decide +kernel) rfl rZ0_ok (fun _ _ _ _ => trivial) kg7_copy ⟨rfl, kh7_copy⟩ ⟨Nat.le_of_ble_eq_true rfl, Nat.le_of_ble_eq_true rfl⟩ ⟨hk.1, hk.2⟩ hd rfl (T9 := TX7) (N := 12) rfl rfl hcat ?_
      intro v9 w9 hp9
      obtain ⟨r, g29, rfl, rfl, he9⟩ := hp9
      show X K9 N9 _ lv9 (pc9 + 3) (.int r :: st9)
      refine x_back C9 (wsN := CWo cI cM cW cS zad zq zqc zqs zqe zsh zra id zwr ztn zlw zrz zpn zpw zhi zrg zpg zhp zph zR0 zR1 zR2 zR3 zkf zmf zlf zcf zsf ztf zP0 zP1 zP2 zP3 zpk zpm zpv zpc zps zpt ztp zcd zen zso znz (r_ch zgs 2 g29) Y) [0, 78, 79, 80, 83, 84] [(1, 77), (81, 2), (85, 4)] 89 rfl (by decide +kernel) rfl rfl ?_
      exact kk0 r g29 he9
    ·
      refine x_callB C9 (As := [.int s, .int i, .int t, .int j, .int n]) (st := st9) (c_X7_copy l D9 cI cM cW cS (zad 0) (zad 13) (zad 25) (zad 37) (zad 49) (zad 51) (zad 53) (zad 54) (zad 55) (zad 56) zwr zhi (zad 1) (rr4 (zsh 0) (zsh 1) (zsh 2) (zsh 3)) (zsh 0) (zra 0) (zso 0) (znz 0) (zgs 0) (zsh 3) (zra 3) (zso 3) (znz 3) (zgs 3) s i t j n (fun i hi he => by rw [hs9 i hi he]; rfl) (fun i hi he => by rw [hs8 i hi he]; rfl) (hz9 0 (by decide)) (hz9 3 (by decide))) [0, 78, 79, 80, 85, 86] [(1, 77), (81, 4), (87, 2)] 89 rfl (by decide +kernel) rfl rZ0_ok (fun _ _ _ _ => trivial) kg7_copy ⟨rfl, kh7_copy⟩ ⟨Nat.le_of_ble_eq_true rfl, Nat.le_of_ble_eq_true rfl⟩ ⟨hk.1, hk.2⟩ hd rfl (T9 := TX7) (N := 12) rfl rfl hcat ?_
      intro v9 w9 hp9
      obtain ⟨r, g29, rfl, rfl, he9⟩ := hp9
      show X K9 N9 _ lv9 (pc9 + 3) (.int r :: st9)
      refine x_back C9 (wsN := CWo cI cM cW cS zad zq zqc zqs zqe zsh zra id zwr ztn zlw zrz zpn zpw zhi zrg zpg zhp zph zR0 zR1 zR2 zR3 zkf zmf zlf zcf zsf ztf zP0 zP1 zP2 zP3 zpk zpm zpv zpc zps zpt ztp zcd zen zso znz (r_ch zgs 3 g29) Y) [0, 78, 79, 80, 85, 86] [(1, 77), (81, 4), (87, 2)] 89 rfl (by decide +kernel) rfl rfl ?_
      exact kk0 r g29 he9
  ·
    rcases (show j8 = 0 ∨ j8 = 1 ∨ j8 = 2 ∨ j8 = 3 by omega) with rfl | rfl | rfl | rfl
    ·
      refine x_callB C9 (As := [.int s, .int i, .int t, .int j, .int n]) (st := st9) (c_X7_copy l D9 cI cM cW cS (zad 0) (zad 13) (zad 25) (zad 37) (zad 49) (zad 51) (zad 53) (zad 54) (zad 55) (zad 56) zwr zhi (zad 1) (rr4 (zsh 0) (zsh 1) (zsh 2) (zsh 3)) (zsh 1) (zra 1) (zso 1) (znz 1) (zgs 1) (zsh 0) (zra 0) (zso 0) (znz 0) (zgs 0) s i t j n (fun i hi he => by rw [hs9 i hi he]; rfl) (fun i hi he => by rw [hs8 i hi he]; rfl) (hz9 1 (by decide)) (hz9 0 (by decide))) [0, 78, 81, 82, 79, 80] [(1, 77), (83, 6)] 89 rfl (by decide +kernel) rfl rZ0_ok (fun _ _ _ _ => trivial) kg7_copy ⟨rfl, kh7_copy⟩ ⟨Nat.le_of_ble_eq_true rfl, Nat.le_of_ble_eq_true rfl⟩ ⟨hk.1, hk.2⟩ hd rfl (T9 := TX7) (N := 12) rfl rfl hcat ?_
      intro v9 w9 hp9
      obtain ⟨r, g29, rfl, rfl, he9⟩ := hp9
      show X K9 N9 _ lv9 (pc9 + 3) (.int r :: st9)
      refine x_back C9 (wsN := CWo cI cM cW cS zad zq zqc zqs zqe zsh zra id zwr ztn zlw zrz zpn zpw zhi zrg zpg zhp zph zR0 zR1 zR2 zR3 zkf zmf zlf zcf zsf ztf zP0 zP1 zP2 zP3 zpk zpm zpv zpc zps zpt ztp zcd zen zso znz (r_ch zgs 0 g29) Y) [0, 78, 81, 82, 79, 80] [(1, 77), (83, 6)] 89 rfl (by decide +kernel) rfl rfl ?_
      exact kk0 r g29 he9
    ·
      exact absurd rfl hne
    ·
      refine x_callB C9 (As := [.int s, .int i, .int t, .int j, .int n]) (st := st9) (c_X7_copy l D9 cI cM cW cS (zad 0) (zad 13) (zad 25) (zad 37) (zad 49) (zad 51) (zad 53) (zad 54) (zad 55) (zad 56) zwr zhi (zad 1) (rr4 (zsh 0) (zsh 1) (zsh 2) (zsh 3)) (zsh 1) (zra 1) (zso 1) (znz 1) (zgs 1) (zsh 2) (zra 2) (zso 2) (znz 2) (zgs 2) s i t j n (fun i hi he => by rw [hs9 i hi he]; rfl) (fun i hi he => by rw [hs8 i hi he]; rfl) (hz9 1 (by decide)) (hz9 2 (by decide))) [0, 78, 81, 82, 83, 84] [(1, 77), (79, 2), (85, 4)] 89 rfl (by decide +kernel) rfl rZ0_ok (fun _ _ _ _ => trivial) kg7_copy ⟨rfl, kh7_copy⟩ ⟨Nat.le_of_ble_eq_true rfl, Nat.le_of_ble_eq_true rfl⟩ ⟨hk.1, hk.2⟩ hd rfl (T9 := TX7) (N := 12) rfl rfl hcat ?_
      intro v9 w9 hp9
      obtain ⟨r, g29, rfl, rfl, he9⟩ := hp9
      show X K9 N9 _ lv9 (pc9 + 3) (.int r :: st9)
      refine x_back C9 (wsN := CWo cI cM cW cS zad zq zqc zqs zqe zsh zra id zwr ztn zlw zrz zpn zpw zhi zrg zpg zhp zph zR0 zR1 zR2 zR3 zkf zmf zlf zcf zsf ztf zP0 zP1 zP2 zP3 zpk zpm zpv zpc zps zpt ztp zcd zen zso znz (r_ch zgs 2 g29) Y) [0, 78, 81, 82, 83, 84] [(1, 77), (79, 2), (85, 4)] 89 rfl (by decide +kernel) rfl rfl ?_
      exact kk0 r g29 he9
    ·
      refine x_callB C9 (As := [.int s, .int i, .int t, .int j, .int n]) (st := st9) (c_X7_copy l D9 cI cM cW cS (zad 0) (zad 13) (zad 25) (zad 37) (zad 49) (zad 51) (zad 53) (zad 54) (zad 55) (zad 56) zwr zhi (zad 1) (rr4 (zsh 0) (zsh 1) (zsh 2) (zsh 3)) (zsh 1) (zra 1) (zso 1) (znz 1) (zgs 1) (zsh 3) (zra 3) (zso 3) (znz 3) (zgs 3) s i t j n (fun i hi he => by rw [hs9 i hi he]; rfl) (fun i hi he => by rw [hs8 i hi he]; rfl) (hz9 1 (by decide)) (hz9 3 (by decide))) [0, 78, 81, 82, 85, 86] [(1, 77), (79, 2), (83, 2), (87, 2)] 89 rfl (by decide +kernel) rfl rZ0_ok (fun _ _ _ _ => trivial) kg7_copy ⟨rfl, kh7_copy⟩ ⟨Nat.le_of_ble_eq_true rfl, Nat.le_of_ble_eq_true rfl⟩ ⟨hk.1, hk.2⟩ hd rfl (T9 := TX7) (N := 12) rfl rfl hcat ?_
      intro v9 w9 hp9
      obtain ⟨r, g29, rfl, rfl, he9⟩ := hp9
      show X K9 N9 _ lv9 (pc9 + 3) (.int r :: st9)
      refine x_back C9 (wsN := CWo cI cM cW cS zad zq zqc zqs zqe zsh zra id zwr ztn zlw zrz zpn zpw zhi zrg zpg zhp zph zR0 zR1 zR2 zR3 zkf zmf zlf zcf zsf ztf zP0 zP1 zP2 zP3 zpk zpm zpv zpc zps zpt ztp zcd zen zso znz (r_ch zgs 3 g29) Y) [0, 78, 81, 82, 85, 86] [(1, 77), (79, 2), (83, 2), (87, 2)] 89 rfl (by decide +kernel) rfl rfl ?_
      exact kk0 r g29 he9
  ·
    rcases (show j8 = 0 ∨ j8 = 1 ∨ j8 = 2 ∨ j8 = 3 by omega) with rfl | rfl | rfl | rfl
    ·
      refine x_callB C9 (As := [.int s, .int i, .int t, .int j, .int n]) (st := st9) (c_X7_copy l D9 cI cM cW cS (zad 0) (zad 13) (zad 25) (zad 37) (zad 49) (zad 51) (zad 53) (zad 54) (zad 55) (zad 56) zwr zhi (zad 1) (rr4 (zsh 0) (zsh 1) (zsh 2) (zsh 3)) (zsh 2) (zra 2) (zso 2) (znz 2) (zgs 2) (zsh 0) (zra 0) (zso 0) (znz 0) (zgs 0) s i t j n (fun i hi he => by rw [hs9 i hi he]; rfl) (fun i hi he => by rw [hs8 i hi he]; rfl) (hz9 2 (by decide)) (hz9 0 (by decide))) [0, 78, 83, 84, 79, 80] [(1, 77), (81, 2), (85, 4)] 89 rfl (by decide +kernel) rfl rZ0_ok (fun _ _ _ _ => trivial) kg7_copy ⟨rfl, kh7_copy⟩ ⟨Nat.le_of_ble_eq_true rfl, Nat.le_of_ble_eq_true rfl⟩ ⟨hk.1, hk.2⟩ hd rfl (T9 := TX7) (N := 12) rfl rfl hcat ?_
      intro v9 w9 hp9
      obtain ⟨r, g29, rfl, rfl, he9⟩ := hp9
      show X K9 N9 _ lv9 (pc9 + 3) (.int r :: st9)
      refine x_back C9 (wsN := CWo cI cM cW cS zad zq zqc zqs zqe zsh zra id zwr ztn zlw zrz zpn zpw zhi zrg zpg zhp zph zR0 zR1 zR2 zR3 zkf zmf zlf zcf zsf ztf zP0 zP1 zP2 zP3 zpk zpm zpv zpc zps zpt ztp zcd zen zso znz (r_ch zgs 0 g29) Y) [0, 78, 83, 84, 79, 80] [(1, 77), (81, 2), (85, 4)] 89 rfl (by decide +kernel) rfl rfl ?_
      exact kk0 r g29 he9
    ·
      refine x_callB C9 (As := [.int s, .int i, .int t, .int j, .int n]) (st := st9) (c_X7_copy l D9 cI cM cW cS (zad 0) (zad 13) (zad 25) (zad 37) (zad 49) (zad 51) (zad 53) (zad 54) (zad 55) (zad 56) zwr zhi (zad 1) (rr4 (zsh 0) (zsh 1) (zsh 2) (zsh 3)) (zsh 2) (zra 2) (zso 2) (znz 2) (zgs 2) (zsh 1) (zra 1) (zso 1) (znz 1) (zgs 1) s i t j n (fun i hi he => by rw [hs9 i hi he]; rfl) (fun i hi he => by rw [hs8 i hi he]; rfl) (hz9 2 (by decide)) (hz9 1 (by decide))) [0, 78, 83, 84, 81, 82] [(1, 77), (79, 2), (85, 4)] 89 rfl (by decide +kernel) rfl rZ0_ok (fun _ _ _ _ => trivial) kg7_copy ⟨rfl, kh7_copy⟩ ⟨Nat.le_of_ble_eq_true rfl, Nat.le_of_ble_eq_true rfl⟩ ⟨hk.1, hk.2⟩ hd rfl (T9 := TX7) (N := 12) rfl rfl hcat ?_
      intro v9 w9 hp9
      obtain ⟨r, g29, rfl, rfl, he9⟩ := hp9
      show X K9 N9 _ lv9 (pc9 + 3) (.int r :: st9)
      refine x_back C9 (wsN := CWo cI cM cW cS zad zq zqc zqs zqe zsh zra id zwr ztn zlw zrz zpn zpw zhi zrg zpg zhp zph zR0 zR1 zR2 zR3 zkf zmf zlf zcf zsf ztf zP0 zP1 zP2 zP3 zpk zpm zpv zpc zps zpt ztp zcd zen zso znz (r_ch zgs 1 g29) Y) [0, 78, 83, 84, 81, 82] [(1, 77), (79, 2), (85, 4)] 89 rfl (by decide +kernel) rfl rfl ?_
      exact kk0 r g29 he9
    ·
      exact absurd rfl hne
    ·
      refine x_callB C9 (As := [.int s, .int i, .int t, .int j, .int n]) (st := st9) (c_X7_copy l D9 cI cM cW cS (zad 0) (zad 13) (zad 25) (zad 37) (zad 49) (zad 51) (zad 53) (zad 54) (zad 55) (zad 56) zwr zhi (zad 1) (rr4 (zsh 0) (zsh 1) (zsh 2) (zsh 3)) (zsh 2) (zra 2) (zso 2) (znz 2) (zgs 2) (zsh 3) (zra 3) (zso 3) (znz 3) (zgs 3) s i t j n (fun i hi he => by rw [hs9 i hi he]; rfl) (fun i hi he => by rw [hs8 i hi he]; rfl) (hz9 2 (by decide)) (hz9 3 (by decide))) [0, 78, 83, 84, 85, 86] [(1, 77), (79, 4), (87, 2)] 89 rfl (by decide +kernel) rfl rZ0_ok (fun _ _ _ _ => trivial) kg7_copy ⟨rfl, kh7_copy⟩ ⟨Nat.le_of_ble_eq_true rfl, Nat.le_of_ble_eq_true rfl⟩ ⟨hk.1, hk.2⟩ hd rfl (T9 := TX7) (N := 12) rfl rfl hcat ?_
      intro v9 w9 hp9
      obtain ⟨r, g29, rfl, rfl, he9⟩ := hp9
      show X K9 N9 _ lv9 (pc9 + 3) (.int r :: st9)
      refine x_back C9 (wsN := CWo cI cM cW cS zad zq zqc zqs zqe zsh zra id zwr ztn zlw zrz zpn zpw zhi zrg zpg zhp zph zR0 zR1 zR2 zR3 zkf zmf zlf zcf zsf ztf zP0 zP1 zP2 zP3 zpk zpm zpv zpc zps zpt ztp zcd zen zso znz (r_ch zgs 3 g29) Y) [0, 78, 83, 84, 85, 86] [(1, 77), (79, 4), (87, 2)] 89 rfl (by decide +kernel) rfl rfl ?_
      exact kk0 r g29 he9
  ·
    rcases (show j8 = 0 ∨ j8 = 1 ∨ j8 = 2 ∨ j8 = 3 by omega) with rfl | rfl | rfl | rfl
    ·
      refine x_callB C9 (As := [.int s, .int i, .int t, .int j, .int n]) (st := st9) (c_X7_copy l D9 cI cM cW cS (zad 0) (zad 13) (zad 25) (zad 37) (zad 49) (zad 51) (zad 53) (zad 54) (zad 55) (zad 56) zwr zhi (zad 1) (rr4 (zsh 0) (zsh 1) (zsh 2) (zsh 3)) (zsh 3) (zra 3) (zso 3) (znz 3) (zgs 3) (zsh 0) (zra 0) (zso 0) (znz 0) (zgs 0) s i t j n (fun i hi he => by rw [hs9 i hi he]; rfl) (fun i hi he => by rw [hs8 i hi he]; rfl) (hz9 3 (by decide)) (hz9 0 (by decide))) [0, 78, 85, 86, 79, 80] [(1, 77), (81, 4), (87, 2)] 89 rfl (by decide +kernel) rfl rZ0_ok (fun _ _ _ _ => trivial) kg7_copy ⟨rfl, kh7_copy⟩ ⟨Nat.le_of_ble_eq_true rfl, Nat.le_of_ble_eq_true rfl⟩ ⟨hk.1, hk.2⟩ hd rfl (T9 := TX7) (N := 12) rfl rfl hcat ?_
      intro v9 w9 hp9
      obtain ⟨r, g29, rfl, rfl, he9⟩ := hp9
      show X K9 N9 _ lv9 (pc9 + 3) (.int r :: st9)
      refine x_back C9 (wsN := CWo cI cM cW cS zad zq zqc zqs zqe zsh zra id zwr ztn zlw zrz zpn zpw zhi zrg zpg zhp zph zR0 zR1 zR2 zR3 zkf zmf zlf zcf zsf ztf zP0 zP1 zP2 zP3 zpk zpm zpv zpc zps zpt ztp zcd zen zso znz (r_ch zgs 0 g29) Y) [0, 78, 85, 86, 79, 80] [(1, 77), (81, 4), (87, 2)] 89 rfl (by decide +kernel) rfl rfl ?_
      exact kk0 r g29 he9
    ·
      refine x_callB C9 (As := [.int s, .int i, .int t, .int j, .int n]) (st := st9) (c_X7_copy l D9 cI cM cW cS (zad 0) (zad 13) (zad 25) (zad 37) (zad 49) (zad 51) (zad 53) (zad 54) (zad 55) (zad 56) zwr zhi (zad 1) (rr4 (zsh 0) (zsh 1) (zsh 2) (zsh 3)) (zsh 3) (zra 3) (zso 3) (znz 3) (zgs 3) (zsh 1) (zra 1) (zso 1) (znz 1) (zgs 1) s i t j n (fun i hi he => by rw [hs9 i hi he]; rfl) (fun i hi he => by rw [hs8 i hi he]; rfl) (hz9 3 (by decide)) (hz9 1 (by decide))) [0, 78, 85, 86, 81, 82] [(1, 77), (79, 2), (83, 2), (87, 2)] 89 rfl (by decide +kernel) rfl rZ0_ok (fun _ _ _ _ => trivial) kg7_copy ⟨rfl, kh7_copy⟩ ⟨Nat.le_of_ble_eq_true rfl, Nat.le_of_ble_eq_true rfl⟩ ⟨hk.1, hk.2⟩ hd rfl (T9 := TX7) (N := 12) rfl rfl hcat ?_
      intro v9 w9 hp9
      obtain ⟨r, g29, rfl, rfl, he9⟩ := hp9
      show X K9 N9 _ lv9 (pc9 + 3) (.int r :: st9)
      refine x_back C9 (wsN := CWo cI cM cW cS zad zq zqc zqs zqe zsh zra id zwr ztn zlw zrz zpn zpw zhi zrg zpg zhp zph zR0 zR1 zR2 zR3 zkf zmf zlf zcf zsf ztf zP0 zP1 zP2 zP3 zpk zpm zpv zpc zps zpt ztp zcd zen zso znz (r_ch zgs 1 g29) Y) [0, 78, 85, 86, 81, 82] [(1, 77), (79, 2), (83, 2), (87, 2)] 89 rfl (by decide +kernel) rfl rfl ?_
      exact kk0 r g29 he9
    ·
      refine x_callB C9 (As := [.int s, .int i, .int t, .int j, .int n]) (st := st9) (c_X7_copy l D9 cI cM cW cS (zad 0) (zad 13) (zad 25) (zad 37) (zad 49) (zad 51) (zad 53) (zad 54) (zad 55) (zad 56) zwr zhi (zad 1) (rr4 (zsh 0) (zsh 1) (zsh 2) (zsh 3)) (zsh 3) (zra 3) (zso 3) (znz 3) (zgs 3) (zsh 2) (zra 2) (zso 2) (znz 2) (zgs 2) s i t j n (fun i hi he => by rw [hs9 i hi he]; rfl) (fun i hi he => by rw [hs8 i hi he]; rfl) (hz9 3 (by decide)) (hz9 2 (by decide))) [0, 78, 85, 86, 83, 84] [(1, 77), (79, 4), (87, 2)] 89 rfl (by decide +kernel) rfl rZ0_ok (fun _ _ _ _ => trivial) kg7_copy ⟨rfl, kh7_copy⟩ ⟨Nat.le_of_ble_eq_true rfl, Nat.le_of_ble_eq_true rfl⟩ ⟨hk.1, hk.2⟩ hd rfl (T9 := TX7) (N := 12) rfl rfl hcat ?_
      intro v9 w9 hp9
      obtain ⟨r, g29, rfl, rfl, he9⟩ := hp9
      show X K9 N9 _ lv9 (pc9 + 3) (.int r :: st9)
      refine x_back C9 (wsN := CWo cI cM cW cS zad zq zqc zqs zqe zsh zra id zwr ztn zlw zrz zpn zpw zhi zrg zpg zhp zph zR0 zR1 zR2 zR3 zkf zmf zlf zcf zsf ztf zP0 zP1 zP2 zP3 zpk zpm zpv zpc zps zpt ztp zcd zen zso znz (r_ch zgs 2 g29) Y) [0, 78, 85, 86, 83, 84] [(1, 77), (79, 4), (87, 2)] 89 rfl (by decide +kernel) rfl rfl ?_
      exact kk0 r g29 he9
    ·
      exact absurd rfl hne
theorem kg7_copy_s : GoodIn GW (wsV RL 185 yX7_copy.cls yX7_copy (Cond.code yX7_copy cX7_copy 8 (some .int) :: GW)) := r_gV gw_42_18 gw_42_19 gw_42_20 gw_1_2 gw_42_21
theorem kh7_copy_s : yX7_copy.cls ≠ "java/lang/invoke/MethodHandle" ∧ yX7_copy.cls ≠ "java/lang/invoke/VarHandle" ∧ (parseMethodDescriptor yX7_copy.desc).map (fun d => d.parameters.length) = some 5 := ⟨by decide +kernel, by decide +kernel, by decide +kernel⟩
set_option maxHeartbeats 4000000 in
set_option maxRecDepth 100000 in
theorem k7_copy_s (C9 : rC X l cL_law 4 RL room_1 D9 (tY cI cM cW cS) (zLw adK adV fm b9 L9 xs9) false) (s : Int32) (i : Int32) (t : Int32) (j : Int32) (n : Int32) (j9 : Nat) (hj9 : j9 < 4) (hs9 : ∀ i, i < 4 → s = nI i → i = j9) (hz9 : ∀ i, i < 4 → znz i ≤ 40) (hs8 : ∀ i, i < 4 → t = nI i → i = j9) (hd : decode cL_law pc9 = .ok (.invokevirtual 185, 3)) (hk : K9 ≤ 600000 ∧ N9 ≤ 7302250) (hcat : (st9.map fun v => v.category).sum ≤ 8) (kk0 : ∀ (r : Int32) (g' : Nat → Int32), ((r, g') = (o_copy (zso j9) (znz j9) (zso j9) (znz j9) s i t j n, o_copy_g (zgs j9) (zgs j9) (zso j9) (znz j9) (zso j9) (znz j9) s i t j n)) → X K9 N9 (CWo cI cM cW cS zad zq zqc zqs zqe zsh zra id zwr ztn zlw zrz zpn zpw zhi zrg zpg zhp zph zR0 zR1 zR2 zR3 zkf zmf zlf zcf zsf ztf zP0 zP1 zP2 zP3 zpk zpm zpv zpc zps zpt ztp zcd zen zso znz (r_ch zgs j9 g') Y ++ T9) lv9 (pc9 + 3) (.int r :: st9)) : X K9 N9 (CWo cI cM cW cS zad zq zqc zqs zqe zsh zra id zwr ztn zlw zrz zpn zpw zhi zrg zpg zhp zph zR0 zR1 zR2 zR3 zkf zmf zlf zcf zsf ztf zP0 zP1 zP2 zP3 zpk zpm zpv zpc zps zpt ztp zcd zen zso znz zgs Y ++ T9) lv9 pc9 (.int n :: .int j :: .int t :: .int i :: .int s :: .ref (zad 0) :: st9) := by
  rcases (show j9 = 0 ∨ j9 = 1 ∨ j9 = 2 ∨ j9 = 3 by omega) with rfl | rfl | rfl | rfl
  ·
    refine x_callB C9 (As := [.int s, .int i, .int t, .int j, .int n]) (st := st9) (c_X7_copy_s l D9 cI cM cW cS (zad 0) (zad 13) (zad 25) (zad 37) (zad 49) (zad 51) (zad 53) (zad 54) (zad 55) (zad 56) zwr zhi (zad 1) (rr4 (zsh 0) (zsh 1) (zsh 2) (zsh 3)) (zsh 0) (zra 0) (zso 0) (znz 0) (zgs 0) s i t j n (fun i hi he => by rw [hs9 i hi he]; rfl) (fun i hi he => by rw [hs8 i hi he]; rfl) (hz9 0 (by decide))) [0, 78, 79, 80] [(1, 77), (81, 8)] 89 rfl (by decide +kernel) rfl rZ0_ok (fun _ _ _ _ => trivial) kg7_copy_s ⟨rfl, kh7_copy_s⟩ ⟨Nat.le_of_ble_eq_true rfl, Nat.le_of_ble_eq_true rfl⟩ ⟨hk.1, hk.2⟩ hd rfl (T9 := TX7) (N := 12) rfl rfl hcat ?_
    intro v9 w9 hp9
    obtain ⟨r, g9, rfl, rfl, he9⟩ := hp9
    show X K9 N9 _ lv9 (pc9 + 3) (.int r :: st9)
    refine x_back C9 (wsN := CWo cI cM cW cS zad zq zqc zqs zqe zsh zra id zwr ztn zlw zrz zpn zpw zhi zrg zpg zhp zph zR0 zR1 zR2 zR3 zkf zmf zlf zcf zsf ztf zP0 zP1 zP2 zP3 zpk zpm zpv zpc zps zpt ztp zcd zen zso znz (r_ch zgs 0 g9) Y) [0, 78, 79, 80] [(1, 77), (81, 8)] 89 rfl (by decide +kernel) rfl rfl ?_
    exact kk0 r g9 he9
  ·
    refine x_callB C9 (As := [.int s, .int i, .int t, .int j, .int n]) (st := st9) (c_X7_copy_s l D9 cI cM cW cS (zad 0) (zad 13) (zad 25) (zad 37) (zad 49) (zad 51) (zad 53) (zad 54) (zad 55) (zad 56) zwr zhi (zad 1) (rr4 (zsh 0) (zsh 1) (zsh 2) (zsh 3)) (zsh 1) (zra 1) (zso 1) (znz 1) (zgs 1) s i t j n (fun i hi he => by rw [hs9 i hi he]; rfl) (fun i hi he => by rw [hs8 i hi he]; rfl) (hz9 1 (by decide))) [0, 78, 81, 82] [(1, 77), (79, 2), (83, 6)] 89 rfl (by decide +kernel) rfl rZ0_ok (fun _ _ _ _ => trivial) kg7_copy_s ⟨rfl, kh7_copy_s⟩ ⟨Nat.le_of_ble_eq_true rfl, Nat.le_of_ble_eq_true rfl⟩ ⟨hk.1, hk.2⟩ hd rfl (T9 := TX7) (N := 12) rfl rfl hcat ?_
    intro v9 w9 hp9
    obtain ⟨r, g9, rfl, rfl, he9⟩ := hp9
    show X K9 N9 _ lv9 (pc9 + 3) (.int r :: st9)
    refine x_back C9 (wsN := CWo cI cM cW cS zad zq zqc zqs zqe zsh zra id zwr ztn zlw zrz zpn zpw zhi zrg zpg zhp zph zR0 zR1 zR2 zR3 zkf zmf zlf zcf zsf ztf zP0 zP1 zP2 zP3 zpk zpm zpv zpc zps zpt ztp zcd zen zso znz (r_ch zgs 1 g9) Y) [0, 78, 81, 82] [(1, 77), (79, 2), (83, 6)] 89 rfl (by decide +kernel) rfl rfl ?_
    exact kk0 r g9 he9
  ·
    refine x_callB C9 (As := [.int s, .int i, .int t, .int j, .int n]) (st := st9) (c_X7_copy_s l D9 cI cM cW cS (zad 0) (zad 13) (zad 25) (zad 37) (zad 49) (zad 51) (zad 53) (zad 54) (zad 55) (zad 56) zwr zhi (zad 1) (rr4 (zsh 0) (zsh 1) (zsh 2) (zsh 3)) (zsh 2) (zra 2) (zso 2) (znz 2) (zgs 2) s i t j n (fun i hi he => by rw [hs9 i hi he]; rfl) (fun i hi he => by rw [hs8 i hi he]; rfl) (hz9 2 (by decide))) [0, 78, 83, 84] [(1, 77), (79, 4), (85, 4)] 89 rfl (by decide +kernel) rfl rZ0_ok (fun _ _ _ _ => trivial) kg7_copy_s ⟨rfl, kh7_copy_s⟩ ⟨Nat.le_of_ble_eq_true rfl, Nat.le_of_ble_eq_true rfl⟩ ⟨hk.1, hk.2⟩ hd rfl (T9 := TX7) (N := 12) rfl rfl hcat ?_
    intro v9 w9 hp9
    obtain ⟨r, g9, rfl, rfl, he9⟩ := hp9
    show X K9 N9 _ lv9 (pc9 + 3) (.int r :: st9)
    refine x_back C9 (wsN := CWo cI cM cW cS zad zq zqc zqs zqe zsh zra id zwr ztn zlw zrz zpn zpw zhi zrg zpg zhp zph zR0 zR1 zR2 zR3 zkf zmf zlf zcf zsf ztf zP0 zP1 zP2 zP3 zpk zpm zpv zpc zps zpt ztp zcd zen zso znz (r_ch zgs 2 g9) Y) [0, 78, 83, 84] [(1, 77), (79, 4), (85, 4)] 89 rfl (by decide +kernel) rfl rfl ?_
    exact kk0 r g9 he9
  ·
    refine x_callB C9 (As := [.int s, .int i, .int t, .int j, .int n]) (st := st9) (c_X7_copy_s l D9 cI cM cW cS (zad 0) (zad 13) (zad 25) (zad 37) (zad 49) (zad 51) (zad 53) (zad 54) (zad 55) (zad 56) zwr zhi (zad 1) (rr4 (zsh 0) (zsh 1) (zsh 2) (zsh 3)) (zsh 3) (zra 3) (zso 3) (znz 3) (zgs 3) s i t j n (fun i hi he => by rw [hs9 i hi he]; rfl) (fun i hi he => by rw [hs8 i hi he]; rfl) (hz9 3 (by decide))) [0, 78, 85, 86] [(1, 77), (79, 6), (87, 2)] 89 rfl (by decide +kernel) rfl rZ0_ok (fun _ _ _ _ => trivial) kg7_copy_s ⟨rfl, kh7_copy_s⟩ ⟨Nat.le_of_ble_eq_true rfl, Nat.le_of_ble_eq_true rfl⟩ ⟨hk.1, hk.2⟩ hd rfl (T9 := TX7) (N := 12) rfl rfl hcat ?_
    intro v9 w9 hp9
    obtain ⟨r, g9, rfl, rfl, he9⟩ := hp9
    show X K9 N9 _ lv9 (pc9 + 3) (.int r :: st9)
    refine x_back C9 (wsN := CWo cI cM cW cS zad zq zqc zqs zqe zsh zra id zwr ztn zlw zrz zpn zpw zhi zrg zpg zhp zph zR0 zR1 zR2 zR3 zkf zmf zlf zcf zsf ztf zP0 zP1 zP2 zP3 zpk zpm zpv zpc zps zpt ztp zcd zen zso znz (r_ch zgs 3 g9) Y) [0, 78, 85, 86] [(1, 77), (79, 6), (87, 2)] 89 rfl (by decide +kernel) rfl rfl ?_
    exact kk0 r g9 he9
end KK
