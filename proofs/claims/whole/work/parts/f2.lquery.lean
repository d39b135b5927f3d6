section LC
variable {X : rT} {l : Launch} {D9 : va_G} {cI cM cW cS : ClassId} {adK adV : Nat → Nat} {fm : Option Nat} {b9 L9 i9 K9 N9 : Nat} {xs9 : Nat → Int32} {zad zq zqc zqs zqe zsh zra zem : Nat → Nat} {zwr ztn zlw zrz zpn zpw : Nat} {zhi zrg zpg : Int32} {zhp zph : Int64} {zR0 zR1 zR2 zR3 zkf zmf zlf zcf zsf ztf zP0 zP1 zP2 zP3 zpk zpm zpv zpc zps zpt ztp : sF} {zcd zen : Nat → sF} {zso : Nat → Int32} {znz : Nat → Nat} {zgs : Nat → sF} {zin ziw : Nat} {zig : Int32} {zih : Int64} {zsk zmc zms zmt zco zbg zos zoc zss zsz zit : sF} {TT : Nat → sT} {Y : sY} {V : sV}
set_option maxHeartbeats 4000000 in
set_option maxRecDepth 100000 in
theorem L_asks (C9 : rC X l cL_law 4 RL room_1 D9 (tY cI cM cW cS) (zLw adK adV fm b9 L9 xs9) false) (hL : L9 < 2 ^ 31) (hi : i9 + 6 < L9) (hk : K9 ≤ 600000 ∧ N9 ≤ 7302250) (h : INV zwr ztn zlw zrz zpn zpw zhi zrg zpg zhp zph zR0 zR1 zR2 zR3 zkf zmf zlf zcf zsf ztf zP0 zP1 zP2 zP3 zpk zpm zpv zpc zps zpt ztp zcd zen zso znz zgs zin ziw zig zih zsk zmc zms zmt zco zbg zos zoc zss zsz zit TT) (kk : LH X K9 N9 b9 i9 cI cM cW cS zad zq zqc zqs zqe zsh zra zem 1764) : X K9 N9 (CWo cI cM cW cS zad zq zqc zqs zqe zsh zra id zwr ztn zlw zrz zpn zpw zhi zrg zpg zhp zph zR0 zR1 zR2 zR3 zkf zmf zlf zcf zsf ztf zP0 zP1 zP2 zP3 zpk zpm zpv zpc zps zpt ztp zcd zen zso znz zgs Y ++ MW cI zem zwr ztn zlw zrz zin ziw zhi zrg zig zhp zih zsk zkf zmf zlf zmc zms zmt ztp zco zbg zos zoc zss zsz zit V) [(0, .ref b9), (1, .ref (zad 0)), (2, .ref (zem 0)), (3, .int (nI i9))] 430 [] := by
  obtain ⟨wk, tk, mtk, rfl, rfl, rfl, rfl, q1, q2, q3, q4, q5, q6⟩ := INV_q h
  obtain ⟨⟨l1, l2, l3, l4, l5, l6, l7, l8, l9⟩, h2, h3, h4, h5, h6, h7, h8⟩ := id h
  obtain ⟨t1, t2, t3⟩ := h8 zlw l2.1
  refine x_aload_n C9 dL_law_430 1 rfl ?_
  refine x_arg C9 hL 1 (by omega) (by decide) dL_law_431 dL_law_432 dL_law_433 dL_law_434 dL_law_435 ?_
  refine x_arg C9 hL 2 (by omega) (by decide) dL_law_436 dL_law_437 dL_law_438 dL_law_439 dL_law_440 ?_
  refine x_arg C9 hL 3 (by omega) (by decide) dL_law_441 dL_law_442 dL_law_443 dL_law_444 dL_law_445 ?_
  refine x_arg C9 hL 4 (by omega) (by decide) dL_law_446 dL_law_447 dL_law_448 dL_law_449 dL_law_450 ?_
  refine x_arg C9 hL 5 (by omega) (by decide) dL_law_451 dL_law_452 dL_law_453 dL_law_454 dL_law_455 ?_
  refine k7_asks C9 (xs9 (i9 + 1)) (xs9 (i9 + 2)) (xs9 (i9 + 3)) (xs9 (i9 + 4)) (xs9 (i9 + 5)) t1 t2 (by omega) dL_law_456 hk (Nat.le_of_ble_eq_true rfl) (fun Y' r e7 => ?_)
  refine x_swap C9 ?_
  refine x_aload_n C9 dL_law_459 2 rfl ?_
  refine x_arg C9 hL 1 (by omega) (by decide) dL_law_460 dL_law_461 dL_law_462 dL_law_463 dL_law_464 ?_
  refine x_arg C9 hL 2 (by omega) (by decide) dL_law_465 dL_law_466 dL_law_467 dL_law_468 dL_law_469 ?_
  refine x_arg C9 hL 3 (by omega) (by decide) dL_law_470 dL_law_471 dL_law_472 dL_law_473 dL_law_474 ?_
  refine x_arg C9 hL 4 (by omega) (by decide) dL_law_475 dL_law_476 dL_law_477 dL_law_478 dL_law_479 ?_
  refine x_arg C9 hL 5 (by omega) (by decide) dL_law_480 dL_law_481 dL_law_482 dL_law_483 dL_law_484 ?_
  refine k8_asks C9 (xs9 (i9 + 1)) (xs9 (i9 + 2)) (xs9 (i9 + 3)) (xs9 (i9 + 4)) (xs9 (i9 + 5)) (by omega) t1 t3 dL_law_485 hk (Nat.le_of_ble_eq_true rfl) (fun V' r8 e8 => ?_)
  refine x_swap C9 ?_
  refine x_icmp_eq C9 dL_law_488 (tgt := 1764) rfl (fun _ => ?_) (fun q9 => absurd (e7.trans e8.symm) q9)
  exact kk (h)
set_option maxHeartbeats 4000000 in
set_option maxRecDepth 100000 in
theorem L_lie (C9 : rC X l cL_law 4 RL room_1 D9 (tY cI cM cW cS) (zLw adK adV fm b9 L9 xs9) false) (hL : L9 < 2 ^ 31) (hi : i9 + 6 < L9) (hk : K9 ≤ 600000 ∧ N9 ≤ 7302250) (h : INV zwr ztn zlw zrz zpn zpw zhi zrg zpg zhp zph zR0 zR1 zR2 zR3 zkf zmf zlf zcf zsf ztf zP0 zP1 zP2 zP3 zpk zpm zpv zpc zps zpt ztp zcd zen zso znz zgs zin ziw zig zih zsk zmc zms zmt zco zbg zos zoc zss zsz zit TT) (kk : LH X K9 N9 b9 i9 cI cM cW cS zad zq zqc zqs zqe zsh zra zem 1764) : X K9 N9 (CWo cI cM cW cS zad zq zqc zqs zqe zsh zra id zwr ztn zlw zrz zpn zpw zhi zrg zpg zhp zph zR0 zR1 zR2 zR3 zkf zmf zlf zcf zsf ztf zP0 zP1 zP2 zP3 zpk zpm zpv zpc zps zpt ztp zcd zen zso znz zgs Y ++ MW cI zem zwr ztn zlw zrz zin ziw zhi zrg zig zhp zih zsk zkf zmf zlf zmc zms zmt ztp zco zbg zos zoc zss zsz zit V) [(0, .ref b9), (1, .ref (zad 0)), (2, .ref (zem 0)), (3, .int (nI i9))] 821 [] := by
  obtain ⟨wk, tk, mtk, rfl, rfl, rfl, rfl, q1, q2, q3, q4, q5, q6⟩ := INV_q h
  obtain ⟨⟨l1, l2, l3, l4, l5, l6, l7, l8, l9⟩, h2, h3, h4, h5, h6, h7, h8⟩ := id h
  obtain ⟨t1, t2, t3⟩ := h8 zlw l2.1
  refine x_aload_n C9 dL_law_821 1 rfl ?_
  refine x_arg C9 hL 1 (by omega) (by decide) dL_law_822 dL_law_823 dL_law_824 dL_law_825 dL_law_826 ?_
  refine x_arg C9 hL 2 (by omega) (by decide) dL_law_827 dL_law_828 dL_law_829 dL_law_830 dL_law_831 ?_
  refine x_arg C9 hL 3 (by omega) (by decide) dL_law_832 dL_law_833 dL_law_834 dL_law_835 dL_law_836 ?_
  refine k7_lie C9 (xs9 (i9 + 1)) (xs9 (i9 + 2)) (xs9 (i9 + 3)) l1 q1 q3 (fun j hj => (l5 j hj).1) l9.1 (s_good_hz (q4 (TT zlw))).1 t1 t2 (by omega) dL_law_837 hk (Nat.le_of_ble_eq_true rfl) (fun Y' r e7 => ?_)
  refine x_swap C9 ?_
  refine x_aload_n C9 dL_law_840 2 rfl ?_
  refine x_arg C9 hL 1 (by omega) (by decide) dL_law_841 dL_law_842 dL_law_843 dL_law_844 dL_law_845 ?_
  refine x_arg C9 hL 2 (by omega) (by decide) dL_law_846 dL_law_847 dL_law_848 dL_law_849 dL_law_850 ?_
  refine x_arg C9 hL 3 (by omega) (by decide) dL_law_851 dL_law_852 dL_law_853 dL_law_854 dL_law_855 ?_
  refine k8_lie C9 (xs9 (i9 + 1)) (xs9 (i9 + 2)) (xs9 (i9 + 3)) (by omega) t1 t3 l1 q2 q3 (fun j hj => (l5 j hj).1) l9.2 (q5 (TT zlw)) dL_law_856 hk (Nat.le_of_ble_eq_true rfl) (fun V' r8 e8 => ?_)
  refine x_swap C9 ?_
  refine x_icmp_eq C9 dL_law_859 (tgt := 1764) rfl (fun _ => ?_) (fun q9 => absurd (e7.trans ((g_lie (q6 (TT zlw)) (xs9 (i9 + 1)) (xs9 (i9 + 2)) (xs9 (i9 + 3))).trans e8.symm)) q9)
  exact kk (h)
set_option maxHeartbeats 4000000 in
set_option maxRecDepth 100000 in
theorem L_sum (C9 : rC X l cL_law 4 RL room_1 D9 (tY cI cM cW cS) (zLw adK adV fm b9 L9 xs9) false) (hL : L9 < 2 ^ 31) (hi : i9 + 6 < L9) (hk : K9 ≤ 600000 ∧ N9 ≤ 7302250) (h : INV zwr ztn zlw zrz zpn zpw zhi zrg zpg zhp zph zR0 zR1 zR2 zR3 zkf zmf zlf zcf zsf ztf zP0 zP1 zP2 zP3 zpk zpm zpv zpc zps zpt ztp zcd zen zso znz zgs zin ziw zig zih zsk zmc zms zmt zco zbg zos zoc zss zsz zit TT) (kk : LH X K9 N9 b9 i9 cI cM cW cS zad zq zqc zqs zqe zsh zra zem 1764) : X K9 N9 (CWo cI cM cW cS zad zq zqc zqs zqe zsh zra id zwr ztn zlw zrz zpn zpw zhi zrg zpg zhp zph zR0 zR1 zR2 zR3 zkf zmf zlf zcf zsf ztf zP0 zP1 zP2 zP3 zpk zpm zpv zpc zps zpt ztp zcd zen zso znz zgs Y ++ MW cI zem zwr ztn zlw zrz zin ziw zhi zrg zig zhp zih zsk zkf zmf zlf zmc zms zmt ztp zco zbg zos zoc zss zsz zit V) [(0, .ref b9), (1, .ref (zad 0)), (2, .ref (zem 0)), (3, .int (nI i9))] 864 [] := by
  obtain ⟨wk, tk, mtk, rfl, rfl, rfl, rfl, q1, q2, q3, q4, q5, q6⟩ := INV_q h
  obtain ⟨⟨l1, l2, l3, l4, l5, l6, l7, l8, l9⟩, h2, h3, h4, h5, h6, h7, h8⟩ := id h
  obtain ⟨t1, t2, t3⟩ := h8 zlw l2.1
  refine x_aload_n C9 dL_law_864 1 rfl ?_
  refine x_arg C9 hL 1 (by omega) (by decide) dL_law_865 dL_law_866 dL_law_867 dL_law_868 dL_law_869 ?_
  refine x_arg C9 hL 2 (by omega) (by decide) dL_law_870 dL_law_871 dL_law_872 dL_law_873 dL_law_874 ?_
  refine k7_sum C9 (xs9 (i9 + 1)) (xs9 (i9 + 2)) l1 q1 q3 (fun j hj => (l5 j hj).1) l9.1 (s_good_hz (q4 (TT zlw))).1 t1 t2 (by omega) dL_law_875 hk (Nat.le_of_ble_eq_true rfl) (fun Y' r e7 => ?_)
  refine x_swap C9 ?_
  refine x_aload_n C9 dL_law_878 2 rfl ?_
  refine x_arg C9 hL 1 (by omega) (by decide) dL_law_879 dL_law_880 dL_law_881 dL_law_882 dL_law_883 ?_
  refine x_arg C9 hL 2 (by omega) (by decide) dL_law_884 dL_law_885 dL_law_886 dL_law_887 dL_law_888 ?_
  refine k8_sum_ C9 (xs9 (i9 + 1)) (xs9 (i9 + 2)) (by omega) t1 t3 l1 q2 q3 (fun j hj => (l5 j hj).1) l9.2 (q5 (TT zlw)) dL_law_889 hk (Nat.le_of_ble_eq_true rfl) (fun V' r8 e8 => ?_)
  refine x_swap C9 ?_
  refine x_icmp_eq C9 dL_law_892 (tgt := 1764) rfl (fun _ => ?_) (fun q9 => absurd (e7.trans ((g_sum (q6 (TT zlw)) (xs9 (i9 + 1)) (xs9 (i9 + 2))).trans e8.symm)) q9)
  exact kk (h)
set_option maxHeartbeats 4000000 in
set_option maxRecDepth 100000 in
theorem L_hang (C9 : rC X l cL_law 4 RL room_1 D9 (tY cI cM cW cS) (zLw adK adV fm b9 L9 xs9) false) (hL : L9 < 2 ^ 31) (hi : i9 + 6 < L9) (hk : K9 ≤ 600000 ∧ N9 ≤ 7302250) (h : INV zwr ztn zlw zrz zpn zpw zhi zrg zpg zhp zph zR0 zR1 zR2 zR3 zkf zmf zlf zcf zsf ztf zP0 zP1 zP2 zP3 zpk zpm zpv zpc zps zpt ztp zcd zen zso znz zgs zin ziw zig zih zsk zmc zms zmt zco zbg zos zoc zss zsz zit TT) (kk : LH X K9 N9 b9 i9 cI cM cW cS zad zq zqc zqs zqe zsh zra zem 1764) : X K9 N9 (CWo cI cM cW cS zad zq zqc zqs zqe zsh zra id zwr ztn zlw zrz zpn zpw zhi zrg zpg zhp zph zR0 zR1 zR2 zR3 zkf zmf zlf zcf zsf ztf zP0 zP1 zP2 zP3 zpk zpm zpv zpc zps zpt ztp zcd zen zso znz zgs Y ++ MW cI zem zwr ztn zlw zrz zin ziw zhi zrg zig zhp zih zsk zkf zmf zlf zmc zms zmt ztp zco zbg zos zoc zss zsz zit V) [(0, .ref b9), (1, .ref (zad 0)), (2, .ref (zem 0)), (3, .int (nI i9))] 897 [] := by
  obtain ⟨wk, tk, mtk, rfl, rfl, rfl, rfl, q1, q2, q3, q4, q5, q6⟩ := INV_q h
  obtain ⟨⟨l1, l2, l3, l4, l5, l6, l7, l8, l9⟩, h2, h3, h4, h5, h6, h7, h8⟩ := id h
  obtain ⟨t1, t2, t3⟩ := h8 zlw l2.1
  refine x_aload_n C9 dL_law_897 1 rfl ?_
  refine x_arg C9 hL 1 (by omega) (by decide) dL_law_898 dL_law_899 dL_law_900 dL_law_901 dL_law_902 ?_
  refine x_arg C9 hL 2 (by omega) (by decide) dL_law_903 dL_law_904 dL_law_905 dL_law_906 dL_law_907 ?_
  refine k7_hang C9 (xs9 (i9 + 1)) (xs9 (i9 + 2)) l1 q1 q3 (fun j hj => (l5 j hj).1) l9.1 (s_good_hz (q4 (TT zlw))).1 t1 t2 (by omega) dL_law_908 hk (Nat.le_of_ble_eq_true rfl) (fun Y' r e7 => ?_)
  refine x_swap C9 ?_
  refine x_aload_n C9 dL_law_911 2 rfl ?_
  refine x_arg C9 hL 1 (by omega) (by decide) dL_law_912 dL_law_913 dL_law_914 dL_law_915 dL_law_916 ?_
  refine x_arg C9 hL 2 (by omega) (by decide) dL_law_917 dL_law_918 dL_law_919 dL_law_920 dL_law_921 ?_
  refine k8_hang C9 (xs9 (i9 + 1)) (xs9 (i9 + 2)) (by omega) t1 t3 l1 q2 q3 (fun j hj => (l5 j hj).1) l9.2 (q5 (TT zlw)) dL_law_922 hk (Nat.le_of_ble_eq_true rfl) (fun V' r8 e8 => ?_)
  refine x_swap C9 ?_
  refine x_icmp_eq C9 dL_law_925 (tgt := 1764) rfl (fun _ => ?_) (fun q9 => absurd (e7.trans ((g_hang (q6 (TT zlw)) (xs9 (i9 + 1)) (xs9 (i9 + 2))).trans e8.symm)) q9)
  exact kk (h)
set_option maxHeartbeats 4000000 in
set_option maxRecDepth 100000 in
theorem L_great (C9 : rC X l cL_law 4 RL room_1 D9 (tY cI cM cW cS) (zLw adK adV fm b9 L9 xs9) false) (hL : L9 < 2 ^ 31) (hi : i9 + 6 < L9) (hk : K9 ≤ 600000 ∧ N9 ≤ 7302250) (h : INV zwr ztn zlw zrz zpn zpw zhi zrg zpg zhp zph zR0 zR1 zR2 zR3 zkf zmf zlf zcf zsf ztf zP0 zP1 zP2 zP3 zpk zpm zpv zpc zps zpt ztp zcd zen zso znz zgs zin ziw zig zih zsk zmc zms zmt zco zbg zos zoc zss zsz zit TT) (kk : LH X K9 N9 b9 i9 cI cM cW cS zad zq zqc zqs zqe zsh zra zem 1764) : X K9 N9 (CWo cI cM cW cS zad zq zqc zqs zqe zsh zra id zwr ztn zlw zrz zpn zpw zhi zrg zpg zhp zph zR0 zR1 zR2 zR3 zkf zmf zlf zcf zsf ztf zP0 zP1 zP2 zP3 zpk zpm zpv zpc zps zpt ztp zcd zen zso znz zgs Y ++ MW cI zem zwr ztn zlw zrz zin ziw zhi zrg zig zhp zih zsk zkf zmf zlf zmc zms zmt ztp zco zbg zos zoc zss zsz zit V) [(0, .ref b9), (1, .ref (zad 0)), (2, .ref (zem 0)), (3, .int (nI i9))] 930 [] := by
  obtain ⟨wk, tk, mtk, rfl, rfl, rfl, rfl, q1, q2, q3, q4, q5, q6⟩ := INV_q h
  obtain ⟨⟨l1, l2, l3, l4, l5, l6, l7, l8, l9⟩, h2, h3, h4, h5, h6, h7, h8⟩ := id h
  obtain ⟨t1, t2, t3⟩ := h8 zlw l2.1
  refine x_aload_n C9 dL_law_930 1 rfl ?_
  refine x_arg C9 hL 1 (by omega) (by decide) dL_law_931 dL_law_932 dL_law_933 dL_law_934 dL_law_935 ?_
  refine k7_great C9 (xs9 (i9 + 1)) l1 q1 q3 (fun j hj => (l5 j hj).1) l9.1 (s_good_hz (q4 (TT zlw))).1 t1 t2 (by omega) dL_law_936 hk (Nat.le_of_ble_eq_true rfl) (fun Y' r e7 => ?_)
  refine x_swap C9 ?_
  refine x_aload_n C9 dL_law_939 2 rfl ?_
  refine x_arg C9 hL 1 (by omega) (by decide) dL_law_940 dL_law_941 dL_law_942 dL_law_943 dL_law_944 ?_
  refine k8_great C9 (xs9 (i9 + 1)) (by omega) t1 t3 l1 q2 q3 (fun j hj => (l5 j hj).1) l9.2 (q5 (TT zlw)) dL_law_945 hk (Nat.le_of_ble_eq_true rfl) (fun V' r8 e8 => ?_)
  refine x_swap C9 ?_
  refine x_icmp_eq C9 dL_law_948 (tgt := 1764) rfl (fun _ => ?_) (fun q9 => absurd (e7.trans ((g_great (q6 (TT zlw)) (xs9 (i9 + 1))).trans e8.symm)) q9)
  exact kk (h)
set_option maxHeartbeats 4000000 in
set_option maxRecDepth 100000 in
theorem L_worst (C9 : rC X l cL_law 4 RL room_1 D9 (tY cI cM cW cS) (zLw adK adV fm b9 L9 xs9) false) (hL : L9 < 2 ^ 31) (hi : i9 + 6 < L9) (hk : K9 ≤ 600000 ∧ N9 ≤ 7302250) (h : INV zwr ztn zlw zrz zpn zpw zhi zrg zpg zhp zph zR0 zR1 zR2 zR3 zkf zmf zlf zcf zsf ztf zP0 zP1 zP2 zP3 zpk zpm zpv zpc zps zpt ztp zcd zen zso znz zgs zin ziw zig zih zsk zmc zms zmt zco zbg zos zoc zss zsz zit TT) (kk : LH X K9 N9 b9 i9 cI cM cW cS zad zq zqc zqs zqe zsh zra zem 1764) : X K9 N9 (CWo cI cM cW cS zad zq zqc zqs zqe zsh zra id zwr ztn zlw zrz zpn zpw zhi zrg zpg zhp zph zR0 zR1 zR2 zR3 zkf zmf zlf zcf zsf ztf zP0 zP1 zP2 zP3 zpk zpm zpv zpc zps zpt ztp zcd zen zso znz zgs Y ++ MW cI zem zwr ztn zlw zrz zin ziw zhi zrg zig zhp zih zsk zkf zmf zlf zmc zms zmt ztp zco zbg zos zoc zss zsz zit V) [(0, .ref b9), (1, .ref (zad 0)), (2, .ref (zem 0)), (3, .int (nI i9))] 953 [] := by
  obtain ⟨wk, tk, mtk, rfl, rfl, rfl, rfl, q1, q2, q3, q4, q5, q6⟩ := INV_q h
  obtain ⟨⟨l1, l2, l3, l4, l5, l6, l7, l8, l9⟩, h2, h3, h4, h5, h6, h7, h8⟩ := id h
  obtain ⟨t1, t2, t3⟩ := h8 zlw l2.1
  refine x_aload_n C9 dL_law_953 1 rfl ?_
  refine x_arg C9 hL 1 (by omega) (by decide) dL_law_954 dL_law_955 dL_law_956 dL_law_957 dL_law_958 ?_
  refine x_arg C9 hL 2 (by omega) (by decide) dL_law_959 dL_law_960 dL_law_961 dL_law_962 dL_law_963 ?_
  refine k7_worst C9 (xs9 (i9 + 1)) (xs9 (i9 + 2)) l1 q1 q3 (fun j hj => (l5 j hj).1) l9.1 (s_good_hz (q4 (TT zlw))).1 t1 t2 (by omega) dL_law_964 hk (Nat.le_of_ble_eq_true rfl) (fun Y' r e7 => ?_)
  refine x_swap C9 ?_
  refine x_aload_n C9 dL_law_967 2 rfl ?_
  refine x_arg C9 hL 1 (by omega) (by decide) dL_law_968 dL_law_969 dL_law_970 dL_law_971 dL_law_972 ?_
  refine x_arg C9 hL 2 (by omega) (by decide) dL_law_973 dL_law_974 dL_law_975 dL_law_976 dL_law_977 ?_
  refine k8_worst C9 (xs9 (i9 + 1)) (xs9 (i9 + 2)) (by omega) t1 t3 l1 q2 q3 (fun j hj => (l5 j hj).1) l9.2 (q5 (TT zlw)) dL_law_978 hk (Nat.le_of_ble_eq_true rfl) (fun V' r8 e8 => ?_)
  refine x_swap C9 ?_
  refine x_icmp_eq C9 dL_law_981 (tgt := 1764) rfl (fun _ => ?_) (fun q9 => absurd (e7.trans ((g_worst (q6 (TT zlw)) (xs9 (i9 + 1)) (xs9 (i9 + 2))).trans e8.symm)) q9)
  exact kk (h)
set_option maxHeartbeats 4000000 in
set_option maxRecDepth 100000 in
theorem L_corner (C9 : rC X l cL_law 4 RL room_1 D9 (tY cI cM cW cS) (zLw adK adV fm b9 L9 xs9) false) (hL : L9 < 2 ^ 31) (hi : i9 + 6 < L9) (hk : K9 ≤ 600000 ∧ N9 ≤ 7302250) (h : INV zwr ztn zlw zrz zpn zpw zhi zrg zpg zhp zph zR0 zR1 zR2 zR3 zkf zmf zlf zcf zsf ztf zP0 zP1 zP2 zP3 zpk zpm zpv zpc zps zpt ztp zcd zen zso znz zgs zin ziw zig zih zsk zmc zms zmt zco zbg zos zoc zss zsz zit TT) (kk : LH X K9 N9 b9 i9 cI cM cW cS zad zq zqc zqs zqe zsh zra zem 1764) : X K9 N9 (CWo cI cM cW cS zad zq zqc zqs zqe zsh zra id zwr ztn zlw zrz zpn zpw zhi zrg zpg zhp zph zR0 zR1 zR2 zR3 zkf zmf zlf zcf zsf ztf zP0 zP1 zP2 zP3 zpk zpm zpv zpc zps zpt ztp zcd zen zso znz zgs Y ++ MW cI zem zwr ztn zlw zrz zin ziw zhi zrg zig zhp zih zsk zkf zmf zlf zmc zms zmt ztp zco zbg zos zoc zss zsz zit V) [(0, .ref b9), (1, .ref (zad 0)), (2, .ref (zem 0)), (3, .int (nI i9))] 986 [] := by
  obtain ⟨wk, tk, mtk, rfl, rfl, rfl, rfl, q1, q2, q3, q4, q5, q6⟩ := INV_q h
  obtain ⟨⟨l1, l2, l3, l4, l5, l6, l7, l8, l9⟩, h2, h3, h4, h5, h6, h7, h8⟩ := id h
  obtain ⟨t1, t2, t3⟩ := h8 zlw l2.1
  refine x_aload_n C9 dL_law_986 1 rfl ?_
  refine x_arg C9 hL 1 (by omega) (by decide) dL_law_987 dL_law_988 dL_law_989 dL_law_990 dL_law_991 ?_
  refine x_arg C9 hL 2 (by omega) (by decide) dL_law_992 dL_law_993 dL_law_994 dL_law_995 dL_law_996 ?_
  refine k7_corner C9 (xs9 (i9 + 1)) (xs9 (i9 + 2)) l1 q1 q3 (fun j hj => (l5 j hj).1) l9.1 (s_good_hz (q4 (TT zlw))).1 t1 t2 (by omega) dL_law_997 hk (Nat.le_of_ble_eq_true rfl) (fun Y' r e7 => ?_)
  refine x_swap C9 ?_
  refine x_aload_n C9 dL_law_1000 2 rfl ?_
  refine x_arg C9 hL 1 (by omega) (by decide) dL_law_1001 dL_law_1002 dL_law_1003 dL_law_1004 dL_law_1005 ?_
  refine x_arg C9 hL 2 (by omega) (by decide) dL_law_1006 dL_law_1007 dL_law_1008 dL_law_1009 dL_law_1010 ?_
  refine k8_corner C9 (xs9 (i9 + 1)) (xs9 (i9 + 2)) (by omega) t1 t3 l1 q2 q3 (fun j hj => (l5 j hj).1) l9.2 (q5 (TT zlw)) dL_law_1011 hk (Nat.le_of_ble_eq_true rfl) (fun V' r8 e8 => ?_)
  refine x_swap C9 ?_
  refine x_icmp_eq C9 dL_law_1014 (tgt := 1764) rfl (fun _ => ?_) (fun q9 => absurd (e7.trans ((g_corner (q6 (TT zlw)) (xs9 (i9 + 1)) (xs9 (i9 + 2))).trans e8.symm)) q9)
  exact kk (h)
set_option maxHeartbeats 4000000 in
set_option maxRecDepth 100000 in
theorem L_least (C9 : rC X l cL_law 4 RL room_1 D9 (tY cI cM cW cS) (zLw adK adV fm b9 L9 xs9) false) (hL : L9 < 2 ^ 31) (hi : i9 + 6 < L9) (hk : K9 ≤ 600000 ∧ N9 ≤ 7302250) (h : INV zwr ztn zlw zrz zpn zpw zhi zrg zpg zhp zph zR0 zR1 zR2 zR3 zkf zmf zlf zcf zsf ztf zP0 zP1 zP2 zP3 zpk zpm zpv zpc zps zpt ztp zcd zen zso znz zgs zin ziw zig zih zsk zmc zms zmt zco zbg zos zoc zss zsz zit TT) (kk : LH X K9 N9 b9 i9 cI cM cW cS zad zq zqc zqs zqe zsh zra zem 1764) : X K9 N9 (CWo cI cM cW cS zad zq zqc zqs zqe zsh zra id zwr ztn zlw zrz zpn zpw zhi zrg zpg zhp zph zR0 zR1 zR2 zR3 zkf zmf zlf zcf zsf ztf zP0 zP1 zP2 zP3 zpk zpm zpv zpc zps zpt ztp zcd zen zso znz zgs Y ++ MW cI zem zwr ztn zlw zrz zin ziw zhi zrg zig zhp zih zsk zkf zmf zlf zmc zms zmt ztp zco zbg zos zoc zss zsz zit V) [(0, .ref b9), (1, .ref (zad 0)), (2, .ref (zem 0)), (3, .int (nI i9))] 1019 [] := by
  obtain ⟨wk, tk, mtk, rfl, rfl, rfl, rfl, q1, q2, q3, q4, q5, q6⟩ := INV_q h
  obtain ⟨⟨l1, l2, l3, l4, l5, l6, l7, l8, l9⟩, h2, h3, h4, h5, h6, h7, h8⟩ := id h
  obtain ⟨t1, t2, t3⟩ := h8 zlw l2.1
  refine x_aload_n C9 dL_law_1019 1 rfl ?_
  refine x_arg C9 hL 1 (by omega) (by decide) dL_law_1020 dL_law_1021 dL_law_1022 dL_law_1023 dL_law_1024 ?_
  refine x_arg C9 hL 2 (by omega) (by decide) dL_law_1025 dL_law_1026 dL_law_1027 dL_law_1028 dL_law_1029 ?_
  refine k7_least C9 (xs9 (i9 + 1)) (xs9 (i9 + 2)) l1 q1 q3 (fun j hj => (l5 j hj).1) l9.1 t1 t2 (by omega) (q4 (TT zlw)) dL_law_1030 hk (Nat.le_of_ble_eq_true rfl) (fun Y' r e7 => ?_)
  refine x_swap C9 ?_
  refine x_aload_n C9 dL_law_1033 2 rfl ?_
  refine x_arg C9 hL 1 (by omega) (by decide) dL_law_1034 dL_law_1035 dL_law_1036 dL_law_1037 dL_law_1038 ?_
  refine x_arg C9 hL 2 (by omega) (by decide) dL_law_1039 dL_law_1040 dL_law_1041 dL_law_1042 dL_law_1043 ?_
  refine k8_least C9 (xs9 (i9 + 1)) (xs9 (i9 + 2)) (by omega) t1 t3 l1 q2 q3 (fun j hj => (l5 j hj).1) l9.2 (q5 (TT zlw)) dL_law_1044 hk (Nat.le_of_ble_eq_true rfl) (fun V' r8 e8 => ?_)
  refine x_swap C9 ?_
  refine x_icmp_eq C9 dL_law_1047 (tgt := 1764) rfl (fun _ => ?_) (fun q9 => absurd (e7.trans ((g_least (q6 (TT zlw)) (xs9 (i9 + 1)) (xs9 (i9 + 2))).trans e8.symm)) q9)
  exact kk (h)
set_option maxHeartbeats 4000000 in
set_option maxRecDepth 100000 in
theorem L_thrice (C9 : rC X l cL_law 4 RL room_1 D9 (tY cI cM cW cS) (zLw adK adV fm b9 L9 xs9) false) (hL : L9 < 2 ^ 31) (hi : i9 + 6 < L9) (hk : K9 ≤ 600000 ∧ N9 ≤ 7302250) (h : INV zwr ztn zlw zrz zpn zpw zhi zrg zpg zhp zph zR0 zR1 zR2 zR3 zkf zmf zlf zcf zsf ztf zP0 zP1 zP2 zP3 zpk zpm zpv zpc zps zpt ztp zcd zen zso znz zgs zin ziw zig zih zsk zmc zms zmt zco zbg zos zoc zss zsz zit TT) (kk : LH X K9 N9 b9 i9 cI cM cW cS zad zq zqc zqs zqe zsh zra zem 1764) : X K9 N9 (CWo cI cM cW cS zad zq zqc zqs zqe zsh zra id zwr ztn zlw zrz zpn zpw zhi zrg zpg zhp zph zR0 zR1 zR2 zR3 zkf zmf zlf zcf zsf ztf zP0 zP1 zP2 zP3 zpk zpm zpv zpc zps zpt ztp zcd zen zso znz zgs Y ++ MW cI zem zwr ztn zlw zrz zin ziw zhi zrg zig zhp zih zsk zkf zmf zlf zmc zms zmt ztp zco zbg zos zoc zss zsz zit V) [(0, .ref b9), (1, .ref (zad 0)), (2, .ref (zem 0)), (3, .int (nI i9))] 1052 [] := by
  obtain ⟨wk, tk, mtk, rfl, rfl, rfl, rfl, q1, q2, q3, q4, q5, q6⟩ := INV_q h
  obtain ⟨⟨l1, l2, l3, l4, l5, l6, l7, l8, l9⟩, h2, h3, h4, h5, h6, h7, h8⟩ := id h
  obtain ⟨t1, t2, t3⟩ := h8 zlw l2.1
  refine x_aload_n C9 dL_law_1052 1 rfl ?_
  refine k7_thrice C9 l1 q1 q3 (fun j hj => (l5 j hj).1) l9.1 t1 t2 (by omega) (q4 (TT zlw)) dL_law_1053 hk (Nat.le_of_ble_eq_true rfl) (fun Y' r e7 => ?_)
  refine x_swap C9 ?_
  refine x_aload_n C9 dL_law_1056 2 rfl ?_
  refine k8_thrice C9 (by omega) t1 t3 l1 q2 q3 (fun j hj => (l5 j hj).1) l9.2 (q5 (TT zlw)) dL_law_1057 hk (Nat.le_of_ble_eq_true rfl) (fun V' r8 e8 => ?_)
  refine x_swap C9 ?_
  refine x_icmp_eq C9 dL_law_1060 (tgt := 1764) rfl (fun _ => ?_) (fun q9 => absurd (e7.trans ((g_thrice (q6 (TT zlw))).trans e8.symm)) q9)
  exact kk (h)
set_option maxHeartbeats 4000000 in
set_option maxRecDepth 100000 in
theorem L_where (C9 : rC X l cL_law 4 RL room_1 D9 (tY cI cM cW cS) (zLw adK adV fm b9 L9 xs9) false) (hL : L9 < 2 ^ 31) (hi : i9 + 6 < L9) (hk : K9 ≤ 600000 ∧ N9 ≤ 7302250) (h : INV zwr ztn zlw zrz zpn zpw zhi zrg zpg zhp zph zR0 zR1 zR2 zR3 zkf zmf zlf zcf zsf ztf zP0 zP1 zP2 zP3 zpk zpm zpv zpc zps zpt ztp zcd zen zso znz zgs zin ziw zig zih zsk zmc zms zmt zco zbg zos zoc zss zsz zit TT) (kk : LH X K9 N9 b9 i9 cI cM cW cS zad zq zqc zqs zqe zsh zra zem 1764) : X K9 N9 (CWo cI cM cW cS zad zq zqc zqs zqe zsh zra id zwr ztn zlw zrz zpn zpw zhi zrg zpg zhp zph zR0 zR1 zR2 zR3 zkf zmf zlf zcf zsf ztf zP0 zP1 zP2 zP3 zpk zpm zpv zpc zps zpt ztp zcd zen zso znz zgs Y ++ MW cI zem zwr ztn zlw zrz zin ziw zhi zrg zig zhp zih zsk zkf zmf zlf zmc zms zmt ztp zco zbg zos zoc zss zsz zit V) [(0, .ref b9), (1, .ref (zad 0)), (2, .ref (zem 0)), (3, .int (nI i9))] 1065 [] := by
  obtain ⟨wk, tk, mtk, rfl, rfl, rfl, rfl, q1, q2, q3, q4, q5, q6⟩ := INV_q h
  obtain ⟨⟨l1, l2, l3, l4, l5, l6, l7, l8, l9⟩, h2, h3, h4, h5, h6, h7, h8⟩ := id h
  obtain ⟨t1, t2, t3⟩ := h8 zlw l2.1
  refine x_aload_n C9 dL_law_1065 1 rfl ?_
  refine x_arg C9 hL 1 (by omega) (by decide) dL_law_1066 dL_law_1067 dL_law_1068 dL_law_1069 dL_law_1070 ?_
  refine x_arg C9 hL 2 (by omega) (by decide) dL_law_1071 dL_law_1072 dL_law_1073 dL_law_1074 dL_law_1075 ?_
  refine k7_where C9 (xs9 (i9 + 1)) (xs9 (i9 + 2)) l1 q1 q3 (fun j hj => (l5 j hj).1) l9.1 (s_good_hz (q4 (TT zlw))).1 t1 t2 (by omega) dL_law_1076 hk (Nat.le_of_ble_eq_true rfl) (fun Y' r e7 => ?_)
  refine x_swap C9 ?_
  refine x_aload_n C9 dL_law_1079 2 rfl ?_
  refine x_arg C9 hL 1 (by omega) (by decide) dL_law_1080 dL_law_1081 dL_law_1082 dL_law_1083 dL_law_1084 ?_
  refine x_arg C9 hL 2 (by omega) (by decide) dL_law_1085 dL_law_1086 dL_law_1087 dL_law_1088 dL_law_1089 ?_
  refine k8_where C9 (xs9 (i9 + 1)) (xs9 (i9 + 2)) (by omega) t1 t3 l1 q2 q3 (fun j hj => (l5 j hj).1) l9.2 (q5 (TT zlw)) dL_law_1090 hk (Nat.le_of_ble_eq_true rfl) (fun V' r8 e8 => ?_)
  refine x_swap C9 ?_
  refine x_icmp_eq C9 dL_law_1093 (tgt := 1764) rfl (fun _ => ?_) (fun q9 => absurd (e7.trans ((g_where (q6 (TT zlw)) (xs9 (i9 + 1)) (xs9 (i9 + 2))).trans e8.symm)) q9)
  exact kk (h)
set_option maxHeartbeats 4000000 in
set_option maxRecDepth 100000 in
theorem L_raking (C9 : rC X l cL_law 4 RL room_1 D9 (tY cI cM cW cS) (zLw adK adV fm b9 L9 xs9) false) (hL : L9 < 2 ^ 31) (hi : i9 + 6 < L9) (hk : K9 ≤ 600000 ∧ N9 ≤ 7302250) (h : INV zwr ztn zlw zrz zpn zpw zhi zrg zpg zhp zph zR0 zR1 zR2 zR3 zkf zmf zlf zcf zsf ztf zP0 zP1 zP2 zP3 zpk zpm zpv zpc zps zpt ztp zcd zen zso znz zgs zin ziw zig zih zsk zmc zms zmt zco zbg zos zoc zss zsz zit TT) (kk : LH X K9 N9 b9 i9 cI cM cW cS zad zq zqc zqs zqe zsh zra zem 1764) : X K9 N9 (CWo cI cM cW cS zad zq zqc zqs zqe zsh zra id zwr ztn zlw zrz zpn zpw zhi zrg zpg zhp zph zR0 zR1 zR2 zR3 zkf zmf zlf zcf zsf ztf zP0 zP1 zP2 zP3 zpk zpm zpv zpc zps zpt ztp zcd zen zso znz zgs Y ++ MW cI zem zwr ztn zlw zrz zin ziw zhi zrg zig zhp zih zsk zkf zmf zlf zmc zms zmt ztp zco zbg zos zoc zss zsz zit V) [(0, .ref b9), (1, .ref (zad 0)), (2, .ref (zem 0)), (3, .int (nI i9))] 1098 [] := by
  obtain ⟨wk, tk, mtk, rfl, rfl, rfl, rfl, q1, q2, q3, q4, q5, q6⟩ := INV_q h
  obtain ⟨⟨l1, l2, l3, l4, l5, l6, l7, l8, l9⟩, h2, h3, h4, h5, h6, h7, h8⟩ := id h
  obtain ⟨t1, t2, t3⟩ := h8 zlw l2.1
  refine x_aload_n C9 dL_law_1098 1 rfl ?_
  refine x_arg C9 hL 1 (by omega) (by decide) dL_law_1099 dL_law_1100 dL_law_1101 dL_law_1102 dL_law_1103 ?_
  refine k7_raking C9 (xs9 (i9 + 1)) l1 q1 q3 (fun j hj => (l5 j hj).1) l9.1 (s_good_hz (q4 (TT zlw))).1 t1 t2 (by omega) dL_law_1104 hk (Nat.le_of_ble_eq_true rfl) (fun Y' r e7 => ?_)
  refine x_swap C9 ?_
  refine x_aload_n C9 dL_law_1107 2 rfl ?_
  refine x_arg C9 hL 1 (by omega) (by decide) dL_law_1108 dL_law_1109 dL_law_1110 dL_law_1111 dL_law_1112 ?_
  refine k8_raking C9 (xs9 (i9 + 1)) (by omega) t1 t3 l1 q2 q3 (fun j hj => (l5 j hj).1) l9.2 (q5 (TT zlw)) dL_law_1113 hk (Nat.le_of_ble_eq_true rfl) (fun V' r8 e8 => ?_)
  refine x_swap C9 ?_
  refine x_icmp_eq C9 dL_law_1116 (tgt := 1764) rfl (fun _ => ?_) (fun q9 => absurd (e7.trans ((g_raking (q6 (TT zlw)) (xs9 (i9 + 1))).trans e8.symm)) q9)
  exact kk (h)
set_option maxHeartbeats 4000000 in
set_option maxRecDepth 100000 in
theorem L_tonight (C9 : rC X l cL_law 4 RL room_1 D9 (tY cI cM cW cS) (zLw adK adV fm b9 L9 xs9) false) (hL : L9 < 2 ^ 31) (hi : i9 + 6 < L9) (hk : K9 ≤ 600000 ∧ N9 ≤ 7302250) (h : INV zwr ztn zlw zrz zpn zpw zhi zrg zpg zhp zph zR0 zR1 zR2 zR3 zkf zmf zlf zcf zsf ztf zP0 zP1 zP2 zP3 zpk zpm zpv zpc zps zpt ztp zcd zen zso znz zgs zin ziw zig zih zsk zmc zms zmt zco zbg zos zoc zss zsz zit TT) (kk : LH X K9 N9 b9 i9 cI cM cW cS zad zq zqc zqs zqe zsh zra zem 1764) : X K9 N9 (CWo cI cM cW cS zad zq zqc zqs zqe zsh zra id zwr ztn zlw zrz zpn zpw zhi zrg zpg zhp zph zR0 zR1 zR2 zR3 zkf zmf zlf zcf zsf ztf zP0 zP1 zP2 zP3 zpk zpm zpv zpc zps zpt ztp zcd zen zso znz zgs Y ++ MW cI zem zwr ztn zlw zrz zin ziw zhi zrg zig zhp zih zsk zkf zmf zlf zmc zms zmt ztp zco zbg zos zoc zss zsz zit V) [(0, .ref b9), (1, .ref (zad 0)), (2, .ref (zem 0)), (3, .int (nI i9))] 1121 [] := by
  obtain ⟨wk, tk, mtk, rfl, rfl, rfl, rfl, q1, q2, q3, q4, q5, q6⟩ := INV_q h
  obtain ⟨⟨l1, l2, l3, l4, l5, l6, l7, l8, l9⟩, h2, h3, h4, h5, h6, h7, h8⟩ := id h
  obtain ⟨t1, t2, t3⟩ := h8 zlw l2.1
  refine x_aload_n C9 dL_law_1121 1 rfl ?_
  refine x_arg C9 hL 1 (by omega) (by decide) dL_law_1122 dL_law_1123 dL_law_1124 dL_law_1125 dL_law_1126 ?_
  refine x_arg C9 hL 2 (by omega) (by decide) dL_law_1127 dL_law_1128 dL_law_1129 dL_law_1130 dL_law_1131 ?_
  refine x_arg C9 hL 3 (by omega) (by decide) dL_law_1132 dL_law_1133 dL_law_1134 dL_law_1135 dL_law_1136 ?_
  refine k7_tonight C9 (xs9 (i9 + 1)) (xs9 (i9 + 2)) (xs9 (i9 + 3)) l1 q1 q3 (fun j hj => (l5 j hj).1) l9.1 (s_good_hz (q4 (TT zlw))).1 t1 t2 (by omega) (q4 (TT zlw)) dL_law_1137 hk (Nat.le_of_ble_eq_true rfl) (fun Y' r e7 => ?_)
  refine x_swap C9 ?_
  refine x_aload_n C9 dL_law_1140 2 rfl ?_
  refine x_arg C9 hL 1 (by omega) (by decide) dL_law_1141 dL_law_1142 dL_law_1143 dL_law_1144 dL_law_1145 ?_
  refine x_arg C9 hL 2 (by omega) (by decide) dL_law_1146 dL_law_1147 dL_law_1148 dL_law_1149 dL_law_1150 ?_
  refine x_arg C9 hL 3 (by omega) (by decide) dL_law_1151 dL_law_1152 dL_law_1153 dL_law_1154 dL_law_1155 ?_
  refine k8_tonight C9 (xs9 (i9 + 1)) (xs9 (i9 + 2)) (xs9 (i9 + 3)) (by omega) t1 t3 l1 q2 q3 (fun j hj => (l5 j hj).1) l9.2 (q5 (TT zlw)) dL_law_1156 hk (Nat.le_of_ble_eq_true rfl) (fun V' r8 e8 => ?_)
  refine x_swap C9 ?_
  refine x_icmp_eq C9 dL_law_1159 (tgt := 1764) rfl (fun _ => ?_) (fun q9 => absurd (e7.trans ((g_tonight (q6 (TT zlw)) (xs9 (i9 + 1)) (xs9 (i9 + 2)) (xs9 (i9 + 3))).trans e8.symm)) q9)
  exact kk (h)
set_option maxHeartbeats 4000000 in
set_option maxRecDepth 100000 in
theorem L_hurdle (C9 : rC X l cL_law 4 RL room_1 D9 (tY cI cM cW cS) (zLw adK adV fm b9 L9 xs9) false) (hL : L9 < 2 ^ 31) (hi : i9 + 6 < L9) (hk : K9 ≤ 600000 ∧ N9 ≤ 7302250) (h : INV zwr ztn zlw zrz zpn zpw zhi zrg zpg zhp zph zR0 zR1 zR2 zR3 zkf zmf zlf zcf zsf ztf zP0 zP1 zP2 zP3 zpk zpm zpv zpc zps zpt ztp zcd zen zso znz zgs zin ziw zig zih zsk zmc zms zmt zco zbg zos zoc zss zsz zit TT) (kk : LH X K9 N9 b9 i9 cI cM cW cS zad zq zqc zqs zqe zsh zra zem 1764) : X K9 N9 (CWo cI cM cW cS zad zq zqc zqs zqe zsh zra id zwr ztn zlw zrz zpn zpw zhi zrg zpg zhp zph zR0 zR1 zR2 zR3 zkf zmf zlf zcf zsf ztf zP0 zP1 zP2 zP3 zpk zpm zpv zpc zps zpt ztp zcd zen zso znz zgs Y ++ MW cI zem zwr ztn zlw zrz zin ziw zhi zrg zig zhp zih zsk zkf zmf zlf zmc zms zmt ztp zco zbg zos zoc zss zsz zit V) [(0, .ref b9), (1, .ref (zad 0)), (2, .ref (zem 0)), (3, .int (nI i9))] 1164 [] := by
  obtain ⟨wk, tk, mtk, rfl, rfl, rfl, rfl, q1, q2, q3, q4, q5, q6⟩ := INV_q h
  obtain ⟨⟨l1, l2, l3, l4, l5, l6, l7, l8, l9⟩, h2, h3, h4, h5, h6, h7, h8⟩ := id h
  obtain ⟨t1, t2, t3⟩ := h8 zlw l2.1
  refine x_aload_n C9 dL_law_1164 1 rfl ?_
  refine x_arg C9 hL 1 (by omega) (by decide) dL_law_1165 dL_law_1166 dL_law_1167 dL_law_1168 dL_law_1169 ?_
  refine x_arg C9 hL 2 (by omega) (by decide) dL_law_1170 dL_law_1171 dL_law_1172 dL_law_1173 dL_law_1174 ?_
  refine x_arg C9 hL 3 (by omega) (by decide) dL_law_1175 dL_law_1176 dL_law_1177 dL_law_1178 dL_law_1179 ?_
  refine k7_hurdle C9 (xs9 (i9 + 1)) (xs9 (i9 + 2)) (xs9 (i9 + 3)) l1 q1 q3 (fun j hj => (l5 j hj).1) l9.1 t1 t2 (by omega) (q4 (TT zlw)) dL_law_1180 hk (Nat.le_of_ble_eq_true rfl) (fun Y' r e7 => ?_)
  refine x_swap C9 ?_
  refine x_aload_n C9 dL_law_1183 2 rfl ?_
  refine x_arg C9 hL 1 (by omega) (by decide) dL_law_1184 dL_law_1185 dL_law_1186 dL_law_1187 dL_law_1188 ?_
  refine x_arg C9 hL 2 (by omega) (by decide) dL_law_1189 dL_law_1190 dL_law_1191 dL_law_1192 dL_law_1193 ?_
  refine x_arg C9 hL 3 (by omega) (by decide) dL_law_1194 dL_law_1195 dL_law_1196 dL_law_1197 dL_law_1198 ?_
  refine k8_hurdle C9 (xs9 (i9 + 1)) (xs9 (i9 + 2)) (xs9 (i9 + 3)) (by omega) t1 t3 l1 q2 q3 (fun j hj => (l5 j hj).1) l9.2 (q5 (TT zlw)) dL_law_1199 hk (Nat.le_of_ble_eq_true rfl) (fun V' r8 e8 => ?_)
  refine x_swap C9 ?_
  refine x_icmp_eq C9 dL_law_1202 (tgt := 1764) rfl (fun _ => ?_) (fun q9 => absurd (e7.trans ((g_hurdle (q6 (TT zlw)) (xs9 (i9 + 1)) (xs9 (i9 + 2)) (xs9 (i9 + 3))).trans e8.symm)) q9)
  exact kk (h)
set_option maxHeartbeats 4000000 in
set_option maxRecDepth 100000 in
theorem L_share (C9 : rC X l cL_law 4 RL room_1 D9 (tY cI cM cW cS) (zLw adK adV fm b9 L9 xs9) false) (hL : L9 < 2 ^ 31) (hi : i9 + 6 < L9) (hk : K9 ≤ 600000 ∧ N9 ≤ 7302250) (h : INV zwr ztn zlw zrz zpn zpw zhi zrg zpg zhp zph zR0 zR1 zR2 zR3 zkf zmf zlf zcf zsf ztf zP0 zP1 zP2 zP3 zpk zpm zpv zpc zps zpt ztp zcd zen zso znz zgs zin ziw zig zih zsk zmc zms zmt zco zbg zos zoc zss zsz zit TT) (kk : LH X K9 N9 b9 i9 cI cM cW cS zad zq zqc zqs zqe zsh zra zem 1764) : X K9 N9 (CWo cI cM cW cS zad zq zqc zqs zqe zsh zra id zwr ztn zlw zrz zpn zpw zhi zrg zpg zhp zph zR0 zR1 zR2 zR3 zkf zmf zlf zcf zsf ztf zP0 zP1 zP2 zP3 zpk zpm zpv zpc zps zpt ztp zcd zen zso znz zgs Y ++ MW cI zem zwr ztn zlw zrz zin ziw zhi zrg zig zhp zih zsk zkf zmf zlf zmc zms zmt ztp zco zbg zos zoc zss zsz zit V) [(0, .ref b9), (1, .ref (zad 0)), (2, .ref (zem 0)), (3, .int (nI i9))] 1207 [] := by
  obtain ⟨wk, tk, mtk, rfl, rfl, rfl, rfl, q1, q2, q3, q4, q5, q6⟩ := INV_q h
  obtain ⟨⟨l1, l2, l3, l4, l5, l6, l7, l8, l9⟩, h2, h3, h4, h5, h6, h7, h8⟩ := id h
  obtain ⟨t1, t2, t3⟩ := h8 zlw l2.1
  refine x_aload_n C9 dL_law_1207 1 rfl ?_
  refine x_arg C9 hL 1 (by omega) (by decide) dL_law_1208 dL_law_1209 dL_law_1210 dL_law_1211 dL_law_1212 ?_
  refine x_arg C9 hL 2 (by omega) (by decide) dL_law_1213 dL_law_1214 dL_law_1215 dL_law_1216 dL_law_1217 ?_
  refine x_arg C9 hL 3 (by omega) (by decide) dL_law_1218 dL_law_1219 dL_law_1220 dL_law_1221 dL_law_1222 ?_
  refine k7_share C9 (xs9 (i9 + 1)) (xs9 (i9 + 2)) (xs9 (i9 + 3)) l1 q1 q3 (fun j hj => (l5 j hj).1) l9.1 (s_good_hz (q4 (TT zlw))).1 t1 t2 (by omega) (q4 (TT zlw)) dL_law_1223 hk (Nat.le_of_ble_eq_true rfl) (fun Y' r e7 => ?_)
  refine x_swap C9 ?_
  refine x_aload_n C9 dL_law_1226 2 rfl ?_
  refine x_arg C9 hL 1 (by omega) (by decide) dL_law_1227 dL_law_1228 dL_law_1229 dL_law_1230 dL_law_1231 ?_
  refine x_arg C9 hL 2 (by omega) (by decide) dL_law_1232 dL_law_1233 dL_law_1234 dL_law_1235 dL_law_1236 ?_
  refine x_arg C9 hL 3 (by omega) (by decide) dL_law_1237 dL_law_1238 dL_law_1239 dL_law_1240 dL_law_1241 ?_
  refine k8_share C9 (xs9 (i9 + 1)) (xs9 (i9 + 2)) (xs9 (i9 + 3)) (by omega) t1 t3 l1 q2 q3 (fun j hj => (l5 j hj).1) l9.2 (q5 (TT zlw)) dL_law_1242 hk (Nat.le_of_ble_eq_true rfl) (fun V' r8 e8 => ?_)
  refine x_swap C9 ?_
  refine x_lcmp C9 dL_law_1245 ?_
  refine x_if_eq C9 dL_law_1246 (tgt := 1764) rfl (fun _ => ?_) (fun q9 => absurd (q_lc0 (e7.trans ((g_share (q6 (TT zlw)) (xs9 (i9 + 1)) (xs9 (i9 + 2)) (xs9 (i9 + 3))).trans e8.symm))) q9)
  exact kk (h)
set_option maxHeartbeats 4000000 in
set_option maxRecDepth 100000 in
theorem L_away (C9 : rC X l cL_law 4 RL room_1 D9 (tY cI cM cW cS) (zLw adK adV fm b9 L9 xs9) false) (hL : L9 < 2 ^ 31) (hi : i9 + 6 < L9) (hk : K9 ≤ 600000 ∧ N9 ≤ 7302250) (h : INV zwr ztn zlw zrz zpn zpw zhi zrg zpg zhp zph zR0 zR1 zR2 zR3 zkf zmf zlf zcf zsf ztf zP0 zP1 zP2 zP3 zpk zpm zpv zpc zps zpt ztp zcd zen zso znz zgs zin ziw zig zih zsk zmc zms zmt zco zbg zos zoc zss zsz zit TT) (kk : LH X K9 N9 b9 i9 cI cM cW cS zad zq zqc zqs zqe zsh zra zem 1764) : X K9 N9 (CWo cI cM cW cS zad zq zqc zqs zqe zsh zra id zwr ztn zlw zrz zpn zpw zhi zrg zpg zhp zph zR0 zR1 zR2 zR3 zkf zmf zlf zcf zsf ztf zP0 zP1 zP2 zP3 zpk zpm zpv zpc zps zpt ztp zcd zen zso znz zgs Y ++ MW cI zem zwr ztn zlw zrz zin ziw zhi zrg zig zhp zih zsk zkf zmf zlf zmc zms zmt ztp zco zbg zos zoc zss zsz zit V) [(0, .ref b9), (1, .ref (zad 0)), (2, .ref (zem 0)), (3, .int (nI i9))] 1251 [] := by
  obtain ⟨wk, tk, mtk, rfl, rfl, rfl, rfl, q1, q2, q3, q4, q5, q6⟩ := INV_q h
  obtain ⟨⟨l1, l2, l3, l4, l5, l6, l7, l8, l9⟩, h2, h3, h4, h5, h6, h7, h8⟩ := id h
  obtain ⟨t1, t2, t3⟩ := h8 zlw l2.1
  refine x_aload_n C9 dL_law_1251 1 rfl ?_
  refine x_arg C9 hL 1 (by omega) (by decide) dL_law_1252 dL_law_1253 dL_law_1254 dL_law_1255 dL_law_1256 ?_
  refine k7_away C9 (xs9 (i9 + 1)) l1 q1 q3 (fun j hj => (l5 j hj).1) l9.1 t1 t2 (by omega) (q4 (TT zlw)) dL_law_1257 hk (Nat.le_of_ble_eq_true rfl) (fun Y' r e7 => ?_)
  refine x_swap C9 ?_
  refine x_aload_n C9 dL_law_1260 2 rfl ?_
  refine x_arg C9 hL 1 (by omega) (by decide) dL_law_1261 dL_law_1262 dL_law_1263 dL_law_1264 dL_law_1265 ?_
  refine k8_away C9 (xs9 (i9 + 1)) (by omega) t1 t3 l1 q2 q3 (fun j hj => (l5 j hj).1) l9.2 (q5 (TT zlw)) dL_law_1266 hk (Nat.le_of_ble_eq_true rfl) (fun V' r8 e8 => ?_)
  refine x_swap C9 ?_
  refine x_icmp_eq C9 dL_law_1269 (tgt := 1764) rfl (fun _ => ?_) (fun q9 => absurd (e7.trans ((g_away (q6 (TT zlw)) (xs9 (i9 + 1))).trans e8.symm)) q9)
  exact kk (h)
set_option maxHeartbeats 4000000 in
set_option maxRecDepth 100000 in
theorem L_drawn (C9 : rC X l cL_law 4 RL room_1 D9 (tY cI cM cW cS) (zLw adK adV fm b9 L9 xs9) false) (hL : L9 < 2 ^ 31) (hi : i9 + 6 < L9) (hk : K9 ≤ 600000 ∧ N9 ≤ 7302250) (h : INV zwr ztn zlw zrz zpn zpw zhi zrg zpg zhp zph zR0 zR1 zR2 zR3 zkf zmf zlf zcf zsf ztf zP0 zP1 zP2 zP3 zpk zpm zpv zpc zps zpt ztp zcd zen zso znz zgs zin ziw zig zih zsk zmc zms zmt zco zbg zos zoc zss zsz zit TT) (kk : LH X K9 N9 b9 i9 cI cM cW cS zad zq zqc zqs zqe zsh zra zem 1764) : X K9 N9 (CWo cI cM cW cS zad zq zqc zqs zqe zsh zra id zwr ztn zlw zrz zpn zpw zhi zrg zpg zhp zph zR0 zR1 zR2 zR3 zkf zmf zlf zcf zsf ztf zP0 zP1 zP2 zP3 zpk zpm zpv zpc zps zpt ztp zcd zen zso znz zgs Y ++ MW cI zem zwr ztn zlw zrz zin ziw zhi zrg zig zhp zih zsk zkf zmf zlf zmc zms zmt ztp zco zbg zos zoc zss zsz zit V) [(0, .ref b9), (1, .ref (zad 0)), (2, .ref (zem 0)), (3, .int (nI i9))] 1406 [] := by
  obtain ⟨wk, tk, mtk, rfl, rfl, rfl, rfl, q1, q2, q3, q4, q5, q6⟩ := INV_q h
  obtain ⟨⟨l1, l2, l3, l4, l5, l6, l7, l8, l9⟩, h2, h3, h4, h5, h6, h7, h8⟩ := id h
  obtain ⟨t1, t2, t3⟩ := h8 zlw l2.1
  refine x_aload_n C9 dL_law_1406 1 rfl ?_
  refine x_arg C9 hL 1 (by omega) (by decide) dL_law_1407 dL_law_1408 dL_law_1409 dL_law_1410 dL_law_1411 ?_
  refine x_arg C9 hL 2 (by omega) (by decide) dL_law_1412 dL_law_1413 dL_law_1414 dL_law_1415 dL_law_1416 ?_
  refine x_arg C9 hL 3 (by omega) (by decide) dL_law_1417 dL_law_1418 dL_law_1419 dL_law_1420 dL_law_1421 ?_
  refine k7_drawn C9 (xs9 (i9 + 1)) (xs9 (i9 + 2)) (xs9 (i9 + 3)) l1 q1 q3 (fun j hj => (l5 j hj).1) l9.1 t1 t2 (by omega) (q4 (TT zlw)) dL_law_1422 hk (Nat.le_of_ble_eq_true rfl) (fun Y' r e7 => ?_)
  refine x_swap C9 ?_
  refine x_aload_n C9 dL_law_1425 2 rfl ?_
  refine x_arg C9 hL 1 (by omega) (by decide) dL_law_1426 dL_law_1427 dL_law_1428 dL_law_1429 dL_law_1430 ?_
  refine x_arg C9 hL 2 (by omega) (by decide) dL_law_1431 dL_law_1432 dL_law_1433 dL_law_1434 dL_law_1435 ?_
  refine x_arg C9 hL 3 (by omega) (by decide) dL_law_1436 dL_law_1437 dL_law_1438 dL_law_1439 dL_law_1440 ?_
  refine k8_drawn C9 (xs9 (i9 + 1)) (xs9 (i9 + 2)) (xs9 (i9 + 3)) (by omega) t1 t3 l1 q2 q3 (fun j hj => (l5 j hj).1) l9.2 (q5 (TT zlw)) dL_law_1441 hk (Nat.le_of_ble_eq_true rfl) (fun V' r8 e8 => ?_)
  refine x_swap C9 ?_
  refine x_icmp_eq C9 dL_law_1444 (tgt := 1764) rfl (fun _ => ?_) (fun q9 => absurd (e7.trans ((g_drawn (q6 (TT zlw)) (xs9 (i9 + 1)) (xs9 (i9 + 2)) (xs9 (i9 + 3))).trans e8.symm)) q9)
  exact kk (h)
set_option maxHeartbeats 4000000 in
set_option maxRecDepth 100000 in
theorem L_odds (C9 : rC X l cL_law 4 RL room_1 D9 (tY cI cM cW cS) (zLw adK adV fm b9 L9 xs9) false) (hL : L9 < 2 ^ 31) (hi : i9 + 6 < L9) (hk : K9 ≤ 600000 ∧ N9 ≤ 7302250) (h : INV zwr ztn zlw zrz zpn zpw zhi zrg zpg zhp zph zR0 zR1 zR2 zR3 zkf zmf zlf zcf zsf ztf zP0 zP1 zP2 zP3 zpk zpm zpv zpc zps zpt ztp zcd zen zso znz zgs zin ziw zig zih zsk zmc zms zmt zco zbg zos zoc zss zsz zit TT) (kk : LH X K9 N9 b9 i9 cI cM cW cS zad zq zqc zqs zqe zsh zra zem 1764) : X K9 N9 (CWo cI cM cW cS zad zq zqc zqs zqe zsh zra id zwr ztn zlw zrz zpn zpw zhi zrg zpg zhp zph zR0 zR1 zR2 zR3 zkf zmf zlf zcf zsf ztf zP0 zP1 zP2 zP3 zpk zpm zpv zpc zps zpt ztp zcd zen zso znz zgs Y ++ MW cI zem zwr ztn zlw zrz zin ziw zhi zrg zig zhp zih zsk zkf zmf zlf zmc zms zmt ztp zco zbg zos zoc zss zsz zit V) [(0, .ref b9), (1, .ref (zad 0)), (2, .ref (zem 0)), (3, .int (nI i9))] 1449 [] := by
  obtain ⟨wk, tk, mtk, rfl, rfl, rfl, rfl, q1, q2, q3, q4, q5, q6⟩ := INV_q h
  obtain ⟨⟨l1, l2, l3, l4, l5, l6, l7, l8, l9⟩, h2, h3, h4, h5, h6, h7, h8⟩ := id h
  obtain ⟨t1, t2, t3⟩ := h8 zlw l2.1
  refine x_aload_n C9 dL_law_1449 1 rfl ?_
  refine x_arg C9 hL 1 (by omega) (by decide) dL_law_1450 dL_law_1451 dL_law_1452 dL_law_1453 dL_law_1454 ?_
  refine x_arg C9 hL 2 (by omega) (by decide) dL_law_1455 dL_law_1456 dL_law_1457 dL_law_1458 dL_law_1459 ?_
  refine x_arg C9 hL 3 (by omega) (by decide) dL_law_1460 dL_law_1461 dL_law_1462 dL_law_1463 dL_law_1464 ?_
  refine x_arg C9 hL 4 (by omega) (by decide) dL_law_1465 dL_law_1466 dL_law_1467 dL_law_1468 dL_law_1469 ?_
  refine k7_odds C9 (xs9 (i9 + 1)) (xs9 (i9 + 2)) (xs9 (i9 + 3)) (xs9 (i9 + 4)) l1 q1 q3 (fun j hj => (l5 j hj).1) l9.1 t1 t2 (by omega) (q4 (TT zlw)) dL_law_1470 hk (Nat.le_of_ble_eq_true rfl) (fun Y' r e7 => ?_)
  refine x_swap C9 ?_
  refine x_aload_n C9 dL_law_1473 2 rfl ?_
  refine x_arg C9 hL 1 (by omega) (by decide) dL_law_1474 dL_law_1475 dL_law_1476 dL_law_1477 dL_law_1478 ?_
  refine x_arg C9 hL 2 (by omega) (by decide) dL_law_1479 dL_law_1480 dL_law_1481 dL_law_1482 dL_law_1483 ?_
  refine x_arg C9 hL 3 (by omega) (by decide) dL_law_1484 dL_law_1485 dL_law_1486 dL_law_1487 dL_law_1488 ?_
  refine x_arg C9 hL 4 (by omega) (by decide) dL_law_1489 dL_law_1490 dL_law_1491 dL_law_1492 dL_law_1493 ?_
  refine k8_odds C9 (xs9 (i9 + 1)) (xs9 (i9 + 2)) (xs9 (i9 + 3)) (xs9 (i9 + 4)) (by omega) t1 t3 l1 q2 q3 (fun j hj => (l5 j hj).1) l9.2 (q5 (TT zlw)) dL_law_1494 hk (Nat.le_of_ble_eq_true rfl) (fun V' r8 e8 => ?_)
  refine x_swap C9 ?_
  refine x_lcmp C9 dL_law_1497 ?_
  refine x_if_eq C9 dL_law_1498 (tgt := 1764) rfl (fun _ => ?_) (fun q9 => absurd (q_lc0 (e7.trans ((g_odds (q6 (TT zlw)) (xs9 (i9 + 1)) (xs9 (i9 + 2)) (xs9 (i9 + 3)) (xs9 (i9 + 4))).trans e8.symm))) q9)
  exact kk (h)
end LC
