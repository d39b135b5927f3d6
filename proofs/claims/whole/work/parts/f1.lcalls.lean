section IT
variable {so : Nat → Int32} {nz nzf : Nat → Nat} {gs : Nat → sF} {ss sz it : sF} {j9 : Nat} {s n : Int32} {G : sG}
theorem iS_judge (h : iSh so nz gs ss (nIf nzf) it) (hf : ∀ j, j < 4 → nzf j ≤ 40) (hj9 : j9 < 4) (hs9 : ∀ i, i < 4 → s = nI i → i = j9) : o_judge G (so j9) (nz j9) (gs j9) s n = o_judge G (ss (o_n s)) (nzf (o_n s)) (o_row it (o_n s)) s n := by
  obtain ⟨hs, hg⟩ := iSh_gS h hf hj9
  rcases k_s4 hs9 with e | ⟨rfl, hj, e⟩
  · have u : ∀ a b, o_unfit a b s n 0 = -2 := fun a b => if_neg e
    unfold o_judge
    simp only [u]
    rfl
  · rw [hj, hs]
    exact g_judgeS hg _ _
theorem iS_winds (h : iSh so nz gs ss (nIf nzf) it) (hf : ∀ j, j < 4 → nzf j ≤ 40) (hj9 : j9 < 4) (hs9 : ∀ i, i < 4 → s = nI i → i = j9) : o_winds G (so j9) (nz j9) (gs j9) s n = o_winds G (ss (o_n s)) (nzf (o_n s)) (o_row it (o_n s)) s n := by
  obtain ⟨hs, hg⟩ := iSh_gS h hf hj9
  rcases k_s4 hs9 with e | ⟨rfl, hj, e⟩
  · have u : ∀ a b, o_unfit a b s n 1 = -2 := fun a b => if_neg e
    unfold o_winds
    simp only [u]
    rfl
  · rw [hj, hs]
    exact g_windsS hg _ _
theorem iS_laws {TT : Nat → sT} {wr : Nat} (h : iSh so nz gs ss (nIf nzf) it) (hf : ∀ j, j < 4 → nzf j ≤ 40) (hj9 : j9 < 4) (hs9 : ∀ i, i < 4 → s = nI i → i = j9) : o_laws G TT wr (so j9) (nz j9) (gs j9) s n = o_laws G TT wr (ss (o_n s)) (nzf (o_n s)) (o_row it (o_n s)) s n := by
  obtain ⟨hs, hg⟩ := iSh_gS h hf hj9
  rcases k_s4 hs9 with e | ⟨rfl, hj, e⟩
  · have u : ∀ a b, o_unfit a b s n 0 = -2 := fun a b => if_neg e
    unfold o_laws
    simp only [u]
    rfl
  · rw [hj, hs]
    exact g_lawsS hg _ _
theorem iS_by (h : iSh so nz gs ss (nIf nzf) it) (hf : ∀ j, j < 4 → nzf j ≤ 40) (hj9 : j9 < 4) (hs9 : ∀ i, i < 4 → s = nI i → i = j9) {q q' : sTB} (hB : gB q q') (t at9 n : Int32) : (o_treesBy (gs j9) (so j9) (nz j9) q s t at9 n).1 = (o_treesBy (o_row it (o_n s)) (ss (o_n s)) (nzf (o_n s)) q' s t at9 n).1 ∧ gB (o_treesBy (gs j9) (so j9) (nz j9) q s t at9 n).2 (o_treesBy (o_row it (o_n s)) (ss (o_n s)) (nzf (o_n s)) q' s t at9 n).2 := by
  obtain ⟨hs, hg⟩ := iSh_gS h hf hj9
  rcases k_s4 hs9 with e | ⟨rfl, hj, e⟩
  · unfold o_treesBy
    simp only [if_neg e]
    first | exact ⟨rfl, hB⟩ | exact ⟨trivial, hB⟩
  · rw [hj, hs]
    exact g_treesBy (h j9 hj9).1 hg hB _ _ _ _
end IT
theorem q_lc0 {x y : Int64} (h : x = y) : lg_cmp x y = 0 := by
  subst h
  unfold lg_cmp
  rw [if_neg (fun h9 => by
    have h8 := Int64.lt_iff_toInt_lt.mp h9
    omega), if_pos rfl]
theorem k_oc (oc : sF) : ∃ pk pm pl : sF, oc = o_cells pk pm pl := by
  refine ⟨oc, fun q => oc (q + 36), fun q => oc (q + 72), ?_⟩
  funext q
  unfold o_cells
  by_cases e1 : q < 36
  · rw [if_pos e1]
  · rw [if_neg e1]
    by_cases e2 : q < 72
    · rw [if_pos e2]
      show oc q = oc (q - 36 + 36)
      rw [show q - 36 + 36 = q by omega]
    · rw [if_neg e2]
      show oc q = oc (q - 72 + 72)
      rw [show q - 72 + 72 = q by omega]
section XCP
variable {X : rT} {l : Launch} {D9 : va_G} {cI cM cW cS : ClassId} {adK adV : Nat → Nat} {fm : Option Nat} {b9 L9 : Nat} {xs9 : Nat → Int32} {K9 N9 : Nat} {T9 : va_W} {lv9 : rL} {pc9 : Nat} {st9 : List Value}
variable {zad zq zqc zqs zqe zsh zra : Nat → Nat} {zwr ztn zlw zrz zpn zpw : Nat} {zhi zrg zpg : Int32} {zhp zph : Int64} {zR0 zR1 zR2 zR3 zkf zmf zlf zcf zsf ztf zP0 zP1 zP2 zP3 zpk zpm zpv zpc zps zpt ztp : sF} {zcd zen : Nat → sF} {zso : Nat → Int32} {znz : Nat → Nat} {zgs : Nat → sF} {Y : sY}
theorem x7_copy (C9 : rC X l cL_law 4 RL room_1 D9 (tY cI cM cW cS) (zLw adK adV fm b9 L9 xs9) false) (s : Int32) (i : Int32) (t : Int32) (j : Int32) (n : Int32) (j9 : Nat) (hj9 : j9 < 4) (hs9 : ∀ i, i < 4 → s = nI i → i = j9) (hz9 : ∀ i, i < 4 → znz i ≤ 40) (j8 : Nat) (hj8 : j8 < 4) (hs8 : ∀ i, i < 4 → t = nI i → i = j8) (hd : decode cL_law pc9 = .ok (.invokevirtual 185, 3)) (hk : K9 ≤ 600000 ∧ N9 ≤ 7302250) (hcat : (st9.map fun v => v.category).sum ≤ 8) (kk0 : ∀ (r : Int32) (g2' : Nat → Int32), ((r, g2') = (o_copy (zso j9) (znz j9) (zso j8) (znz j8) s i t j n, o_copy_g (zgs j9) (zgs j8) (zso j9) (znz j9) (zso j8) (znz j8) s i t j n)) → X K9 N9 (CWo cI cM cW cS zad zq zqc zqs zqe zsh zra id zwr ztn zlw zrz zpn zpw zhi zrg zpg zhp zph zR0 zR1 zR2 zR3 zkf zmf zlf zcf zsf ztf zP0 zP1 zP2 zP3 zpk zpm zpv zpc zps zpt ztp zcd zen zso znz (r_ch zgs j8 g2') Y ++ T9) lv9 (pc9 + 3) (.int r :: st9)) : X K9 N9 (CWo cI cM cW cS zad zq zqc zqs zqe zsh zra id zwr ztn zlw zrz zpn zpw zhi zrg zpg zhp zph zR0 zR1 zR2 zR3 zkf zmf zlf zcf zsf ztf zP0 zP1 zP2 zP3 zpk zpm zpv zpc zps zpt ztp zcd zen zso znz zgs Y ++ T9) lv9 pc9 (.int n :: .int j :: .int t :: .int i :: .int s :: .ref (zad 0) :: st9) := by
  by_cases e : j9 = j8
  · subst e
    exact k7_copy_s C9 s i t j n j9 hj9 hs9 hz9 hs8 hd hk hcat kk0
  · exact k7_copy C9 s i t j n j9 hj9 hs9 hz9 j8 hj8 hs8 e hd hk hcat kk0
end XCP
section LC
variable {X : rT} {l : Launch} {D9 : va_G} {cI cM cW cS : ClassId} {adK adV : Nat → Nat} {fm : Option Nat} {b9 L9 i9 K9 N9 : Nat} {xs9 : Nat → Int32} {zad zq zqc zqs zqe zsh zra zem : Nat → Nat} {zwr ztn zlw zrz zpn zpw : Nat} {zhi zrg zpg : Int32} {zhp zph : Int64} {zR0 zR1 zR2 zR3 zkf zmf zlf zcf zsf ztf zP0 zP1 zP2 zP3 zpk zpm zpv zpc zps zpt ztp : sF} {zcd zen : Nat → sF} {zso : Nat → Int32} {znz : Nat → Nat} {zgs : Nat → sF} {zin ziw : Nat} {zig : Int32} {zih : Int64} {zsk zmc zms zmt zco zbg zos zoc zss zsz zit : sF} {TT : Nat → sT} {Y : sY} {V : sV}
set_option maxHeartbeats 4000000 in
set_option maxRecDepth 100000 in
theorem L_sky (C9 : rC X l cL_law 4 RL room_1 D9 (tY cI cM cW cS) (zLw adK adV fm b9 L9 xs9) false) (hL : L9 < 2 ^ 31) (hi : i9 + 6 < L9) (hk : K9 ≤ 600000 ∧ N9 ≤ 7302250) (h : INV zwr ztn zlw zrz zpn zpw zhi zrg zpg zhp zph zR0 zR1 zR2 zR3 zkf zmf zlf zcf zsf ztf zP0 zP1 zP2 zP3 zpk zpm zpv zpc zps zpt ztp zcd zen zso znz zgs zin ziw zig zih zsk zmc zms zmt zco zbg zos zoc zss zsz zit TT) (kk : LH X K9 N9 b9 i9 cI cM cW cS zad zq zqc zqs zqe zsh zra zem 1764) : X K9 N9 (CWo cI cM cW cS zad zq zqc zqs zqe zsh zra id zwr ztn zlw zrz zpn zpw zhi zrg zpg zhp zph zR0 zR1 zR2 zR3 zkf zmf zlf zcf zsf ztf zP0 zP1 zP2 zP3 zpk zpm zpv zpc zps zpt ztp zcd zen zso znz zgs Y ++ MW cI zem zwr ztn zlw zrz zin ziw zhi zrg zig zhp zih zsk zkf zmf zlf zmc zms zmt ztp zco zbg zos zoc zss zsz zit V) [(0, .ref b9), (1, .ref (zad 0)), (2, .ref (zem 0)), (3, .int (nI i9))] 220 [] := by
  obtain ⟨⟨l1, l2, l3, l4, l5, l6, l7, l8, l9⟩, h2, h3, h4, h5, h6, h7, h8⟩ := id h
  subst h3
  refine x_aload_n C9 dL_law_220 1 rfl ?_
  refine x_arg C9 hL 1 (by omega) (by decide) dL_law_221 dL_law_222 dL_law_223 dL_law_224 dL_law_225 ?_
  refine x_arg C9 hL 2 (by omega) (by decide) dL_law_226 dL_law_227 dL_law_228 dL_law_229 dL_law_230 ?_
  refine x_arg C9 hL 3 (by omega) (by decide) dL_law_231 dL_law_232 dL_law_233 dL_law_234 dL_law_235 ?_
  refine k7_sky C9 (xs9 (i9 + 1)) (xs9 (i9 + 2)) (xs9 (i9 + 3)) dL_law_236 hk (Nat.le_of_ble_eq_true rfl) (fun r a0 a1 a2 a3 e7 => ?_)
  obtain ⟨rfl, e7_0⟩ := Prod.mk.inj e7
  obtain ⟨rfl, e7_1⟩ := Prod.mk.inj e7_0
  obtain ⟨rfl, e7_2⟩ := Prod.mk.inj e7_1
  obtain ⟨rfl, e7_3⟩ := Prod.mk.inj e7_2
  subst e7_3
  refine x_swap C9 ?_
  refine x_aload_n C9 dL_law_239 2 rfl ?_
  refine x_arg C9 hL 1 (by omega) (by decide) dL_law_240 dL_law_241 dL_law_242 dL_law_243 dL_law_244 ?_
  refine x_arg C9 hL 2 (by omega) (by decide) dL_law_245 dL_law_246 dL_law_247 dL_law_248 dL_law_249 ?_
  refine x_arg C9 hL 3 (by omega) (by decide) dL_law_250 dL_law_251 dL_law_252 dL_law_253 dL_law_254 ?_
  refine k8_sky C9 (xs9 (i9 + 1)) (xs9 (i9 + 2)) (xs9 (i9 + 3)) dL_law_255 hk (Nat.le_of_ble_eq_true rfl) (fun r8 s8 e8 => ?_)
  obtain ⟨rfl, e8_0⟩ := Prod.mk.inj e8
  subst e8_0
  refine x_swap C9 ?_
  refine x_icmp_eq C9 dL_law_258 (tgt := 1764) rfl (fun _ => ?_) (fun q9 => absurd (k_sky1.symm) q9)
  exact kk (I_sky h (xs9 (i9 + 1)) (xs9 (i9 + 2)) (xs9 (i9 + 3)))
set_option maxHeartbeats 4000000 in
set_option maxRecDepth 100000 in
theorem L_skyTold (C9 : rC X l cL_law 4 RL room_1 D9 (tY cI cM cW cS) (zLw adK adV fm b9 L9 xs9) false) (hL : L9 < 2 ^ 31) (hi : i9 + 6 < L9) (hk : K9 ≤ 600000 ∧ N9 ≤ 7302250) (h : INV zwr ztn zlw zrz zpn zpw zhi zrg zpg zhp zph zR0 zR1 zR2 zR3 zkf zmf zlf zcf zsf ztf zP0 zP1 zP2 zP3 zpk zpm zpv zpc zps zpt ztp zcd zen zso znz zgs zin ziw zig zih zsk zmc zms zmt zco zbg zos zoc zss zsz zit TT) (kk : LH X K9 N9 b9 i9 cI cM cW cS zad zq zqc zqs zqe zsh zra zem 1764) : X K9 N9 (CWo cI cM cW cS zad zq zqc zqs zqe zsh zra id zwr ztn zlw zrz zpn zpw zhi zrg zpg zhp zph zR0 zR1 zR2 zR3 zkf zmf zlf zcf zsf ztf zP0 zP1 zP2 zP3 zpk zpm zpv zpc zps zpt ztp zcd zen zso znz zgs Y ++ MW cI zem zwr ztn zlw zrz zin ziw zhi zrg zig zhp zih zsk zkf zmf zlf zmc zms zmt ztp zco zbg zos zoc zss zsz zit V) [(0, .ref b9), (1, .ref (zad 0)), (2, .ref (zem 0)), (3, .int (nI i9))] 263 [] := by
  obtain ⟨⟨l1, l2, l3, l4, l5, l6, l7, l8, l9⟩, h2, h3, h4, h5, h6, h7, h8⟩ := id h
  subst h3
  refine x_aload_n C9 dL_law_263 1 rfl ?_
  refine x_arg C9 hL 1 (by omega) (by decide) dL_law_264 dL_law_265 dL_law_266 dL_law_267 dL_law_268 ?_
  refine x_arg C9 hL 2 (by omega) (by decide) dL_law_269 dL_law_270 dL_law_271 dL_law_272 dL_law_273 ?_
  refine k7_skyTold C9 (xs9 (i9 + 1)) (xs9 (i9 + 2)) dL_law_274 hk (Nat.le_of_ble_eq_true rfl) (fun r e7 => ?_)
  subst e7
  refine x_swap C9 ?_
  refine x_aload_n C9 dL_law_277 2 rfl ?_
  refine x_arg C9 hL 1 (by omega) (by decide) dL_law_278 dL_law_279 dL_law_280 dL_law_281 dL_law_282 ?_
  refine x_arg C9 hL 2 (by omega) (by decide) dL_law_283 dL_law_284 dL_law_285 dL_law_286 dL_law_287 ?_
  refine k8_skyTold C9 (xs9 (i9 + 1)) (xs9 (i9 + 2)) dL_law_288 hk (Nat.le_of_ble_eq_true rfl) (fun r8 e8 => ?_)
  subst e8
  refine x_swap C9 ?_
  refine x_icmp_eq C9 dL_law_291 (tgt := 1764) rfl (fun _ => ?_) (fun q9 => absurd (k_skyT.symm) q9)
  exact kk (h)
set_option maxHeartbeats 4000000 in
set_option maxRecDepth 100000 in
theorem L_count (C9 : rC X l cL_law 4 RL room_1 D9 (tY cI cM cW cS) (zLw adK adV fm b9 L9 xs9) false) (hL : L9 < 2 ^ 31) (hi : i9 + 6 < L9) (hk : K9 ≤ 600000 ∧ N9 ≤ 7302250) (h : INV zwr ztn zlw zrz zpn zpw zhi zrg zpg zhp zph zR0 zR1 zR2 zR3 zkf zmf zlf zcf zsf ztf zP0 zP1 zP2 zP3 zpk zpm zpv zpc zps zpt ztp zcd zen zso znz zgs zin ziw zig zih zsk zmc zms zmt zco zbg zos zoc zss zsz zit TT) (kk : LH X K9 N9 b9 i9 cI cM cW cS zad zq zqc zqs zqe zsh zra zem 1764) : X K9 N9 (CWo cI cM cW cS zad zq zqc zqs zqe zsh zra id zwr ztn zlw zrz zpn zpw zhi zrg zpg zhp zph zR0 zR1 zR2 zR3 zkf zmf zlf zcf zsf ztf zP0 zP1 zP2 zP3 zpk zpm zpv zpc zps zpt ztp zcd zen zso znz zgs Y ++ MW cI zem zwr ztn zlw zrz zin ziw zhi zrg zig zhp zih zsk zkf zmf zlf zmc zms zmt ztp zco zbg zos zoc zss zsz zit V) [(0, .ref b9), (1, .ref (zad 0)), (2, .ref (zem 0)), (3, .int (nI i9))] 296 [] := by
  obtain ⟨⟨l1, l2, l3, l4, l5, l6, l7, l8, l9⟩, h2, h3, h4, h5, h6, h7, h8⟩ := id h
  refine x_aload_n C9 dL_law_296 1 rfl ?_
  refine x_arg C9 hL 1 (by omega) (by decide) dL_law_297 dL_law_298 dL_law_299 dL_law_300 dL_law_301 ?_
  refine k7_count C9 (xs9 (i9 + 1)) dL_law_302 hk (Nat.le_of_ble_eq_true rfl) (fun r e7 => ?_)
  subst e7
  refine x_swap C9 ?_
  refine x_aload_n C9 dL_law_305 2 rfl ?_
  refine x_arg C9 hL 1 (by omega) (by decide) dL_law_306 dL_law_307 dL_law_308 dL_law_309 dL_law_310 ?_
  refine k8_count C9 (xs9 (i9 + 1)) dL_law_311 hk (Nat.le_of_ble_eq_true rfl) (fun r8 e8 => ?_)
  subst e8
  refine x_swap C9 ?_
  refine x_icmp_eq C9 dL_law_314 (tgt := 1764) rfl (fun _ => ?_) (fun q9 => absurd (rfl) q9)
  exact kk (h)
set_option maxHeartbeats 4000000 in
set_option maxRecDepth 100000 in
theorem L_feed (C9 : rC X l cL_law 4 RL room_1 D9 (tY cI cM cW cS) (zLw adK adV fm b9 L9 xs9) false) (hL : L9 < 2 ^ 31) (hi : i9 + 6 < L9) (hk : K9 ≤ 600000 ∧ N9 ≤ 7302250) (h : INV zwr ztn zlw zrz zpn zpw zhi zrg zpg zhp zph zR0 zR1 zR2 zR3 zkf zmf zlf zcf zsf ztf zP0 zP1 zP2 zP3 zpk zpm zpv zpc zps zpt ztp zcd zen zso znz zgs zin ziw zig zih zsk zmc zms zmt zco zbg zos zoc zss zsz zit TT) (kk : LH X K9 N9 b9 i9 cI cM cW cS zad zq zqc zqs zqe zsh zra zem 1764) : X K9 N9 (CWo cI cM cW cS zad zq zqc zqs zqe zsh zra id zwr ztn zlw zrz zpn zpw zhi zrg zpg zhp zph zR0 zR1 zR2 zR3 zkf zmf zlf zcf zsf ztf zP0 zP1 zP2 zP3 zpk zpm zpv zpc zps zpt ztp zcd zen zso znz zgs Y ++ MW cI zem zwr ztn zlw zrz zin ziw zhi zrg zig zhp zih zsk zkf zmf zlf zmc zms zmt ztp zco zbg zos zoc zss zsz zit V) [(0, .ref b9), (1, .ref (zad 0)), (2, .ref (zem 0)), (3, .int (nI i9))] 319 [] := by
  obtain ⟨⟨l1, l2, l3, l4, l5, l6, l7, l8, l9⟩, h2, h3, h4, h5, h6, h7, h8⟩ := id h
  refine x_aload_n C9 dL_law_319 1 rfl ?_
  refine x_arg C9 hL 1 (by omega) (by decide) dL_law_320 dL_law_321 dL_law_322 dL_law_323 dL_law_324 ?_
  refine x_arg C9 hL 2 (by omega) (by decide) dL_law_325 dL_law_326 dL_law_327 dL_law_328 dL_law_329 ?_
  refine x_arg C9 hL 3 (by omega) (by decide) dL_law_330 dL_law_331 dL_law_332 dL_law_333 dL_law_334 ?_
  refine x_arg C9 hL 4 (by omega) (by decide) dL_law_335 dL_law_336 dL_law_337 dL_law_338 dL_law_339 ?_
  refine x_arg C9 hL 5 (by omega) (by decide) dL_law_340 dL_law_341 dL_law_342 dL_law_343 dL_law_344 ?_
  refine x_arg6 C9 hL hi dL_law_345 dL_law_346 dL_law_347 dL_law_349 dL_law_350 ?_
  refine k7_feed C9 (xs9 (i9 + 1)) (xs9 (i9 + 2)) (xs9 (i9 + 3)) (xs9 (i9 + 4)) (xs9 (i9 + 5)) (xs9 (i9 + 6)) h2 dL_law_351 hk (Nat.le_of_ble_eq_true rfl) (fun r z1 f1 e7 => ?_)
  obtain ⟨rfl, e7_0⟩ := Prod.mk.inj e7
  obtain ⟨rfl, e7_1⟩ := Prod.mk.inj e7_0
  subst e7_1
  refine x_swap C9 ?_
  refine x_aload_n C9 dL_law_354 2 rfl ?_
  refine x_arg C9 hL 1 (by omega) (by decide) dL_law_355 dL_law_356 dL_law_357 dL_law_358 dL_law_359 ?_
  refine x_arg C9 hL 2 (by omega) (by decide) dL_law_360 dL_law_361 dL_law_362 dL_law_363 dL_law_364 ?_
  refine x_arg C9 hL 3 (by omega) (by decide) dL_law_365 dL_law_366 dL_law_367 dL_law_368 dL_law_369 ?_
  refine x_arg C9 hL 4 (by omega) (by decide) dL_law_370 dL_law_371 dL_law_372 dL_law_373 dL_law_374 ?_
  refine x_arg C9 hL 5 (by omega) (by decide) dL_law_375 dL_law_376 dL_law_377 dL_law_378 dL_law_379 ?_
  refine x_arg6 C9 hL hi dL_law_380 dL_law_381 dL_law_382 dL_law_384 dL_law_385 ?_
  refine k8_feed C9 (xs9 (i9 + 1)) (xs9 (i9 + 2)) (xs9 (i9 + 3)) (xs9 (i9 + 4)) (xs9 (i9 + 5)) (xs9 (i9 + 6)) h2 dL_law_386 hk (Nat.le_of_ble_eq_true rfl) (fun r8 z8 f8 e8 => ?_)
  obtain ⟨rfl, e8_0⟩ := Prod.mk.inj e8
  obtain ⟨rfl, e8_1⟩ := Prod.mk.inj e8_0
  subst e8_1
  refine x_swap C9 ?_
  refine x_icmp_eq C9 dL_law_389 (tgt := 1764) rfl (fun _ => ?_) (fun q9 => absurd (rfl) q9)
  exact kk (I_feed h (xs9 (i9 + 1)) (xs9 (i9 + 2)) (xs9 (i9 + 3)) (xs9 (i9 + 4)) (xs9 (i9 + 5)) (xs9 (i9 + 6)))
set_option maxHeartbeats 4000000 in
set_option maxRecDepth 100000 in
theorem L_force (C9 : rC X l cL_law 4 RL room_1 D9 (tY cI cM cW cS) (zLw adK adV fm b9 L9 xs9) false) (hL : L9 < 2 ^ 31) (hi : i9 + 6 < L9) (hk : K9 ≤ 600000 ∧ N9 ≤ 7302250) (h : INV zwr ztn zlw zrz zpn zpw zhi zrg zpg zhp zph zR0 zR1 zR2 zR3 zkf zmf zlf zcf zsf ztf zP0 zP1 zP2 zP3 zpk zpm zpv zpc zps zpt ztp zcd zen zso znz zgs zin ziw zig zih zsk zmc zms zmt zco zbg zos zoc zss zsz zit TT) (kk : LH X K9 N9 b9 i9 cI cM cW cS zad zq zqc zqs zqe zsh zra zem 1764) : X K9 N9 (CWo cI cM cW cS zad zq zqc zqs zqe zsh zra id zwr ztn zlw zrz zpn zpw zhi zrg zpg zhp zph zR0 zR1 zR2 zR3 zkf zmf zlf zcf zsf ztf zP0 zP1 zP2 zP3 zpk zpm zpv zpc zps zpt ztp zcd zen zso znz zgs Y ++ MW cI zem zwr ztn zlw zrz zin ziw zhi zrg zig zhp zih zsk zkf zmf zlf zmc zms zmt ztp zco zbg zos zoc zss zsz zit V) [(0, .ref b9), (1, .ref (zad 0)), (2, .ref (zem 0)), (3, .int (nI i9))] 407 [] := by
  obtain ⟨⟨l1, l2, l3, l4, l5, l6, l7, l8, l9⟩, h2, h3, h4, h5, h6, h7, h8⟩ := id h
  refine x_aload_n C9 dL_law_407 1 rfl ?_
  refine x_arg C9 hL 1 (by omega) (by decide) dL_law_408 dL_law_409 dL_law_410 dL_law_411 dL_law_412 ?_
  refine k7_force C9 (xs9 (i9 + 1)) (by omega) l2.2 dL_law_413 hk (Nat.le_of_ble_eq_true rfl) (fun r z1 e7 => ?_)
  obtain ⟨rfl, e7_0⟩ := Prod.mk.inj e7
  subst e7_0
  refine x_swap C9 ?_
  refine x_aload_n C9 dL_law_416 2 rfl ?_
  refine x_arg C9 hL 1 (by omega) (by decide) dL_law_417 dL_law_418 dL_law_419 dL_law_420 dL_law_421 ?_
  refine k8_force C9 (xs9 (i9 + 1)) (by omega) l2.2 dL_law_422 hk (Nat.le_of_ble_eq_true rfl) (fun r8 z8 e8 => ?_)
  obtain ⟨rfl, e8_0⟩ := Prod.mk.inj e8
  subst e8_0
  refine x_swap C9 ?_
  refine x_icmp_eq C9 dL_law_425 (tgt := 1764) rfl (fun _ => ?_) (fun q9 => absurd (rfl) q9)
  exact kk (I_force h (xs9 (i9 + 1)))
set_option maxHeartbeats 4000000 in
set_option maxRecDepth 100000 in
theorem L_lay (C9 : rC X l cL_law 4 RL room_1 D9 (tY cI cM cW cS) (zLw adK adV fm b9 L9 xs9) false) (hL : L9 < 2 ^ 31) (hi : i9 + 6 < L9) (hk : K9 ≤ 600000 ∧ N9 ≤ 7302250) (h : INV zwr ztn zlw zrz zpn zpw zhi zrg zpg zhp zph zR0 zR1 zR2 zR3 zkf zmf zlf zcf zsf ztf zP0 zP1 zP2 zP3 zpk zpm zpv zpc zps zpt ztp zcd zen zso znz zgs zin ziw zig zih zsk zmc zms zmt zco zbg zos zoc zss zsz zit TT) (kk : LH X K9 N9 b9 i9 cI cM cW cS zad zq zqc zqs zqe zsh zra zem 1764) : X K9 N9 (CWo cI cM cW cS zad zq zqc zqs zqe zsh zra id zwr ztn zlw zrz zpn zpw zhi zrg zpg zhp zph zR0 zR1 zR2 zR3 zkf zmf zlf zcf zsf ztf zP0 zP1 zP2 zP3 zpk zpm zpv zpc zps zpt ztp zcd zen zso znz zgs Y ++ MW cI zem zwr ztn zlw zrz zin ziw zhi zrg zig zhp zih zsk zkf zmf zlf zmc zms zmt ztp zco zbg zos zoc zss zsz zit V) [(0, .ref b9), (1, .ref (zad 0)), (2, .ref (zem 0)), (3, .int (nI i9))] 493 [] := by
  obtain ⟨⟨l1, l2, l3, l4, l5, l6, l7, l8, l9⟩, h2, h3, h4, h5, h6, h7, h8⟩ := id h
  refine x_aload_n C9 dL_law_493 1 rfl ?_
  refine x_arg C9 hL 1 (by omega) (by decide) dL_law_494 dL_law_495 dL_law_496 dL_law_497 dL_law_498 ?_
  refine x_arg C9 hL 2 (by omega) (by decide) dL_law_499 dL_law_500 dL_law_501 dL_law_502 dL_law_503 ?_
  refine x_arg C9 hL 3 (by omega) (by decide) dL_law_504 dL_law_505 dL_law_506 dL_law_507 dL_law_508 ?_
  refine k7_lay C9 (xs9 (i9 + 1)) (xs9 (i9 + 2)) (xs9 (i9 + 3)) dL_law_509 hk (Nat.le_of_ble_eq_true rfl) (fun r a0 a1 e7 => ?_)
  obtain ⟨rfl, e7_0⟩ := Prod.mk.inj e7
  obtain ⟨rfl, e7_1⟩ := Prod.mk.inj e7_0
  subst e7_1
  refine x_swap C9 ?_
  refine x_aload_n C9 dL_law_512 2 rfl ?_
  refine x_arg C9 hL 1 (by omega) (by decide) dL_law_513 dL_law_514 dL_law_515 dL_law_516 dL_law_517 ?_
  refine x_arg C9 hL 2 (by omega) (by decide) dL_law_518 dL_law_519 dL_law_520 dL_law_521 dL_law_522 ?_
  refine x_arg C9 hL 3 (by omega) (by decide) dL_law_523 dL_law_524 dL_law_525 dL_law_526 dL_law_527 ?_
  refine k8_lay C9 (xs9 (i9 + 1)) (xs9 (i9 + 2)) (xs9 (i9 + 3)) dL_law_528 hk (Nat.le_of_ble_eq_true rfl) (fun r8 b0 b1 e8 => ?_)
  obtain ⟨rfl, e8_0⟩ := Prod.mk.inj e8
  obtain ⟨rfl, e8_1⟩ := Prod.mk.inj e8_0
  subst e8_1
  refine x_swap C9 ?_
  refine x_icmp_eq C9 dL_law_531 (tgt := 1764) rfl (fun _ => ?_) (fun q9 => absurd (rfl) q9)
  exact kk (I_lay h (xs9 (i9 + 1)) (xs9 (i9 + 2)) (xs9 (i9 + 3)))
set_option maxHeartbeats 4000000 in
set_option maxRecDepth 100000 in
theorem L_plot (C9 : rC X l cL_law 4 RL room_1 D9 (tY cI cM cW cS) (zLw adK adV fm b9 L9 xs9) false) (hL : L9 < 2 ^ 31) (hi : i9 + 6 < L9) (hk : K9 ≤ 600000 ∧ N9 ≤ 7302250) (h : INV zwr ztn zlw zrz zpn zpw zhi zrg zpg zhp zph zR0 zR1 zR2 zR3 zkf zmf zlf zcf zsf ztf zP0 zP1 zP2 zP3 zpk zpm zpv zpc zps zpt ztp zcd zen zso znz zgs zin ziw zig zih zsk zmc zms zmt zco zbg zos zoc zss zsz zit TT) (kk : LH X K9 N9 b9 i9 cI cM cW cS zad zq zqc zqs zqe zsh zra zem 1764) : X K9 N9 (CWo cI cM cW cS zad zq zqc zqs zqe zsh zra id zwr ztn zlw zrz zpn zpw zhi zrg zpg zhp zph zR0 zR1 zR2 zR3 zkf zmf zlf zcf zsf ztf zP0 zP1 zP2 zP3 zpk zpm zpv zpc zps zpt ztp zcd zen zso znz zgs Y ++ MW cI zem zwr ztn zlw zrz zin ziw zhi zrg zig zhp zih zsk zkf zmf zlf zmc zms zmt ztp zco zbg zos zoc zss zsz zit V) [(0, .ref b9), (1, .ref (zad 0)), (2, .ref (zem 0)), (3, .int (nI i9))] 536 [] := by
  obtain ⟨⟨l1, l2, l3, l4, l5, l6, l7, l8, l9⟩, h2, h3, h4, h5, h6, h7, h8⟩ := id h
  refine x_aload_n C9 dL_law_536 1 rfl ?_
  refine x_arg C9 hL 1 (by omega) (by decide) dL_law_537 dL_law_538 dL_law_539 dL_law_540 dL_law_541 ?_
  refine x_arg C9 hL 2 (by omega) (by decide) dL_law_542 dL_law_543 dL_law_544 dL_law_545 dL_law_546 ?_
  refine x_arg C9 hL 3 (by omega) (by decide) dL_law_547 dL_law_548 dL_law_549 dL_law_550 dL_law_551 ?_
  refine x_arg C9 hL 4 (by omega) (by decide) dL_law_552 dL_law_553 dL_law_554 dL_law_555 dL_law_556 ?_
  refine k7_plot C9 (xs9 (i9 + 1)) (xs9 (i9 + 2)) (xs9 (i9 + 3)) (xs9 (i9 + 4)) dL_law_557 hk (Nat.le_of_ble_eq_true rfl) (fun r a0 a1 e7 => ?_)
  obtain ⟨rfl, e7_0⟩ := Prod.mk.inj e7
  obtain ⟨rfl, e7_1⟩ := Prod.mk.inj e7_0
  subst e7_1
  refine x_swap C9 ?_
  refine x_aload_n C9 dL_law_560 2 rfl ?_
  refine x_arg C9 hL 1 (by omega) (by decide) dL_law_561 dL_law_562 dL_law_563 dL_law_564 dL_law_565 ?_
  refine x_arg C9 hL 2 (by omega) (by decide) dL_law_566 dL_law_567 dL_law_568 dL_law_569 dL_law_570 ?_
  refine x_arg C9 hL 3 (by omega) (by decide) dL_law_571 dL_law_572 dL_law_573 dL_law_574 dL_law_575 ?_
  refine x_arg C9 hL 4 (by omega) (by decide) dL_law_576 dL_law_577 dL_law_578 dL_law_579 dL_law_580 ?_
  refine k8_plot C9 (xs9 (i9 + 1)) (xs9 (i9 + 2)) (xs9 (i9 + 3)) (xs9 (i9 + 4)) dL_law_581 hk (Nat.le_of_ble_eq_true rfl) (fun r8 b0 b1 e8 => ?_)
  obtain ⟨rfl, e8_0⟩ := Prod.mk.inj e8
  obtain ⟨rfl, e8_1⟩ := Prod.mk.inj e8_0
  subst e8_1
  refine x_swap C9 ?_
  refine x_icmp_eq C9 dL_law_584 (tgt := 1764) rfl (fun _ => ?_) (fun q9 => absurd (rfl) q9)
  exact kk (I_plot h (xs9 (i9 + 1)) (xs9 (i9 + 2)) (xs9 (i9 + 3)) (xs9 (i9 + 4)))
set_option maxHeartbeats 4000000 in
set_option maxRecDepth 100000 in
theorem L_cellTold (C9 : rC X l cL_law 4 RL room_1 D9 (tY cI cM cW cS) (zLw adK adV fm b9 L9 xs9) false) (hL : L9 < 2 ^ 31) (hi : i9 + 6 < L9) (hk : K9 ≤ 600000 ∧ N9 ≤ 7302250) (h : INV zwr ztn zlw zrz zpn zpw zhi zrg zpg zhp zph zR0 zR1 zR2 zR3 zkf zmf zlf zcf zsf ztf zP0 zP1 zP2 zP3 zpk zpm zpv zpc zps zpt ztp zcd zen zso znz zgs zin ziw zig zih zsk zmc zms zmt zco zbg zos zoc zss zsz zit TT) (kk : LH X K9 N9 b9 i9 cI cM cW cS zad zq zqc zqs zqe zsh zra zem 1764) : X K9 N9 (CWo cI cM cW cS zad zq zqc zqs zqe zsh zra id zwr ztn zlw zrz zpn zpw zhi zrg zpg zhp zph zR0 zR1 zR2 zR3 zkf zmf zlf zcf zsf ztf zP0 zP1 zP2 zP3 zpk zpm zpv zpc zps zpt ztp zcd zen zso znz zgs Y ++ MW cI zem zwr ztn zlw zrz zin ziw zhi zrg zig zhp zih zsk zkf zmf zlf zmc zms zmt ztp zco zbg zos zoc zss zsz zit V) [(0, .ref b9), (1, .ref (zad 0)), (2, .ref (zem 0)), (3, .int (nI i9))] 589 [] := by
  obtain ⟨⟨l1, l2, l3, l4, l5, l6, l7, l8, l9⟩, h2, h3, h4, h5, h6, h7, h8⟩ := id h
  refine x_aload_n C9 dL_law_589 1 rfl ?_
  refine x_arg C9 hL 1 (by omega) (by decide) dL_law_590 dL_law_591 dL_law_592 dL_law_593 dL_law_594 ?_
  refine x_arg C9 hL 2 (by omega) (by decide) dL_law_595 dL_law_596 dL_law_597 dL_law_598 dL_law_599 ?_
  refine k7_cellTold C9 (xs9 (i9 + 1)) (xs9 (i9 + 2)) dL_law_600 hk (Nat.le_of_ble_eq_true rfl) (fun r e7 => ?_)
  subst e7
  refine x_swap C9 ?_
  refine x_aload_n C9 dL_law_603 2 rfl ?_
  refine x_arg C9 hL 1 (by omega) (by decide) dL_law_604 dL_law_605 dL_law_606 dL_law_607 dL_law_608 ?_
  refine x_arg C9 hL 2 (by omega) (by decide) dL_law_609 dL_law_610 dL_law_611 dL_law_612 dL_law_613 ?_
  refine k8_cellTold C9 (xs9 (i9 + 1)) (xs9 (i9 + 2)) dL_law_614 hk (Nat.le_of_ble_eq_true rfl) (fun r8 e8 => ?_)
  subst e8
  refine x_swap C9 ?_
  refine x_icmp_eq C9 dL_law_617 (tgt := 1764) rfl (fun _ => ?_) (fun q9 => absurd (rfl) q9)
  exact kk (h)
set_option maxHeartbeats 4000000 in
set_option maxRecDepth 100000 in
theorem L_tree (C9 : rC X l cL_law 4 RL room_1 D9 (tY cI cM cW cS) (zLw adK adV fm b9 L9 xs9) false) (hL : L9 < 2 ^ 31) (hi : i9 + 6 < L9) (hk : K9 ≤ 600000 ∧ N9 ≤ 7302250) (h : INV zwr ztn zlw zrz zpn zpw zhi zrg zpg zhp zph zR0 zR1 zR2 zR3 zkf zmf zlf zcf zsf ztf zP0 zP1 zP2 zP3 zpk zpm zpv zpc zps zpt ztp zcd zen zso znz zgs zin ziw zig zih zsk zmc zms zmt zco zbg zos zoc zss zsz zit TT) (kk : LH X K9 N9 b9 i9 cI cM cW cS zad zq zqc zqs zqe zsh zra zem 1764) : X K9 N9 (CWo cI cM cW cS zad zq zqc zqs zqe zsh zra id zwr ztn zlw zrz zpn zpw zhi zrg zpg zhp zph zR0 zR1 zR2 zR3 zkf zmf zlf zcf zsf ztf zP0 zP1 zP2 zP3 zpk zpm zpv zpc zps zpt ztp zcd zen zso znz zgs Y ++ MW cI zem zwr ztn zlw zrz zin ziw zhi zrg zig zhp zih zsk zkf zmf zlf zmc zms zmt ztp zco zbg zos zoc zss zsz zit V) [(0, .ref b9), (1, .ref (zad 0)), (2, .ref (zem 0)), (3, .int (nI i9))] 622 [] := by
  obtain ⟨⟨l1, l2, l3, l4, l5, l6, l7, l8, l9⟩, h2, h3, h4, h5, h6, h7, h8⟩ := id h
  refine x_aload_n C9 dL_law_622 1 rfl ?_
  refine x_arg C9 hL 1 (by omega) (by decide) dL_law_623 dL_law_624 dL_law_625 dL_law_626 dL_law_627 ?_
  refine x_arg C9 hL 2 (by omega) (by decide) dL_law_628 dL_law_629 dL_law_630 dL_law_631 dL_law_632 ?_
  refine x_arg C9 hL 3 (by omega) (by decide) dL_law_633 dL_law_634 dL_law_635 dL_law_636 dL_law_637 ?_
  refine k7_tree C9 (xs9 (i9 + 1)) (xs9 (i9 + 2)) (xs9 (i9 + 3)) l1 dL_law_638 hk (Nat.le_of_ble_eq_true rfl) (fun r n1 a0 a1 a2 e7 => ?_)
  obtain ⟨rfl, e7_0⟩ := Prod.mk.inj e7
  obtain ⟨rfl, e7_1⟩ := Prod.mk.inj e7_0
  obtain ⟨rfl, e7_2⟩ := Prod.mk.inj e7_1
  obtain ⟨rfl, e7_3⟩ := Prod.mk.inj e7_2
  subst e7_3
  refine x_swap C9 ?_
  refine x_aload_n C9 dL_law_641 2 rfl ?_
  refine x_arg C9 hL 1 (by omega) (by decide) dL_law_642 dL_law_643 dL_law_644 dL_law_645 dL_law_646 ?_
  refine x_arg C9 hL 2 (by omega) (by decide) dL_law_647 dL_law_648 dL_law_649 dL_law_650 dL_law_651 ?_
  refine x_arg C9 hL 3 (by omega) (by decide) dL_law_652 dL_law_653 dL_law_654 dL_law_655 dL_law_656 ?_
  refine k8_tree C9 (xs9 (i9 + 1)) (xs9 (i9 + 2)) (xs9 (i9 + 3)) l1 dL_law_657 hk (Nat.le_of_ble_eq_true rfl) (fun r8 n8 b0 b1 b2 e8 => ?_)
  obtain ⟨rfl, e8_0⟩ := Prod.mk.inj e8
  obtain ⟨rfl, e8_1⟩ := Prod.mk.inj e8_0
  obtain ⟨rfl, e8_2⟩ := Prod.mk.inj e8_1
  obtain ⟨rfl, e8_3⟩ := Prod.mk.inj e8_2
  subst e8_3
  refine x_swap C9 ?_
  refine x_icmp_eq C9 dL_law_660 (tgt := 1764) rfl (fun _ => ?_) (fun q9 => absurd (rfl) q9)
  exact kk (I_tree h (xs9 (i9 + 1)) (xs9 (i9 + 2)) (xs9 (i9 + 3)))
set_option maxHeartbeats 4000000 in
set_option maxRecDepth 100000 in
theorem L_treeTold (C9 : rC X l cL_law 4 RL room_1 D9 (tY cI cM cW cS) (zLw adK adV fm b9 L9 xs9) false) (hL : L9 < 2 ^ 31) (hi : i9 + 6 < L9) (hk : K9 ≤ 600000 ∧ N9 ≤ 7302250) (h : INV zwr ztn zlw zrz zpn zpw zhi zrg zpg zhp zph zR0 zR1 zR2 zR3 zkf zmf zlf zcf zsf ztf zP0 zP1 zP2 zP3 zpk zpm zpv zpc zps zpt ztp zcd zen zso znz zgs zin ziw zig zih zsk zmc zms zmt zco zbg zos zoc zss zsz zit TT) (kk : LH X K9 N9 b9 i9 cI cM cW cS zad zq zqc zqs zqe zsh zra zem 1764) : X K9 N9 (CWo cI cM cW cS zad zq zqc zqs zqe zsh zra id zwr ztn zlw zrz zpn zpw zhi zrg zpg zhp zph zR0 zR1 zR2 zR3 zkf zmf zlf zcf zsf ztf zP0 zP1 zP2 zP3 zpk zpm zpv zpc zps zpt ztp zcd zen zso znz zgs Y ++ MW cI zem zwr ztn zlw zrz zin ziw zhi zrg zig zhp zih zsk zkf zmf zlf zmc zms zmt ztp zco zbg zos zoc zss zsz zit V) [(0, .ref b9), (1, .ref (zad 0)), (2, .ref (zem 0)), (3, .int (nI i9))] 665 [] := by
  obtain ⟨⟨l1, l2, l3, l4, l5, l6, l7, l8, l9⟩, h2, h3, h4, h5, h6, h7, h8⟩ := id h
  refine x_aload_n C9 dL_law_665 1 rfl ?_
  refine x_arg C9 hL 1 (by omega) (by decide) dL_law_666 dL_law_667 dL_law_668 dL_law_669 dL_law_670 ?_
  refine x_arg C9 hL 2 (by omega) (by decide) dL_law_671 dL_law_672 dL_law_673 dL_law_674 dL_law_675 ?_
  refine k7_treeTold C9 (xs9 (i9 + 1)) (xs9 (i9 + 2)) l1 dL_law_676 hk (Nat.le_of_ble_eq_true rfl) (fun r e7 => ?_)
  subst e7
  refine x_swap C9 ?_
  refine x_aload_n C9 dL_law_679 2 rfl ?_
  refine x_arg C9 hL 1 (by omega) (by decide) dL_law_680 dL_law_681 dL_law_682 dL_law_683 dL_law_684 ?_
  refine x_arg C9 hL 2 (by omega) (by decide) dL_law_685 dL_law_686 dL_law_687 dL_law_688 dL_law_689 ?_
  refine k8_treeTold C9 (xs9 (i9 + 1)) (xs9 (i9 + 2)) l1 dL_law_690 hk (Nat.le_of_ble_eq_true rfl) (fun r8 e8 => ?_)
  subst e8
  refine x_swap C9 ?_
  refine x_icmp_eq C9 dL_law_693 (tgt := 1764) rfl (fun _ => ?_) (fun q9 => absurd (g_treeTold l1 h4 _ _) q9)
  exact kk (h)
set_option maxHeartbeats 4000000 in
set_option maxRecDepth 100000 in
theorem L_fell (C9 : rC X l cL_law 4 RL room_1 D9 (tY cI cM cW cS) (zLw adK adV fm b9 L9 xs9) false) (hL : L9 < 2 ^ 31) (hi : i9 + 6 < L9) (hk : K9 ≤ 600000 ∧ N9 ≤ 7302250) (h : INV zwr ztn zlw zrz zpn zpw zhi zrg zpg zhp zph zR0 zR1 zR2 zR3 zkf zmf zlf zcf zsf ztf zP0 zP1 zP2 zP3 zpk zpm zpv zpc zps zpt ztp zcd zen zso znz zgs zin ziw zig zih zsk zmc zms zmt zco zbg zos zoc zss zsz zit TT) (kk : LH X K9 N9 b9 i9 cI cM cW cS zad zq zqc zqs zqe zsh zra zem 1764) : X K9 N9 (CWo cI cM cW cS zad zq zqc zqs zqe zsh zra id zwr ztn zlw zrz zpn zpw zhi zrg zpg zhp zph zR0 zR1 zR2 zR3 zkf zmf zlf zcf zsf ztf zP0 zP1 zP2 zP3 zpk zpm zpv zpc zps zpt ztp zcd zen zso znz zgs Y ++ MW cI zem zwr ztn zlw zrz zin ziw zhi zrg zig zhp zih zsk zkf zmf zlf zmc zms zmt ztp zco zbg zos zoc zss zsz zit V) [(0, .ref b9), (1, .ref (zad 0)), (2, .ref (zem 0)), (3, .int (nI i9))] 698 [] := by
  obtain ⟨⟨l1, l2, l3, l4, l5, l6, l7, l8, l9⟩, h2, h3, h4, h5, h6, h7, h8⟩ := id h
  refine x_aload_n C9 dL_law_698 1 rfl ?_
  refine k7_fell C9 l1 h5.1 dL_law_699 hk (Nat.le_of_ble_eq_true rfl) (fun r n1 h1 e7 => ?_)
  obtain ⟨rfl, e7_0⟩ := Prod.mk.inj e7
  obtain ⟨rfl, e7_1⟩ := Prod.mk.inj e7_0
  subst e7_1
  refine x_swap C9 ?_
  refine x_aload_n C9 dL_law_702 2 rfl ?_
  refine k8_fell C9 l1 h5.2 dL_law_703 hk (Nat.le_of_ble_eq_true rfl) (fun r8 n8 h8x e8 => ?_)
  rw [I_fellh h] at e8
  obtain ⟨rfl, e8_0⟩ := Prod.mk.inj e8
  obtain ⟨rfl, e8_1⟩ := Prod.mk.inj e8_0
  subst e8_1
  refine x_swap C9 ?_
  refine x_icmp_eq C9 dL_law_706 (tgt := 1764) rfl (fun _ => ?_) (fun q9 => absurd (rfl) q9)
  exact kk (I_fell h)
set_option maxHeartbeats 4000000 in
set_option maxRecDepth 100000 in
theorem L_strew (C9 : rC X l cL_law 4 RL room_1 D9 (tY cI cM cW cS) (zLw adK adV fm b9 L9 xs9) false) (hL : L9 < 2 ^ 31) (hi : i9 + 6 < L9) (hk : K9 ≤ 600000 ∧ N9 ≤ 7302250) (h : INV zwr ztn zlw zrz zpn zpw zhi zrg zpg zhp zph zR0 zR1 zR2 zR3 zkf zmf zlf zcf zsf ztf zP0 zP1 zP2 zP3 zpk zpm zpv zpc zps zpt ztp zcd zen zso znz zgs zin ziw zig zih zsk zmc zms zmt zco zbg zos zoc zss zsz zit TT) (kk : LH X K9 N9 b9 i9 cI cM cW cS zad zq zqc zqs zqe zsh zra zem 1764) : X K9 N9 (CWo cI cM cW cS zad zq zqc zqs zqe zsh zra id zwr ztn zlw zrz zpn zpw zhi zrg zpg zhp zph zR0 zR1 zR2 zR3 zkf zmf zlf zcf zsf ztf zP0 zP1 zP2 zP3 zpk zpm zpv zpc zps zpt ztp zcd zen zso znz zgs Y ++ MW cI zem zwr ztn zlw zrz zin ziw zhi zrg zig zhp zih zsk zkf zmf zlf zmc zms zmt ztp zco zbg zos zoc zss zsz zit V) [(0, .ref b9), (1, .ref (zad 0)), (2, .ref (zem 0)), (3, .int (nI i9))] 711 [] := by
  obtain ⟨⟨l1, l2, l3, l4, l5, l6, l7, l8, l9⟩, h2, h3, h4, h5, h6, h7, h8⟩ := id h
  refine x_aload_n C9 dL_law_711 1 rfl ?_
  refine x_arg C9 hL 1 (by omega) (by decide) dL_law_712 dL_law_713 dL_law_714 dL_law_715 dL_law_716 ?_
  refine x_arg C9 hL 2 (by omega) (by decide) dL_law_717 dL_law_718 dL_law_719 dL_law_720 dL_law_721 ?_
  refine k7_strew C9 (xs9 (i9 + 1)) (xs9 (i9 + 2)) dL_law_722 hk (Nat.le_of_ble_eq_true rfl) (fun r f1 e7 => ?_)
  obtain ⟨rfl, e7_0⟩ := Prod.mk.inj e7
  subst e7_0
  refine x_swap C9 ?_
  refine x_aload_n C9 dL_law_725 2 rfl ?_
  refine x_arg C9 hL 1 (by omega) (by decide) dL_law_726 dL_law_727 dL_law_728 dL_law_729 dL_law_730 ?_
  refine x_arg C9 hL 2 (by omega) (by decide) dL_law_731 dL_law_732 dL_law_733 dL_law_734 dL_law_735 ?_
  refine k8_strew C9 (xs9 (i9 + 1)) (xs9 (i9 + 2)) dL_law_736 hk (Nat.le_of_ble_eq_true rfl) (fun r8 f8 e8 => ?_)
  obtain ⟨rfl, e8_0⟩ := Prod.mk.inj e8
  subst e8_0
  refine x_swap C9 ?_
  refine x_icmp_eq C9 dL_law_739 (tgt := 1764) rfl (fun _ => ?_) (fun q9 => absurd (rfl) q9)
  exact kk (I_strew h (xs9 (i9 + 1)) (xs9 (i9 + 2)))
set_option maxHeartbeats 4000000 in
set_option maxRecDepth 100000 in
theorem L_rake (C9 : rC X l cL_law 4 RL room_1 D9 (tY cI cM cW cS) (zLw adK adV fm b9 L9 xs9) false) (hL : L9 < 2 ^ 31) (hi : i9 + 6 < L9) (hk : K9 ≤ 600000 ∧ N9 ≤ 7302250) (h : INV zwr ztn zlw zrz zpn zpw zhi zrg zpg zhp zph zR0 zR1 zR2 zR3 zkf zmf zlf zcf zsf ztf zP0 zP1 zP2 zP3 zpk zpm zpv zpc zps zpt ztp zcd zen zso znz zgs zin ziw zig zih zsk zmc zms zmt zco zbg zos zoc zss zsz zit TT) (kk : LH X K9 N9 b9 i9 cI cM cW cS zad zq zqc zqs zqe zsh zra zem 1764) : X K9 N9 (CWo cI cM cW cS zad zq zqc zqs zqe zsh zra id zwr ztn zlw zrz zpn zpw zhi zrg zpg zhp zph zR0 zR1 zR2 zR3 zkf zmf zlf zcf zsf ztf zP0 zP1 zP2 zP3 zpk zpm zpv zpc zps zpt ztp zcd zen zso znz zgs Y ++ MW cI zem zwr ztn zlw zrz zin ziw zhi zrg zig zhp zih zsk zkf zmf zlf zmc zms zmt ztp zco zbg zos zoc zss zsz zit V) [(0, .ref b9), (1, .ref (zad 0)), (2, .ref (zem 0)), (3, .int (nI i9))] 744 [] := by
  obtain ⟨⟨l1, l2, l3, l4, l5, l6, l7, l8, l9⟩, h2, h3, h4, h5, h6, h7, h8⟩ := id h
  refine x_aload_n C9 dL_law_744 1 rfl ?_
  refine x_arg C9 hL 1 (by omega) (by decide) dL_law_745 dL_law_746 dL_law_747 dL_law_748 dL_law_749 ?_
  refine k7_rake C9 (xs9 (i9 + 1)) dL_law_750 hk (Nat.le_of_ble_eq_true rfl) (fun r v1 e7 => ?_)
  obtain ⟨rfl, e7_0⟩ := Prod.mk.inj e7
  subst e7_0
  refine x_swap C9 ?_
  refine x_aload_n C9 dL_law_753 2 rfl ?_
  refine x_arg C9 hL 1 (by omega) (by decide) dL_law_754 dL_law_755 dL_law_756 dL_law_757 dL_law_758 ?_
  refine k8_rake C9 (xs9 (i9 + 1)) dL_law_759 hk (Nat.le_of_ble_eq_true rfl) (fun r8 v8 e8 => ?_)
  obtain ⟨rfl, e8_0⟩ := Prod.mk.inj e8
  subst e8_0
  refine x_swap C9 ?_
  refine x_icmp_eq C9 dL_law_762 (tgt := 1764) rfl (fun _ => ?_) (fun q9 => absurd (rfl) q9)
  exact kk (I_rake h _)
set_option maxHeartbeats 4000000 in
set_option maxRecDepth 100000 in
theorem L_heap (C9 : rC X l cL_law 4 RL room_1 D9 (tY cI cM cW cS) (zLw adK adV fm b9 L9 xs9) false) (hL : L9 < 2 ^ 31) (hi : i9 + 6 < L9) (hk : K9 ≤ 600000 ∧ N9 ≤ 7302250) (h : INV zwr ztn zlw zrz zpn zpw zhi zrg zpg zhp zph zR0 zR1 zR2 zR3 zkf zmf zlf zcf zsf ztf zP0 zP1 zP2 zP3 zpk zpm zpv zpc zps zpt ztp zcd zen zso znz zgs zin ziw zig zih zsk zmc zms zmt zco zbg zos zoc zss zsz zit TT) (kk : LH X K9 N9 b9 i9 cI cM cW cS zad zq zqc zqs zqe zsh zra zem 1764) : X K9 N9 (CWo cI cM cW cS zad zq zqc zqs zqe zsh zra id zwr ztn zlw zrz zpn zpw zhi zrg zpg zhp zph zR0 zR1 zR2 zR3 zkf zmf zlf zcf zsf ztf zP0 zP1 zP2 zP3 zpk zpm zpv zpc zps zpt ztp zcd zen zso znz zgs Y ++ MW cI zem zwr ztn zlw zrz zin ziw zhi zrg zig zhp zih zsk zkf zmf zlf zmc zms zmt ztp zco zbg zos zoc zss zsz zit V) [(0, .ref b9), (1, .ref (zad 0)), (2, .ref (zem 0)), (3, .int (nI i9))] 767 [] := by
  obtain ⟨⟨l1, l2, l3, l4, l5, l6, l7, l8, l9⟩, h2, h3, h4, h5, h6, h7, h8⟩ := id h
  refine x_aload_n C9 dL_law_767 1 rfl ?_
  refine x_arg C9 hL 1 (by omega) (by decide) dL_law_768 dL_law_769 dL_law_770 dL_law_771 dL_law_772 ?_
  refine x_i2l C9 dL_law_773 ?_
  refine x_bipush C9 dL_law_774 (v := 32) rfl ?_
  refine x_lshl C9 dL_law_776 ?_
  refine x_arg C9 hL 2 (by omega) (by decide) dL_law_777 dL_law_778 dL_law_779 dL_law_780 dL_law_781 ?_
  refine x_i2l C9 dL_law_782 ?_
  refine x_ldc2 C9 gw_1_6 dL_law_783 ?_
  refine x_land C9 dL_law_786 ?_
  refine x_lor C9 dL_law_787 ?_
  refine k7_heap C9 ((((xs9 (i9 + 1))).toInt64 <<< ((32 : Int32).toInt64 &&& 63)) ||| (((xs9 (i9 + 2))).toInt64 &&& (4294967295))) dL_law_788 hk (Nat.le_of_ble_eq_true rfl) (fun r v1 e7 => ?_)
  obtain ⟨rfl, e7_0⟩ := Prod.mk.inj e7
  subst e7_0
  refine x_swap C9 ?_
  refine x_aload_n C9 dL_law_791 2 rfl ?_
  refine x_arg C9 hL 1 (by omega) (by decide) dL_law_792 dL_law_793 dL_law_794 dL_law_795 dL_law_796 ?_
  refine x_i2l C9 dL_law_797 ?_
  refine x_bipush C9 dL_law_798 (v := 32) rfl ?_
  refine x_lshl C9 dL_law_800 ?_
  refine x_arg C9 hL 2 (by omega) (by decide) dL_law_801 dL_law_802 dL_law_803 dL_law_804 dL_law_805 ?_
  refine x_i2l C9 dL_law_806 ?_
  refine x_ldc2 C9 gw_1_6 dL_law_807 ?_
  refine x_land C9 dL_law_810 ?_
  refine x_lor C9 dL_law_811 ?_
  refine k8_heap C9 ((((xs9 (i9 + 1))).toInt64 <<< ((32 : Int32).toInt64 &&& 63)) ||| (((xs9 (i9 + 2))).toInt64 &&& (4294967295))) dL_law_812 hk (Nat.le_of_ble_eq_true rfl) (fun r8 v8 e8 => ?_)
  obtain ⟨rfl, e8_0⟩ := Prod.mk.inj e8
  subst e8_0
  refine x_swap C9 ?_
  refine x_lcmp C9 dL_law_815 ?_
  refine x_if_eq C9 dL_law_816 (tgt := 1764) rfl (fun _ => ?_) (fun q9 => absurd (q_lc0 (rfl)) q9)
  exact kk (I_heap h _)
set_option maxHeartbeats 4000000 in
set_option maxRecDepth 100000 in
theorem L_taken (C9 : rC X l cL_law 4 RL room_1 D9 (tY cI cM cW cS) (zLw adK adV fm b9 L9 xs9) false) (hL : L9 < 2 ^ 31) (hi : i9 + 6 < L9) (hk : K9 ≤ 600000 ∧ N9 ≤ 7302250) (h : INV zwr ztn zlw zrz zpn zpw zhi zrg zpg zhp zph zR0 zR1 zR2 zR3 zkf zmf zlf zcf zsf ztf zP0 zP1 zP2 zP3 zpk zpm zpv zpc zps zpt ztp zcd zen zso znz zgs zin ziw zig zih zsk zmc zms zmt zco zbg zos zoc zss zsz zit TT) (kk : LH X K9 N9 b9 i9 cI cM cW cS zad zq zqc zqs zqe zsh zra zem 1764) : X K9 N9 (CWo cI cM cW cS zad zq zqc zqs zqe zsh zra id zwr ztn zlw zrz zpn zpw zhi zrg zpg zhp zph zR0 zR1 zR2 zR3 zkf zmf zlf zcf zsf ztf zP0 zP1 zP2 zP3 zpk zpm zpv zpc zps zpt ztp zcd zen zso znz zgs Y ++ MW cI zem zwr ztn zlw zrz zin ziw zhi zrg zig zhp zih zsk zkf zmf zlf zmc zms zmt ztp zco zbg zos zoc zss zsz zit V) [(0, .ref b9), (1, .ref (zad 0)), (2, .ref (zem 0)), (3, .int (nI i9))] 1731 [] := by
  obtain ⟨⟨l1, l2, l3, l4, l5, l6, l7, l8, l9⟩, h2, h3, h4, h5, h6, h7, h8⟩ := id h
  refine x_aload_n C9 dL_law_1731 1 rfl ?_
  refine x_arg C9 hL 1 (by omega) (by decide) dL_law_1732 dL_law_1733 dL_law_1734 dL_law_1735 dL_law_1736 ?_
  refine x_arg C9 hL 2 (by omega) (by decide) dL_law_1737 dL_law_1738 dL_law_1739 dL_law_1740 dL_law_1741 ?_
  refine k7_taken C9 (xs9 (i9 + 1)) (xs9 (i9 + 2)) l1 dL_law_1742 hk (Nat.le_of_ble_eq_true rfl) (fun r e7 => ?_)
  subst e7
  refine x_swap C9 ?_
  refine x_aload_n C9 dL_law_1745 2 rfl ?_
  refine x_arg C9 hL 1 (by omega) (by decide) dL_law_1746 dL_law_1747 dL_law_1748 dL_law_1749 dL_law_1750 ?_
  refine x_arg C9 hL 2 (by omega) (by decide) dL_law_1751 dL_law_1752 dL_law_1753 dL_law_1754 dL_law_1755 ?_
  refine k8_taken C9 (xs9 (i9 + 1)) (xs9 (i9 + 2)) l1 l4 dL_law_1756 hk (Nat.le_of_ble_eq_true rfl) (fun r8 e8 => ?_)
  subst e8
  refine x_swap C9 ?_
  refine x_icmp_eq C9 dL_law_1759 (tgt := 1764) rfl (fun _ => ?_) (fun q9 => absurd (g_taken l1 (fun t ht => (h4 t ht).2.2) _ _) q9)
  exact kk (h)
set_option maxHeartbeats 4000000 in
set_option maxRecDepth 100000 in
theorem L_image (C9 : rC X l cL_law 4 RL room_1 D9 (tY cI cM cW cS) (zLw adK adV fm b9 L9 xs9) false) (hL : L9 < 2 ^ 31) (hi : i9 + 6 < L9) (hk : K9 ≤ 600000 ∧ N9 ≤ 7302250) (h : INV zwr ztn zlw zrz zpn zpw zhi zrg zpg zhp zph zR0 zR1 zR2 zR3 zkf zmf zlf zcf zsf ztf zP0 zP1 zP2 zP3 zpk zpm zpv zpc zps zpt ztp zcd zen zso znz zgs zin ziw zig zih zsk zmc zms zmt zco zbg zos zoc zss zsz zit TT) (kk : LH X K9 N9 b9 i9 cI cM cW cS zad zq zqc zqs zqe zsh zra zem 1764) : X K9 N9 (CWo cI cM cW cS zad zq zqc zqs zqe zsh zra id zwr ztn zlw zrz zpn zpw zhi zrg zpg zhp zph zR0 zR1 zR2 zR3 zkf zmf zlf zcf zsf ztf zP0 zP1 zP2 zP3 zpk zpm zpv zpc zps zpt ztp zcd zen zso znz zgs Y ++ MW cI zem zwr ztn zlw zrz zin ziw zhi zrg zig zhp zih zsk zkf zmf zlf zmc zms zmt ztp zco zbg zos zoc zss zsz zit V) [(0, .ref b9), (1, .ref (zad 0)), (2, .ref (zem 0)), (3, .int (nI i9))] 1503 [] := by
  refine x_aload_n C9 dL_law_1503 1 rfl ?_
  refine k7_image C9 dL_law_1504 hk (Nat.le_of_ble_eq_true rfl) (fun _ => ?_)
  refine x_swap C9 ?_
  refine x_aload_n C9 dL_law_1507 2 rfl ?_
  refine k8_image C9 dL_law_1508 hk (Nat.le_of_ble_eq_true rfl) (fun _ => ?_)
  refine x_swap C9 ?_
  refine x_icmp_eq C9 dL_law_1511 (tgt := 1764) rfl (fun _ => ?_) (fun q9 => absurd (rfl) q9)
  exact kk (I_image h)
set_option maxHeartbeats 4000000 in
set_option maxRecDepth 100000 in
theorem L_back (C9 : rC X l cL_law 4 RL room_1 D9 (tY cI cM cW cS) (zLw adK adV fm b9 L9 xs9) false) (hL : L9 < 2 ^ 31) (hi : i9 + 6 < L9) (hk : K9 ≤ 600000 ∧ N9 ≤ 7302250) (h : INV zwr ztn zlw zrz zpn zpw zhi zrg zpg zhp zph zR0 zR1 zR2 zR3 zkf zmf zlf zcf zsf ztf zP0 zP1 zP2 zP3 zpk zpm zpv zpc zps zpt ztp zcd zen zso znz zgs zin ziw zig zih zsk zmc zms zmt zco zbg zos zoc zss zsz zit TT) (kk : LH X K9 N9 b9 i9 cI cM cW cS zad zq zqc zqs zqe zsh zra zem 1764) : X K9 N9 (CWo cI cM cW cS zad zq zqc zqs zqe zsh zra id zwr ztn zlw zrz zpn zpw zhi zrg zpg zhp zph zR0 zR1 zR2 zR3 zkf zmf zlf zcf zsf ztf zP0 zP1 zP2 zP3 zpk zpm zpv zpc zps zpt ztp zcd zen zso znz zgs Y ++ MW cI zem zwr ztn zlw zrz zin ziw zhi zrg zig zhp zih zsk zkf zmf zlf zmc zms zmt ztp zco zbg zos zoc zss zsz zit V) [(0, .ref b9), (1, .ref (zad 0)), (2, .ref (zem 0)), (3, .int (nI i9))] 1516 [] := by
  by_cases e : zhi = 0
  ·
    obtain ⟨pk, pm, pl, hoc⟩ := k_oc zoc
    refine x_aload_n C9 dL_law_1516 1 rfl ?_
    refine k7_back C9 dL_law_1517 hk (Nat.le_of_ble_eq_true rfl) (fun _ => ?_) (fun q9 => absurd e q9)
    refine x_swap C9 ?_
    refine x_aload_n C9 dL_law_1520 2 rfl ?_
    refine k8_back C9 hoc dL_law_1521 hk (Nat.le_of_ble_eq_true rfl) (fun _ => ?_) (fun q9 => absurd e q9)
    refine x_swap C9 ?_
    refine x_icmp_eq C9 dL_law_1524 (tgt := 1764) rfl (fun _ => ?_) (fun q9 => absurd (rfl) q9)
    exact kk (h)
  ·
    obtain ⟨rfl, rfl, rfl, rfl, hoc⟩ := I_backe h e
    refine x_aload_n C9 dL_law_1516 1 rfl ?_
    refine k7_back C9 dL_law_1517 hk (Nat.le_of_ble_eq_true rfl) (fun q9 => absurd q9 e) (fun _ => ?_)
    refine x_swap C9 ?_
    refine x_aload_n C9 dL_law_1520 2 rfl ?_
    refine k8_back C9 hoc dL_law_1521 hk (Nat.le_of_ble_eq_true rfl) (fun q9 => absurd q9 e) (fun _ => ?_)
    refine x_swap C9 ?_
    refine x_icmp_eq C9 dL_law_1524 (tgt := 1764) rfl (fun _ => ?_) (fun q9 => absurd (rfl) q9)
    exact kk (I_back h e)
set_option maxHeartbeats 4000000 in
set_option maxRecDepth 100000 in
theorem L_text (C9 : rC X l cL_law 4 RL room_1 D9 (tY cI cM cW cS) (zLw adK adV fm b9 L9 xs9) false) (hL : L9 < 2 ^ 31) (hi : i9 + 6 < L9) (hk : K9 ≤ 600000 ∧ N9 ≤ 7302250) (h : INV zwr ztn zlw zrz zpn zpw zhi zrg zpg zhp zph zR0 zR1 zR2 zR3 zkf zmf zlf zcf zsf ztf zP0 zP1 zP2 zP3 zpk zpm zpv zpc zps zpt ztp zcd zen zso znz zgs zin ziw zig zih zsk zmc zms zmt zco zbg zos zoc zss zsz zit TT) (kk : LH X K9 N9 b9 i9 cI cM cW cS zad zq zqc zqs zqe zsh zra zem 1764) : X K9 N9 (CWo cI cM cW cS zad zq zqc zqs zqe zsh zra id zwr ztn zlw zrz zpn zpw zhi zrg zpg zhp zph zR0 zR1 zR2 zR3 zkf zmf zlf zcf zsf ztf zP0 zP1 zP2 zP3 zpk zpm zpv zpc zps zpt ztp zcd zen zso znz zgs Y ++ MW cI zem zwr ztn zlw zrz zin ziw zhi zrg zig zhp zih zsk zkf zmf zlf zmc zms zmt ztp zco zbg zos zoc zss zsz zit V) [(0, .ref b9), (1, .ref (zad 0)), (2, .ref (zem 0)), (3, .int (nI i9))] 394 [] := by
  obtain ⟨⟨l1, l2, l3, l4, l5, l6, l7, l8, l9⟩, h2, h3, h4, h5, h6, h7, h8⟩ := id h
  obtain ⟨j9, hj9, hs9⟩ : ∃ j, j < 6 ∧ (zwr < 6 → zwr = j) := by
    by_cases e : zwr < 6
    · exact ⟨zwr, e, fun _ => rfl⟩
    · exact ⟨0, by decide, fun h9 => absurd h9 e⟩
  refine x_aload_n C9 dL_law_394 1 rfl ?_
  refine k7_text C9 h2 l2.2 j9 hj9 hs9 dL_law_395 hk (Nat.le_of_ble_eq_true rfl) (fun w7 => ?_) (fun Y' cd' en' f' w7 => ?_) (fun Y' cd' en' w7 => ?_)
  ·
    refine x_swap C9 ?_
    refine x_aload_n C9 dL_law_398 2 rfl ?_
    refine k8_text C9 h2 l2.2 dL_law_399 hk (Nat.le_of_ble_eq_true rfl) (fun w8 => ?_) (fun V' f8 mc' bg' w8 => ?_) (fun V' mc' bg' w8 => ?_)
    ·
      refine x_swap C9 ?_
      refine x_icmp_eq C9 dL_law_402 (tgt := 1764) rfl (fun _ => ?_) (fun q9 => absurd (rfl) q9)
      exact kk (h)
    ·
      exact absurd w8.1 (by omega)
    ·
      exact absurd w8.1 (by omega)
  ·
    obtain ⟨hw, w7⟩ := w7
    have e9 := hs9 hw
    subst e9
    refine x_swap C9 ?_
    refine x_aload_n C9 dL_law_398 2 rfl ?_
    refine k8_text C9 h2 l2.2 dL_law_399 hk (Nat.le_of_ble_eq_true rfl) (fun w8 => ?_) (fun V' f8 mc' bg' w8 => ?_) (fun V' mc' bg' w8 => ?_)
    ·
      exact absurd w8 (by omega)
    ·
      obtain ⟨-, rfl⟩ := w7
      obtain ⟨-, -, rfl, a1, a2⟩ := w8
      refine x_swap C9 ?_
      refine x_icmp_eq C9 dL_law_402 (tgt := 1764) rfl (fun _ => ?_) (fun q9 => absurd (rfl) q9)
      exact kk (I_textf h hw a1 a2)
    ·
      exact absurd (w7.1.symm.trans w8.2.1) (by decide)
  ·
    obtain ⟨hw, w7⟩ := w7
    have e9 := hs9 hw
    subst e9
    refine x_swap C9 ?_
    refine x_aload_n C9 dL_law_398 2 rfl ?_
    refine k8_text C9 h2 l2.2 dL_law_399 hk (Nat.le_of_ble_eq_true rfl) (fun w8 => ?_) (fun V' f8 mc' bg' w8 => ?_) (fun V' mc' bg' w8 => ?_)
    ·
      exact absurd w8 (by omega)
    ·
      exact absurd (w7.1.symm.trans w8.2.1) (by decide)
    ·
      obtain ⟨-, b1, b2⟩ := w7
      obtain ⟨-, -, b3, -, a1, a2⟩ := w8
      refine x_swap C9 ?_
      refine x_icmp_eq C9 dL_law_402 (tgt := 1764) rfl (fun _ => ?_) (fun q9 => absurd (rfl) q9)
      exact kk (I_textt h hw a1 a2 b2 b1 b3)
end LC
