/-! ===== gardens supposed ===== -/
def o_rg (G : sG) (r : Int32) : sG := match G with
  | (T, kf, mf, ts, tk, tn, lv, tl, P, _, wk, R1, R2, R3) => (T, kf, mf, ts, tk, tn, lv, tl, P, r, wk, R1, R2, R3)
theorem o_rg_good {G : sG} (h : s_good G) (r : Int32) : s_good (o_rg G r) := h
def o_thrice (G : sG) : Int32 := (s_gone (o_rg G 8720) 14).2.2.2.2.2.2.2.2 - (s_gone (o_rg G 8192) 14).2.2.2.2.2.2.2.2
theorem o_thrice_l {G : sG} {D W cv h o D2 W2 cv2 h2 o2 : sF} {f rt rk ct f2 rt2 rk2 ct2 : Int32} (h1 : s_gone (o_rg G 8720) 14 = (D, W, cv, h, f, o, rt, rk, ct)) (h3 : s_gone (o_rg G 8192) 14 = (D2, W2, cv2, h2, f2, o2, rt2, rk2, ct2)) : ct - ct2 = o_thrice G := by
  unfold o_thrice
  rw [h1, h3]
