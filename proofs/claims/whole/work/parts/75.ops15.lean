/-! ===== laws and winds that fit ===== -/
abbrev rr6 (a b c d e f : Nat) : Nat → Option Nat := fun i => if i = 0 then some a else if i = 1 then some b else if i = 2 then some c else if i = 3 then some d else if i = 4 then some e else if i = 5 then some f else none
def o_lt (G : sG) (T9 : sT) : sG := match G with
  | (_, kf, mf, ts, tk, tn, lv, tl, P, rg, wk, R1, R2, R3) => (T9, kf, mf, ts, tk, tn, lv, tl, P, rg, wk, R1, R2, R3)
theorem o_lt_good {G : sG} (h : s_good G) (T9 : sT) : s_good (o_lt G T9) := h
def o_lwb (G : sG) (TT : Nat → sT) (g : sF) (n : Nat) : Nat → Int32
  | 0 => 0
  | t + 1 => if o_look g (s_gone (o_lt G (TT t)) n) = -1 then o_lwb G TT g n t ||| (1 <<< (nI t &&& 31)) else o_lwb G TT g n t
def o_wd (G : sG) (d k : Nat) : sG := match G with
  | (T, kf, mf, ts, tk, tn, lv, tl, P, rg, wk, R1, R2, R3) => (T, kf, mf, ts, tk, tn, lv, tl, P, rg, b_nu wk d k, R1, R2, R3)
def o_wnb (G : sG) (g : sF) (n : Nat) : Nat → Int32
  | 0 => 0
  | k + 1 => if o_look g (s_gone (o_wd G (n - 1) k) n) = -1 then o_wnb G g n k ||| (1 <<< (nI k &&& 31)) else o_wnb G g n k
section OLW
variable {G : sG} {TT : Nat → sT} {g : sF} {n t : Nat} {D W cv h o : sF} {f rt rk ct u : Int32}
theorem o_lwb_t (hS : s_gone (o_lt G (TT t)) n = (D, W, cv, h, f, o, rt, rk, ct)) (hu : u = s_ul (fun j => decide (g j ≠ D j + W j)) 36 0) (hl : u = -1) : o_lwb G TT g n t ||| (1 <<< (nI t &&& 31)) = o_lwb G TT g n (t + 1) := by
  rw [o_lwb, hS]
  exact (if_pos (hu.symm.trans hl)).symm
theorem o_lwb_f (hS : s_gone (o_lt G (TT t)) n = (D, W, cv, h, f, o, rt, rk, ct)) (hu : u = s_ul (fun j => decide (g j ≠ D j + W j)) 36 0) (hl : ¬ u = -1) : o_lwb G TT g n t = o_lwb G TT g n (t + 1) := by
  rw [o_lwb, hS]
  exact (if_neg (fun e => hl (hu.trans e))).symm
theorem o_wnb_t (hS : s_gone (o_wd G (n - 1) t) n = (D, W, cv, h, f, o, rt, rk, ct)) (hu : u = s_ul (fun j => decide (g j ≠ D j + W j)) 36 0) (hl : u = -1) : o_wnb G g n t ||| (1 <<< (nI t &&& 31)) = o_wnb G g n (t + 1) := by
  rw [o_wnb, hS]
  exact (if_pos (hu.symm.trans hl)).symm
theorem o_wnb_f (hS : s_gone (o_wd G (n - 1) t) n = (D, W, cv, h, f, o, rt, rk, ct)) (hu : u = s_ul (fun j => decide (g j ≠ D j + W j)) 36 0) (hl : ¬ u = -1) : o_wnb G g n t = o_wnb G g n (t + 1) := by
  rw [o_wnb, hS]
  exact (if_neg (fun e => hl (hu.trans e))).symm
end OLW
theorem b_nu_lt {wk : Nat → Nat} (h : ∀ j, j < 14 → wk j < 4) {d k : Nat} (hk : k < 4) : ∀ j, j < 14 → b_nu wk d k j < 4 := fun j hj => by
  unfold b_nu
  split
  · exact hk
  · exact h j hj
theorem o_wd_good {G : sG} (h : s_good G) {d k : Nat} (hk : k < 4) : s_good (o_wd G d k) := by
  obtain ⟨T, kf, mf, ts, tk, tn, lv, tl, P, rg, wk, R1, R2, R3⟩ := G
  obtain ⟨g1, g2, g3, g4, g5, g6, g7⟩ := h
  exact ⟨g1, g2, b_nu_lt g3 hk, g4, g5, g6, g7⟩
theorem b_nu_row {wk : Nat → Nat} {g : sF} {d k : Nat} (h : ∀ j, j ≠ d → g j = nIf wk j) : ∀ j, j < 14 → upd g d (nI k) j = nIf (b_nu wk d k) j := fun j _ => by
  by_cases e : j = d
  · subst e
    rw [pk_us]
    show nI k = nI (b_nu wk j k j)
    unfold b_nu
    rw [if_pos rfl]
  · rw [pk_un e, h j e]
    show nI (wk j) = nI (b_nu wk d k j)
    unfold b_nu
    rw [if_neg e]
theorem b_nu_rest {wk : Nat → Nat} {d k : Nat} : ∀ j, j ≠ d → nIf (b_nu wk d k) j = nIf wk j := fun j e => by
  show nI (b_nu wk d k j) = nI (wk j)
  unfold b_nu
  rw [if_neg e]
def o_laws (G : sG) (TT : Nat → sT) (wr : Nat) (so : Int32) (nz : Nat) (g : sF) (s n : Int32) : Int32 := if o_unfit so nz s n 0 = 0 then o_lwb G TT g (o_n n) wr else o_unfit so nz s n 0
def o_winds (G : sG) (so : Int32) (nz : Nat) (g : sF) (s n : Int32) : Int32 := if o_unfit so nz s n 1 = 0 then o_wnb G g (o_n n) 4 else o_unfit so nz s n 1
