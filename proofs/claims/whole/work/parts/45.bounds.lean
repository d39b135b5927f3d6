/-! ===== how many leaves there are: natural numbers behind the ints (fb_sm: a family of kit/laws/COUNTS, pasted) ===== -/
def fb_sm (f : Nat → Nat) : Nat → Nat
  | 0 => 0
  | n + 1 => fb_sm f n + f n
theorem fb_sm_succ (f : Nat → Nat) (n : Nat) : fb_sm f (n + 1) = fb_sm f n + f n := rfl
theorem fb_sm_cong {f g : Nat → Nat} : ∀ {n : Nat}, (∀ k, k < n → f k = g k) → fb_sm f n = fb_sm g n
  | 0, _ => rfl
  | n + 1, h => by rw [fb_sm_succ, fb_sm_succ, fb_sm_cong (fun k hk => h k (by omega)), h n (by omega)]
theorem fb_sm_out (f : Nat → Nat) (v : Nat) {i n : Nat} (h : n ≤ i) : fb_sm (fun k => if k = i then v else f k) n = fb_sm f n :=
  fb_sm_cong fun k hk => if_neg (by omega)
theorem fb_sm_upd (f : Nat → Nat) (v : Nat) {i : Nat} : ∀ {n : Nat}, i < n → fb_sm (fun k => if k = i then v else f k) n + f i = fb_sm f n + v
  | 0, h => absurd h (Nat.not_lt_zero i)
  | n + 1, h => by
    rw [fb_sm_succ, fb_sm_succ]
    rcases Nat.lt_or_ge i n with q | q
    · have := fb_sm_upd f v q
      have e : (if n = i then v else f n) = f n := if_neg (by omega)
      rw [e]
      omega
    · have e : i = n := by omega
      subst e
      rw [fb_sm_out f v (Nat.le_refl _)]
      simp only [if_true]
      omega
theorem fb_sm_add (f g : Nat → Nat) : ∀ n, fb_sm (fun k => f k + g k) n = fb_sm f n + fb_sm g n
  | 0 => rfl
  | n + 1 => by
    have h := fb_sm_add f g n
    rw [fb_sm_succ, fb_sm_succ, fb_sm_succ, h]
    omega
theorem fb_sm_le {f g : Nat → Nat} : ∀ {n : Nat}, (∀ k, k < n → f k ≤ g k) → fb_sm f n ≤ fb_sm g n
  | 0, _ => Nat.le_refl _
  | n + 1, h => by
    have h1 := fb_sm_le (n := n) (f := f) (g := g) (fun k hk => h k (by omega))
    have h2 := h n (by omega)
    rw [fb_sm_succ, fb_sm_succ]
    omega
theorem fb_sm_const (c : Nat) : ∀ n, fb_sm (fun _ => c) n = n * c
  | 0 => by rw [Nat.zero_mul]; rfl
  | n + 1 => by rw [fb_sm_succ, fb_sm_const c n, Nat.succ_mul]
theorem fb_sm_bound {f : Nat → Nat} {c n : Nat} (h : ∀ k, k < n → f k ≤ c) : fb_sm f n ≤ n * c := by
  rw [← fb_sm_const c n]
  exact fb_sm_le h
theorem fb_sm_mono (f : Nat → Nat) (m : Nat) : ∀ n, fb_sm f m ≤ fb_sm f (m + n)
  | 0 => Nat.le_refl _
  | n + 1 => by
    have h := fb_sm_mono f m n
    show fb_sm f m ≤ fb_sm f (m + n + 1)
    rw [fb_sm_succ]
    omega
theorem fb_sm_part (f : Nat → Nat) {i n : Nat} (h : i < n) : fb_sm f i + f i ≤ fb_sm f n := by
  have := fb_sm_mono f (i + 1) (n - (i + 1))
  rw [fb_sm_succ, show i + 1 + (n - (i + 1)) = n by omega] at this
  exact this
theorem fb_sm_one (f : Nat → Nat) {i n : Nat} (h : i < n) : f i ≤ fb_sm f n := by
  have := fb_sm_part f h
  omega
/-- the ints below n are these numbers -/
def b_eq (n : Nat) (f : sF) (z : Nat → Nat) : Prop := ∀ j, j < n → f j = nI (z j)
def b_nu (z : Nat → Nat) (k v : Nat) : Nat → Nat := fun j => if j = k then v else z j
theorem b_upd {n : Nat} {f : sF} {z : Nat → Nat} {k v : Nat} {x : Int32} (h : b_eq n f z) (hx : x = nI v) : b_eq n (upd f k x) (b_nu z k v) := by
  intro j hj
  by_cases e : j = k
  · subst e; rw [pk_us, hx, b_nu, if_pos rfl]
  · rw [pk_un e, b_nu, if_neg e]; exact h j hj
theorem b_nu_sm {z : Nat → Nat} {k v n : Nat} (hk : k < n) : fb_sm (b_nu z k v) n + z k = fb_sm z n + v := fb_sm_upd z v hk
theorem b_sum {n : Nat} {f : sF} {z : Nat → Nat} (h : b_eq n f z) : ∀ m, m ≤ n → s_sum f m = nI (fb_sm z m)
  | 0, _ => nI_0.symm
  | m + 1, hm => by
    show s_sum f m + f m = nI (fb_sm z m + z m)
    rw [b_sum h m (by omega), h m (by omega), nI_add]
theorem b_acc {n : Nat} {k : sF} {z : Nat → Nat} {f : Int32} {a : Nat} (hf : f = nI a) (h : b_eq n k z) : ∀ m, m ≤ n → s_acc f k m = nI (a + fb_sm z m)
  | 0, _ => hf
  | m + 1, hm => by
    show s_acc f k m + k m = nI (a + (fb_sm z m + z m))
    rw [b_acc hf h m (by omega), h m (by omega), nI_add, Nat.add_assoc]
theorem b_rng {x M : Int32} {n : Nat} (hM : M = nI n) (hn : n < 2 ^ 31) (h : 0 ≤ x ∧ x ≤ M) : ∃ v, v ≤ n ∧ x = nI v := q_w hM hn h
theorem b_clamp {m v : Int32} {n : Nat} (hm : m = nI n) (hn : n < 2 ^ 31) : ∃ k, k ≤ n ∧ s_clamp m v = nI k := by
  have h0 : (0 : Int32) ≤ m := by rw [hm]; exact nI_pos' hn
  refine b_rng hm hn ?_
  unfold s_clamp
  by_cases h1 : v < m
  · rw [if_pos h1]
    by_cases h2 : 0 < v
    · rw [if_pos h2]; exact ⟨Int32.le_of_lt h2, Int32.le_of_lt h1⟩
    · rw [if_neg h2]; exact ⟨Int32.le_refl 0, h0⟩
  · rw [if_neg h1]
    by_cases h2 : 0 < m
    · rw [if_pos h2]; exact ⟨h0, Int32.le_refl m⟩
    · rw [if_neg h2]; exact ⟨Int32.le_refl 0, h0⟩
theorem b_says0 (T : sT) (nm : sF) : ∃ k, k ≤ 999 ∧ s_says T 0 nm = nI k := b_clamp (m := 999) rfl (by decide)
theorem b_says1 (T : sT) {p : Nat} (hp : p ≠ 0) (nm : sF) : ∃ k, k ≤ 100 ∧ s_says T p nm = nI k := b_clamp (m := s_most p) (by unfold s_most; rw [if_neg hp]; rfl) (by decide)
theorem b_min {x y : Int32} {a b : Nat} (hx : x = nI a) (hy : y = nI b) (ha : a < 2 ^ 31) (hb : b < 2 ^ 31) : s_min x y = nI (min a b) := by
  unfold s_min
  rw [hx, hy]
  by_cases h : nI b < nI a
  · rw [if_pos h, Nat.min_eq_right (Nat.le_of_lt ((nI_ltI hb ha).mp h))]
  · rw [if_neg h, Nat.min_eq_left (Nat.not_lt.mp (fun q => h ((nI_ltI hb ha).mpr q)))]
theorem b_pt {T : sT} {p : Nat} (hp : p ≠ 0) {so fr we x my : Int32} {a : Nat} (hx : x = nI a) (ha : a < 2 ^ 24) : ∃ k, k ≤ a ∧ s_pt T p so fr we x my = nI k := by
  unfold s_pt
  by_cases h : x = 0
  · rw [if_pos h]; exact ⟨0, Nat.zero_le _, nI_0.symm⟩
  · rw [if_neg h]
    obtain ⟨v, hv, e⟩ := b_says1 T hp (s_nm 0 so fr we 0 my)
    have h1 : a * v ≤ a * 100 := Nat.mul_le_mul_left a hv
    refine ⟨a * v / 100, ?_, ?_⟩
    · omega
    · rw [e, hx, pk_mul, show (100 : Int32) = nI 100 from rfl]
      exact pk_div (by omega) (by decide) (by decide)
theorem b_goff {kd mo z : Int32} {a m : Nat} (hz : z = nI a) (ha : a < 2 ^ 24) (hm : mo = nI m) (hm2 : m < 2 ^ 24) : ∃ k, k ≤ a ∧ s_goff kd mo z = nI k := by
  have hd : z / 2 = nI (a / 2) := by rw [hz, show (2 : Int32) = nI 2 from rfl]; exact pk_div (by omega) (by decide) (by decide)
  unfold s_goff
  by_cases k1 : kd = 1
  · rw [if_pos k1]; exact ⟨a / 2, by omega, hd⟩
  · rw [if_neg k1]
    by_cases k3 : kd = 3
    · rw [if_pos k3]; exact ⟨min (a / 2) m, by omega, b_min hd hm (by omega) (by omega)⟩
    · rw [if_neg k3]
      by_cases k4 : kd = 4
      · rw [if_pos k4]
        by_cases q : z - mo < 0
        · rw [if_pos q]; exact ⟨0, Nat.zero_le _, nI_0.symm⟩
        · rw [if_neg q]
          rcases Nat.lt_or_ge a m with h | h
          · rw [hz, hm] at q
            exact absurd (pk_sneg (by omega) h) q
          · exact ⟨a - m, by omega, by rw [hz, hm, pk_sub h]⟩
      · rw [if_neg k4]; exact ⟨a, Nat.le_refl a, hz⟩
theorem b_come {kd mo z : Int32} {a m : Nat} (hz : z = nI a) (ha : a < 2 ^ 24) (hm : mo = nI m) (hm2 : m < 2 ^ 24) : ∃ k, k ≤ a ∧ s_come kd mo z = nI k := by
  unfold s_come
  by_cases k1 : kd = 2
  · rw [if_pos k1]; exact ⟨0, Nat.zero_le _, nI_0.symm⟩
  · rw [if_neg k1]
    by_cases k3 : kd = 5
    · rw [if_pos k3]; exact ⟨min a m, by omega, b_min hz hm (by omega) (by omega)⟩
    · rw [if_neg k3]; exact ⟨a, Nat.le_refl a, hz⟩
theorem b_mv {T : sT} {kd mo : sF} {w : Nat} {so fr we : Int32} {X D W : sF} {c a : Nat} (hx : X c = nI a) (ha : a < 2 ^ 24) (hm : ∀ j, j < 36 → ∃ m, m < 2 ^ 24 ∧ mo j = nI m) (hc : c < 36) : ∃ k, k ≤ a ∧ s_mv T kd mo w so fr we X D W c = nI k := by
  unfold s_mv
  by_cases h : X c = 0
  · rw [if_pos h]; exact ⟨0, Nat.zero_le _, nI_0.symm⟩
  · rw [if_neg h]
    obtain ⟨k1, h1, e1⟩ := b_pt (T := T) (p := 1) (by decide) (so := so) (fr := fr) (we := we) (my := D c + W c) hx ha
    obtain ⟨m, hm1, em⟩ := hm c hc
    obtain ⟨k2, h2, e2⟩ := b_goff (kd := kd c) e1 (by omega) em hm1
    cases ho : s_on w c with
    | none => exact ⟨k2, by omega, e2⟩
    | some t =>
      obtain ⟨m9, hm9, em9⟩ := hm t (s_on_lt hc ho).1
      obtain ⟨k3, h3, e3⟩ := b_come (kd := kd t) e2 (by omega) em9 hm9
      exact ⟨k3, by omega, e3⟩
/-- a function out of 'for each there is one' -/
theorem b_fun {n : Nat} {P : Nat → Nat → Prop} (h : ∀ j, j < n → ∃ k, P j k) : ∃ f : Nat → Nat, ∀ j, j < n → P j (f j) := by
  have h2 : ∀ j, ∃ k, j < n → P j k := fun j => by
    by_cases q : j < n
    · obtain ⟨k, hk⟩ := h j q
      exact ⟨k, fun _ => hk⟩
    · exact ⟨0, fun q2 => absurd q2 q⟩
  exact ⟨fun j => Classical.choose (h2 j), fun j hj => Classical.choose_spec (h2 j) hj⟩
theorem b_soak (rn : Int32) {D W : sF} {dz wz : Nat → Nat} (hD : b_eq 36 D dz) (hW : b_eq 36 W wz) (hb : ∀ c, c < 36 → wz c < 2 ^ 31) : ∃ d1 w1 : Nat → Nat, b_eq 36 (s_D1 rn D W) d1 ∧ b_eq 36 (s_W1 rn D W) w1 ∧ fb_sm d1 36 + fb_sm w1 36 = fb_sm dz 36 + fb_sm wz 36 := by
  by_cases hr : rn = 1
  · refine ⟨fun _ => 0, fun c => dz c + wz c, fun c hc => ?_, fun c hc => ?_, ?_⟩
    · show D c + s_go rn D W c = nI 0
      rw [show s_go rn D W c = -(D c) from if_pos hr, Int32.add_right_neg, nI_0]
    · show W c - s_go rn D W c = nI (dz c + wz c)
      rw [show s_go rn D W c = -(D c) from if_pos hr, Int32.sub_neg, hD c hc, hW c hc, nI_add, Nat.add_comm]
    · rw [fb_sm_add, fb_sm_const]; omega
  · refine ⟨fun c => dz c + wz c / 2, fun c => wz c - wz c / 2, fun c hc => ?_, fun c hc => ?_, ?_⟩
    · show D c + s_go rn D W c = nI (dz c + wz c / 2)
      rw [show s_go rn D W c = W c / 2 from if_neg hr, hD c hc, hW c hc, show (2 : Int32) = nI 2 from rfl, pk_div (hb c hc) (by decide) (by decide), nI_add]
    · show W c - s_go rn D W c = nI (wz c - wz c / 2)
      rw [show s_go rn D W c = W c / 2 from if_neg hr, hW c hc, show (2 : Int32) = nI 2 from rfl, pk_div (hb c hc) (by decide) (by decide), pk_sub (by omega)]
    · rw [← fb_sm_add, ← fb_sm_add]
      exact fb_sm_cong fun c _ => by omega
theorem b_k (T : sT) (so fr rn : Int32) (ts : sF) {h : sF} {hz : Nat → Nat} {tn : Nat} (hh : b_eq tn h hz) (hb : ∀ t, t < tn → hz t < 2 ^ 31) : ∃ kz : Nat → Nat, b_eq tn (s_k T so fr rn ts h) kz ∧ ∀ t, t < tn → kz t ≤ hz t := by
  obtain ⟨kz, h9⟩ := b_fun (n := tn) (P := fun t k => s_k T so fr rn ts h t = nI k ∧ k ≤ hz t) (fun t ht => by
    obtain ⟨v, hv, e⟩ := b_says0 T (s_nm (h t) so fr rn (ts t) 0)
    exact ⟨min (hz t) v, b_min (hh t ht) e (hb t ht) (by omega), by omega⟩)
  exact ⟨kz, fun t ht => (h9 t ht).1, fun t ht => (h9 t ht).2⟩
theorem b_drop {tk : Nat → Nat} {k x : sF} {kz xz : Nat → Nat} {tn : Nat} (hk : b_eq tn k kz) (hx : b_eq 36 x xz) (htk : ∀ t, t < tn → tk t < 36) : ∀ n, n ≤ tn → ∃ z : Nat → Nat, b_eq 36 (s_drop tk k x n) z ∧ fb_sm z 36 = fb_sm xz 36 + fb_sm kz n
  | 0, _ => ⟨xz, hx, rfl⟩
  | n + 1, hn => by
    obtain ⟨z, h1, h2⟩ := b_drop hk hx htk n (by omega)
    have ht := htk n (by omega)
    refine ⟨b_nu z (tk n) (z (tk n) + kz n), b_upd h1 (by rw [h1 _ ht, hk n (by omega), nI_add]), ?_⟩
    have h3 := b_nu_sm (z := z) (v := z (tk n) + kz n) ht
    show _ = fb_sm xz 36 + (fb_sm kz n + kz n)
    omega
theorem b_bl {w : Nat} (gz1 gz2 : Nat → Nat) {gD gW D W : sF} {dz wz : Nat → Nat} {o : Int32} {oz : Nat} (hD : b_eq 36 D dz) (hW : b_eq 36 W wz) (hg1 : b_eq 36 gD gz1) (hg2 : b_eq 36 gW gz2) (hl1 : ∀ c, c < 36 → gz1 c ≤ dz c) (hl2 : ∀ c, c < 36 → gz2 c ≤ wz c) (ho : o = nI oz) : ∀ n, n ≤ 36 → ∃ (d w9 : Nat → Nat) (o9 : Nat), b_eq 36 (s_bl w gD gW D W o n).1 d ∧ b_eq 36 (s_bl w gD gW D W o n).2.1 w9 ∧ (s_bl w gD gW D W o n).2.2 = nI o9 ∧ fb_sm d 36 + fb_sm w9 36 + o9 = fb_sm dz 36 + fb_sm wz 36 + oz ∧ (∀ c, c < 36 → n ≤ c → gz1 c ≤ d c) ∧ ∀ c, c < 36 → n ≤ c → gz2 c ≤ w9 c
  | 0, _ => ⟨dz, wz, oz, hD, hW, ho, rfl, fun c hc _ => hl1 c hc, fun c hc _ => hl2 c hc⟩
  | n + 1, hn => by
    obtain ⟨d, w9, o9, h1, h2, h3, h4, h5, h6⟩ := b_bl gz1 gz2 hD hW hg1 hg2 hl1 hl2 ho n (by omega)
    have l1 := h5 n (by omega) (Nat.le_refl n)
    have l2 := h6 n (by omega) (Nat.le_refl n)
    have hn6 : n < 36 := by omega
    show ∃ (d w9 : Nat → Nat) (o9 : Nat), b_eq 36 (s_to (s_bl w gD gW D W o n).1 n (s_on w n) (gD n)) d ∧ b_eq 36 (s_to (s_bl w gD gW D W o n).2.1 n (s_on w n) (gW n)) w9 ∧ (if s_on w n = none then (s_bl w gD gW D W o n).2.2 + (gD n + gW n) else (s_bl w gD gW D W o n).2.2) = nI o9 ∧ _
    have s1 := b_nu_sm (z := d) (k := n) (v := d n - gz1 n) hn6
    have s2 := b_nu_sm (z := w9) (k := n) (v := w9 n - gz2 n) hn6
    have u1 : b_eq 36 (upd (s_bl w gD gW D W o n).1 n ((s_bl w gD gW D W o n).1 n - gD n)) (b_nu d n (d n - gz1 n)) := b_upd h1 (by rw [h1 n hn6, hg1 n hn6, pk_sub l1])
    have u2 : b_eq 36 (upd (s_bl w gD gW D W o n).2.1 n ((s_bl w gD gW D W o n).2.1 n - gW n)) (b_nu w9 n (w9 n - gz2 n)) := b_upd h2 (by rw [h2 n hn6, hg2 n hn6, pk_sub l2])
    cases hon : s_on w n with
    | none =>
      refine ⟨_, _, o9 + (gz1 n + gz2 n), u1, u2, ?_, ?_, fun c hc hc2 => ?_, fun c hc hc2 => ?_⟩
      · rw [if_pos rfl, h3, hg1 n hn6, hg2 n hn6, nI_add, nI_add]
      · omega
      · rw [b_nu, if_neg (by omega)]; exact h5 c hc (by omega)
      · rw [b_nu, if_neg (by omega)]; exact h6 c hc (by omega)
    | some t =>
      have ht := s_on_lt hn6 hon
      have e1 : b_nu d n (d n - gz1 n) t = d t := by rw [b_nu, if_neg ht.2]
      have e2 : b_nu w9 n (w9 n - gz2 n) t = w9 t := by rw [b_nu, if_neg ht.2]
      have s3 := b_nu_sm (z := b_nu d n (d n - gz1 n)) (k := t) (v := d t + gz1 n) ht.1
      have s4 := b_nu_sm (z := b_nu w9 n (w9 n - gz2 n)) (k := t) (v := w9 t + gz2 n) ht.1
      rw [e1] at s3
      rw [e2] at s4
      refine ⟨b_nu (b_nu d n (d n - gz1 n)) t (d t + gz1 n), b_nu (b_nu w9 n (w9 n - gz2 n)) t (w9 t + gz2 n), o9, b_upd u1 (by rw [h1 t ht.1, hg1 n hn6, nI_add]), b_upd u2 (by rw [h2 t ht.1, hg2 n hn6, nI_add]), ?_, ?_, fun c hc hc2 => ?_, fun c hc hc2 => ?_⟩
      · rw [if_neg (by simp)]; exact h3
      · omega
      · have := h5 c hc (by omega)
        unfold b_nu
        by_cases q : c = t
        · subst q; rw [if_pos rfl]; omega
        · rw [if_neg q, if_neg (by omega)]; exact this
      · have := h6 c hc (by omega)
        unfold b_nu
        by_cases q : c = t
        · subst q; rw [if_pos rfl]; omega
        · rw [if_neg q, if_neg (by omega)]; exact this
theorem b_rot {T : sT} {so fr we : Int32} {X D W : sF} {xz : Nat → Nat} (hX : b_eq 36 X xz) (hb : ∀ c, c < 36 → xz c < 2 ^ 24) : ∃ rz : Nat → Nat, b_eq 36 (s_rt T so fr we X D W) rz ∧ ∀ c, c < 36 → rz c ≤ xz c := by
  obtain ⟨rz, h⟩ := b_fun (n := 36) (P := fun c k => s_rt T so fr we X D W c = nI k ∧ k ≤ xz c) (fun c hc => by
    obtain ⟨k, h1, h2⟩ := b_pt (T := T) (p := 2) (by decide) (so := so) (fr := fr) (we := we) (my := D c + W c) (hX c hc) (hb c hc)
    exact ⟨k, h2, h1⟩)
  exact ⟨rz, fun c hc => (h c hc).1, fun c hc => (h c hc).2⟩
theorem b_rots {rD rW : sF} {r1 r2 : Nat → Nat} {r : Int32} {rz : Nat} (h1 : b_eq 36 rD r1) (h2 : b_eq 36 rW r2) (hr : r = nI rz) : ∀ n, n ≤ 36 → s_rots rD rW r n = nI (rz + fb_sm r1 n + fb_sm r2 n)
  | 0, _ => hr
  | n + 1, hn => by
    show s_rots rD rW r n + rD n + rW n = nI (rz + (fb_sm r1 n + r1 n) + (fb_sm r2 n + r2 n))
    rw [b_rots h1 h2 hr n (by omega), h1 n (by omega), h2 n (by omega), nI_add, nI_add]
    congr 1
    omega
theorem b_blow {T : sT} {kf mf D W : sF} {wy : Nat} {so fr o : Int32} {dz wz : Nat → Nat} {oz : Nat} (hD : b_eq 36 D dz) (hW : b_eq 36 W wz) (ho : o = nI oz) (hm : ∀ j, j < 36 → ∃ m, m < 2 ^ 24 ∧ mf j = nI m) (hb : ∀ c, c < 36 → dz c < 2 ^ 24 ∧ wz c < 2 ^ 24) :
    ∃ (d3 w3 : Nat → Nat) (o3 : Nat), b_eq 36 (s_blow T kf mf wy so fr D W o).1 d3 ∧ b_eq 36 (s_blow T kf mf wy so fr D W o).2.1 w3 ∧ (s_blow T kf mf wy so fr D W o).2.2 = nI o3 ∧ fb_sm d3 36 + fb_sm w3 36 + o3 = fb_sm dz 36 + fb_sm wz 36 + oz := by
  obtain ⟨gz1, q1⟩ := b_fun (n := 36) (P := fun c k => s_mv T kf mf wy so fr 0 D D W c = nI k ∧ k ≤ dz c) (fun c hc => by
    obtain ⟨k, z1, z2⟩ := b_mv (T := T) (kd := kf) (mo := mf) (w := wy) (so := so) (fr := fr) (we := 0) (D := D) (W := W) (hD c hc) (hb c hc).1 hm hc
    exact ⟨k, z2, z1⟩)
  obtain ⟨gz2, q2⟩ := b_fun (n := 36) (P := fun c k => s_mv T kf mf wy so fr 1 W D W c = nI k ∧ k ≤ wz c) (fun c hc => by
    obtain ⟨k, z1, z2⟩ := b_mv (T := T) (kd := kf) (mo := mf) (w := wy) (so := so) (fr := fr) (we := 1) (D := D) (W := W) (hW c hc) (hb c hc).2 hm hc
    exact ⟨k, z2, z1⟩)
  unfold s_blow
  obtain ⟨d3, w3, o3, b1, b2, b3, b4, -, -⟩ := b_bl (w := wy) gz1 gz2 hD hW (fun c hc => (q1 c hc).1) (fun c hc => (q2 c hc).1) (fun c hc => (q1 c hc).2) (fun c hc => (q2 c hc).2) ho 36 (Nat.le_refl 36)
  exact ⟨d3, w3, o3, b1, b2, b3, b4⟩
/-- the middle of a day: behind the falling, behind the blowing -/
theorem b_mid {T : sT} {kf mf ts R1 R2 R3 D W h o : sF} {tk wk : Nat → Nat} {tn d : Nat} {dz wz hz oz : Nat → Nat} {M : Nat} (hM : M < 2 ^ 23)
    (g2 : ∀ t, t < tn → tk t < 36) (g3 : wk d < 4) (g4 : ∀ j, j < 36 → 0 ≤ mf j ∧ mf j ≤ 99) (i1 : b_eq 36 D dz) (i2 : b_eq 36 W wz) (i3 : b_eq tn h hz) (i4 : b_eq 4 o oz) (hs : fb_sm dz 36 + fb_sm wz 36 + fb_sm oz 4 + fb_sm hz tn ≤ M) :
    ∃ (d2 w2 d3 w3 kz : Nat → Nat) (o3 : Nat), b_eq 36 (s_D2 T (R1 d) (R2 d) (R3 d) ts tk tn h D W) d2 ∧ b_eq 36 (s_W2 T (R1 d) (R2 d) (R3 d) ts tk tn h D W) w2 ∧ b_eq 36 (s_b T kf mf (wk d) (R1 d) (R2 d) (R3 d) ts tk tn h D W (o (wk d))).1 d3 ∧ b_eq 36 (s_b T kf mf (wk d) (R1 d) (R2 d) (R3 d) ts tk tn h D W (o (wk d))).2.1 w3 ∧ (s_b T kf mf (wk d) (R1 d) (R2 d) (R3 d) ts tk tn h D W (o (wk d))).2.2 = nI o3 ∧
      b_eq tn (s_k T (R1 d) (R2 d) (R3 d) ts h) kz ∧ (∀ t, t < tn → kz t ≤ hz t) ∧ fb_sm d2 36 + fb_sm w2 36 = fb_sm dz 36 + fb_sm wz 36 + fb_sm kz tn ∧ fb_sm d3 36 + fb_sm w3 36 + o3 = fb_sm d2 36 + fb_sm w2 36 + oz (wk d) ∧ fb_sm kz tn ≤ fb_sm hz tn := by
  have hw : ∀ c, c < 36 → wz c < 2 ^ 31 := fun c hc => by have := fb_sm_one wz hc; omega
  obtain ⟨d1, w1, a1, a2, a3⟩ := b_soak (R3 d) i1 i2 hw
  obtain ⟨kz, k1, k2⟩ := b_k T (R1 d) (R2 d) (R3 d) ts i3 (fun t ht => by have := fb_sm_one hz ht; omega)
  have kle : fb_sm kz tn ≤ fb_sm hz tn := fb_sm_le k2
  have hdw : ∃ d2 w2 : Nat → Nat, b_eq 36 (s_D2 T (R1 d) (R2 d) (R3 d) ts tk tn h D W) d2 ∧ b_eq 36 (s_W2 T (R1 d) (R2 d) (R3 d) ts tk tn h D W) w2 ∧ fb_sm d2 36 + fb_sm w2 36 = fb_sm d1 36 + fb_sm w1 36 + fb_sm kz tn := by
    unfold s_D2 s_W2
    by_cases hr : R3 d = 1
    · obtain ⟨w2, e1, e2⟩ := b_drop k1 a2 g2 tn (Nat.le_refl tn)
      refine ⟨d1, w2, ?_, ?_, by omega⟩
      · unfold s_dropD; rw [if_pos hr]; exact a1
      · unfold s_dropW; rw [if_pos hr]; exact e1
    · obtain ⟨d2, e1, e2⟩ := b_drop k1 a1 g2 tn (Nat.le_refl tn)
      refine ⟨d2, w1, ?_, ?_, by omega⟩
      · unfold s_dropD; rw [if_neg hr]; exact e1
      · unfold s_dropW; rw [if_neg hr]; exact a2
  obtain ⟨d2, w2, e1, e2, e3⟩ := hdw
  have hmm : ∀ j, j < 36 → ∃ m, m < 2 ^ 24 ∧ mf j = nI m := fun j hj => by
    obtain ⟨m, hm, e⟩ := b_rng (M := 99) (n := 99) rfl (by decide) (g4 j hj)
    exact ⟨m, by omega, e⟩
  have hb2 : ∀ c, c < 36 → d2 c < 2 ^ 24 ∧ w2 c < 2 ^ 24 := fun c hc => by
    have h1 := fb_sm_one d2 hc
    have h2 := fb_sm_one w2 hc
    omega
  unfold s_b
  obtain ⟨d3, w3, o3, b1, b2, b3, b4⟩ := b_blow (T := T) (kf := kf) (wy := wk d) (so := R1 d) (fr := R2 d) e1 e2 (i4 _ g3) hmm hb2
  exact ⟨d2, w2, d3, w3, kz, o3, e1, e2, b1, b2, b3, k1, k2, by omega, b4, kle⟩
/-- a whole day -/
theorem b_half {T : sT} {kf mf ts R1 R2 R3 D W h o : sF} {tk wk : Nat → Nat} {tn d : Nat} {dz wz hz oz : Nat → Nat} {M r : Nat} {rt : Int32} (hM : M < 2 ^ 23)
    (g2 : ∀ t, t < tn → tk t < 36) (g3 : wk d < 4) (g4 : ∀ j, j < 36 → 0 ≤ mf j ∧ mf j ≤ 99) (i1 : b_eq 36 D dz) (i2 : b_eq 36 W wz) (i3 : b_eq tn h hz) (i4 : b_eq 4 o oz) (i5 : rt = nI r) (hs : fb_sm dz 36 + fb_sm wz 36 + fb_sm oz 4 + fb_sm hz tn ≤ M) :
    ∃ (d4 w4 h4 o4 : Nat → Nat) (r4 f : Nat), b_eq 36 (s_D4 T (R1 d) (R2 d) (s_b T kf mf (wk d) (R1 d) (R2 d) (R3 d) ts tk tn h D W (o (wk d)))) d4 ∧ b_eq 36 (s_W4 T (R1 d) (R2 d) (s_b T kf mf (wk d) (R1 d) (R2 d) (R3 d) ts tk tn h D W (o (wk d)))) w4 ∧ b_eq tn (s_left tn (s_k T (R1 d) (R2 d) (R3 d) ts h) h) h4 ∧
      b_eq 4 (upd o (wk d) (s_b T kf mf (wk d) (R1 d) (R2 d) (R3 d) ts tk tn h D W (o (wk d))).2.2) o4 ∧ s_R4 T (R1 d) (R2 d) (s_b T kf mf (wk d) (R1 d) (R2 d) (R3 d) ts tk tn h D W (o (wk d))) rt = nI r4 ∧ s_acc 0 (s_k T (R1 d) (R2 d) (R3 d) ts h) tn = nI f ∧
      fb_sm d4 36 + fb_sm w4 36 + fb_sm o4 4 + r4 = fb_sm dz 36 + fb_sm wz 36 + fb_sm oz 4 + r + f ∧ f + fb_sm h4 tn = fb_sm hz tn := by
  obtain ⟨d2, w2, d3, w3, kz, o3, m1, m2, m3, m4, m5, m6, m7, m8, m9, m10⟩ := b_mid (T := T) (kf := kf) (mf := mf) (ts := ts) (R1 := R1) (R2 := R2) (R3 := R3) (tk := tk) (wk := wk) (d := d) hM g2 g3 g4 i1 i2 i3 i4 hs
  generalize s_b T kf mf (wk d) (R1 d) (R2 d) (R3 d) ts tk tn h D W (o (wk d)) = b at m3 m4 m5 ⊢
  have ow := fb_sm_one oz g3
  have hb3 : ∀ c, c < 36 → d3 c < 2 ^ 24 ∧ w3 c < 2 ^ 24 := fun c hc => by
    have h1 := fb_sm_one d3 hc
    have h2 := fb_sm_one w3 hc
    omega
  obtain ⟨r1, p1, p2⟩ := b_rot (T := T) (so := R1 d) (fr := R2 d) (we := 0) (D := b.1) (W := b.2.1) m3 (fun c hc => (hb3 c hc).1)
  obtain ⟨r2, p3, p4⟩ := b_rot (T := T) (so := R1 d) (fr := R2 d) (we := 1) (D := b.1) (W := b.2.1) m4 (fun c hc => (hb3 c hc).2)
  have s1 : fb_sm (fun c => d3 c - r1 c) 36 + fb_sm r1 36 = fb_sm d3 36 := by rw [← fb_sm_add]; exact fb_sm_cong fun c hc => by have := p2 c hc; omega
  have s2 : fb_sm (fun c => w3 c - r2 c) 36 + fb_sm r2 36 = fb_sm w3 36 := by rw [← fb_sm_add]; exact fb_sm_cong fun c hc => by have := p4 c hc; omega
  have sH : fb_sm (fun t => hz t - kz t) tn + fb_sm kz tn = fb_sm hz tn := by rw [← fb_sm_add]; exact fb_sm_cong fun c hc => by have := m7 c hc; omega
  have sO := b_nu_sm (z := oz) (v := o3) g3
  refine ⟨fun c => d3 c - r1 c, fun c => w3 c - r2 c, fun t => hz t - kz t, b_nu oz (wk d) o3, r + fb_sm r1 36 + fb_sm r2 36, fb_sm kz tn, fun c hc => ?_, fun c hc => ?_, fun t ht => ?_, b_upd i4 m5, b_rots p1 p3 i5 36 (Nat.le_refl 36), ?_, by omega, by omega⟩
  · show b.1 c - s_rt T (R1 d) (R2 d) 0 b.1 b.1 b.2.1 c = nI (d3 c - r1 c)
    rw [m3 c hc, p1 c hc, pk_sub (p2 c hc)]
  · show b.2.1 c - s_rt T (R1 d) (R2 d) 1 b.2.1 b.1 b.2.1 c = nI (w3 c - r2 c)
    rw [m4 c hc, p3 c hc, pk_sub (p4 c hc)]
  · show (if t < tn then h t - s_k T (R1 d) (R2 d) (R3 d) ts h t else h t) = nI (hz t - kz t)
    rw [if_pos ht, i3 t ht, m6 t ht, pk_sub (m7 t ht)]
  · rw [b_acc (f := 0) (a := 0) nI_0.symm m6 tn (Nat.le_refl tn), Nat.zero_add]
/-- a garden as the calls leave it -/
def s_good (G : sG) : Prop := match G with
  | (_, _, mf, _, tk, tn, lv, tl, P, _, wk, _, _, _) => tn ≤ 4 ∧ (∀ t, t < tn → tk t < 36) ∧ (∀ j, j < 14 → wk j < 4) ∧ (∀ j, j < 36 → 0 ≤ mf j ∧ mf j ≤ 99) ∧ (∃ e, e < 36 ∧ P e = true) ∧ (∀ j, j < 36 → 0 ≤ lv j ∧ lv j ≤ 999) ∧ ∀ t, t < tn → 0 ≤ tl t ∧ tl t ≤ 999
/-- the numbers behind a state: dry, wet, hanging, off, rotten, raked, fallen till then -/
def b_inv (tn L H : Nat) (F : Int32) (s : sS) (dz wz hz oz : Nat → Nat) (r k a : Nat) : Prop := b_eq 36 s.1 dz ∧ b_eq 36 s.2.1 wz ∧ b_eq tn s.2.2.2.1 hz ∧ b_eq 4 s.2.2.2.2.2.1 oz ∧ s.2.2.2.2.2.2.1 = nI r ∧ s.2.2.2.2.2.2.2.1 = nI k ∧ F = nI a ∧ fb_sm dz 36 + fb_sm wz 36 + fb_sm oz 4 + r + k = L + a ∧ a + fb_sm hz tn = H
theorem b_h0 {tn : Nat} {tl : sF} {tz : Nat → Nat} (h : b_eq tn tl tz) : b_eq tn (s_h0 tn tl) tz := fun t ht => by
  show (if t < tn then tl t else 0) = _
  rw [if_pos ht]
  exact h t ht
section BG
variable {G : sG} {T : sT} {kf mf ts lv tl R1 R2 R3 : sF} {tk wk : Nat → Nat} {tn d : Nat} {P : Nat → Bool} {rg : Int32} {lz tz dz wz hz oz : Nat → Nat} {r k a L H : Nat}
theorem b_inv_0 (hG : G = (T, kf, mf, ts, tk, tn, lv, tl, P, rg, wk, R1, R2, R3)) (hl : b_eq 36 lv lz) (ht : b_eq tn tl tz) : b_inv tn (fb_sm lz 36) (fb_sm tz tn) (s_sum (s_fl G) 0) (s_gone G 0) lz (fun _ => 0) tz (fun _ => 0) 0 0 0 := by
  have e : s_gone G 0 = s_begin lv tl tn := by rw [hG]; rfl
  rw [e]
  refine ⟨hl, fun c _ => nI_0.symm, b_h0 ht, fun c _ => nI_0.symm, nI_0.symm, nI_0.symm, nI_0.symm, ?_, ?_⟩
  · rw [fb_sm_const, fb_sm_const]
  · omega
theorem b_step (hG : G = (T, kf, mf, ts, tk, tn, lv, tl, P, rg, wk, R1, R2, R3)) (g2 : ∀ t, t < tn → tk t < 36) (g3 : wk d < 4) (g4 : ∀ j, j < 36 → 0 ≤ mf j ∧ mf j ≤ 99) (hl : L + H < 2 ^ 23) (hi : b_inv tn L H (s_sum (s_fl G) d) (s_gone G d) dz wz hz oz r k a) : ∃ (dz wz hz oz : Nat → Nat) (r k a : Nat), b_inv tn L H (s_sum (s_fl G) (d + 1)) (s_gone G (d + 1)) dz wz hz oz r k a := by
  generalize hs : s_gone G d = s at hi
  obtain ⟨D, W, cv, h, f0, o, rt, rk, ct⟩ := s
  obtain ⟨i1, i2, i3, i4, i5, i6, i7, i8, i9⟩ := hi
  have i1 : b_eq 36 D dz := i1
  have i2 : b_eq 36 W wz := i2
  have i3 : b_eq tn h hz := i3
  have i4 : b_eq 4 o oz := i4
  have i5 : rt = nI r := i5
  have i6 : rk = nI k := i6
  obtain ⟨d4, w4, h4, o4, r4, f, m1, m2, m3, m4, m5, m6, m7, m8⟩ := b_half (T := T) (kf := kf) (mf := mf) (ts := ts) (R1 := R1) (R2 := R2) (R3 := R3) (tk := tk) (wk := wk) (d := d) (M := L + H) hl g2 g3 g4 i1 i2 i3 i4 i5 (by omega)
  have hsum : s_sum (s_fl G) (d + 1) = s_sum (s_fl G) d + s_fl G d := rfl
  by_cases hr : s_rk rg d
  · have e := s_day_t (T := T) (kf := kf) (mf := mf) (ts := ts) (tk := tk) (tn := tn) (lv := lv) (tl := tl) (P := P) (rg := rg) (wk := wk) (R1 := R1) (R2 := R2) (R3 := R3) (d := d) (D := D) (W := W) (cv := cv) (h := h) (f0 := f0) (o := o) (rt := rt) (rk := rk) (ct := ct) hr
    rw [← hG, ← hs] at e
    replace e : s_gone G (d + 1) = _ := e
    have hfl : s_fl G d = nI f := by unfold s_fl; rw [e]; exact m6
    rw [e, hsum, i7, hfl]
    refine ⟨fun _ => 0, fun _ => 0, h4, o4, r4, k + fb_sm d4 36 + fb_sm w4 36, a + f, fun c _ => nI_0.symm, fun c _ => nI_0.symm, m3, m4, m5, ?_, nI_add a f, ?_, by omega⟩
    · show rk + s_sum (fun j => _ + _) 36 = _
      rw [b_sum (z := fun c => d4 c + w4 c) (n := 36) (fun c hc => by rw [← nI_add, ← m1 c hc, ← m2 c hc]) 36 (Nat.le_refl 36), i6, nI_add, fb_sm_add, Nat.add_assoc]
    · rw [fb_sm_const]; omega
  · have e := s_day_f (T := T) (kf := kf) (mf := mf) (ts := ts) (tk := tk) (tn := tn) (lv := lv) (tl := tl) (P := P) (rg := rg) (wk := wk) (R1 := R1) (R2 := R2) (R3 := R3) (d := d) (D := D) (W := W) (cv := cv) (h := h) (f0 := f0) (o := o) (rt := rt) (rk := rk) (ct := ct) hr
    rw [← hG, ← hs] at e
    replace e : s_gone G (d + 1) = _ := e
    have hfl : s_fl G d = nI f := by unfold s_fl; rw [e]; exact m6
    rw [e, hsum, i7, hfl]
    exact ⟨d4, w4, h4, o4, r4, k, a + f, m1, m2, m3, m4, m5, i6, nI_add a f, by omega, by omega⟩
theorem b_all (hG : G = (T, kf, mf, ts, tk, tn, lv, tl, P, rg, wk, R1, R2, R3)) (g2 : ∀ t, t < tn → tk t < 36) (g3 : ∀ j, j < 14 → wk j < 4) (g4 : ∀ j, j < 36 → 0 ≤ mf j ∧ mf j ≤ 99) (hl : b_eq 36 lv lz) (ht : b_eq tn tl tz) (h3 : fb_sm lz 36 + fb_sm tz tn < 2 ^ 23) : ∀ d, d ≤ 14 → ∃ (dz wz hz oz : Nat → Nat) (r k a : Nat), b_inv tn (fb_sm lz 36) (fb_sm tz tn) (s_sum (s_fl G) d) (s_gone G d) dz wz hz oz r k a
  | 0, _ => ⟨_, _, _, _, _, _, _, b_inv_0 hG hl ht⟩
  | d + 1, hd => by
    obtain ⟨dz, wz, hz, oz, r, k, a, hi⟩ := b_all hG g2 g3 g4 hl ht h3 d (by omega)
    exact b_step hG g2 (g3 d (by omega)) g4 h3 hi
end BG
/-- the numbers of a good garden's leaves -/
theorem b_start {lv tl : sF} {tn : Nat} (g1 : tn ≤ 4) (g6 : ∀ j, j < 36 → 0 ≤ lv j ∧ lv j ≤ 999) (g7 : ∀ t, t < tn → 0 ≤ tl t ∧ tl t ≤ 999) : ∃ lz tz : Nat → Nat, b_eq 36 lv lz ∧ b_eq tn tl tz ∧ fb_sm lz 36 + fb_sm tz tn ≤ 39960 := by
  obtain ⟨lz, h1⟩ := b_fun (n := 36) (P := fun j k => lv j = nI k ∧ k ≤ 999) (fun j hj => by
    obtain ⟨k, a, b⟩ := b_rng (M := 999) (n := 999) rfl (by decide) (g6 j hj)
    exact ⟨k, b, a⟩)
  obtain ⟨tz, h2⟩ := b_fun (n := tn) (P := fun j k => tl j = nI k ∧ k ≤ 999) (fun j hj => by
    obtain ⟨k, a, b⟩ := b_rng (M := 999) (n := 999) rfl (by decide) (g7 j hj)
    exact ⟨k, b, a⟩)
  refine ⟨lz, tz, fun j hj => (h1 j hj).1, fun j hj => (h2 j hj).1, ?_⟩
  have e1 := fb_sm_bound (f := lz) (c := 999) (n := 36) (fun j hj => (h1 j hj).2)
  have e2 := fb_sm_bound (f := tz) (c := 999) (n := tn) (fun j hj => (h2 j hj).2)
  have e3 : tn * 999 ≤ 4 * 999 := Nat.mul_le_mul_right _ g1
  omega
theorem q_nI0 {a b : Nat} (h : nI a + nI b = 0) (hb : a + b < 2 ^ 31) : a = 0 ∧ b = 0 := by
  rw [nI_add] at h
  have := (nI_eq (a := a + b) (b := 0) hb (by decide)).mp (h.trans nI_0.symm)
  omega
theorem s_good_hz {G : sG} (hg : s_good G) : s_hz G ∧ s_hz3 G := by
  obtain ⟨T, kf, mf, ts, tk, tn, lv, tl, P, rg, wk, R1, R2, R3⟩ := G
  obtain ⟨g1, g2, g3, g4, g5, g6, g7⟩ := hg
  obtain ⟨lz, tz, h1, h2, h3⟩ := b_start g1 g6 g7
  generalize hG : (T, kf, mf, ts, tk, tn, lv, tl, P, rg, wk, R1, R2, R3) = G
  have key := b_all hG.symm g2 g3 g4 h1 h2 (by omega)
  constructor
  · intro d hd c hc
    obtain ⟨dz, wz, hz, oz, r, k, a, hi⟩ := key d (by omega)
    generalize s_gone G d = s at hi ⊢
    obtain ⟨D, W, cv, h, f0, o, rt, rk, ct⟩ := s
    obtain ⟨i1, i2, i3, i4, i5, i6, i7, i8, i9⟩ := hi
    obtain ⟨d2, w2, d3, w3, kz, o3, m1, m2, m3, m4, m5, m6, m7, m8, m9, m10⟩ := b_mid (T := T) (kf := kf) (mf := mf) (ts := ts) (R1 := R1) (R2 := R2) (R3 := R3) (tk := tk) (wk := wk) (d := d) (D := D) (W := W) (h := h) (o := o) (M := 39960) (by decide) g2 (g3 d hd) g4 i1 i2 i3 i4 (by omega)
    have e1 := fb_sm_one d2 hc
    have e2 := fb_sm_one w2 hc
    rw [← hG]
    show s_D2 T (R1 d) (R2 d) (R3 d) ts tk tn h D W c + s_W2 T (R1 d) (R2 d) (R3 d) ts tk tn h D W c = 0 → s_D2 T (R1 d) (R2 d) (R3 d) ts tk tn h D W c = 0 ∧ s_W2 T (R1 d) (R2 d) (R3 d) ts tk tn h D W c = 0
    rw [m1 c hc, m2 c hc]
    intro h9
    obtain ⟨q1, q2⟩ := q_nI0 h9 (by omega)
    rw [q1, q2]
    exact ⟨nI_0, nI_0⟩
  · intro d hd c hc
    obtain ⟨dz, wz, hz, oz, r, k, a, hi⟩ := key d (by omega)
    generalize s_gone G d = s at hi ⊢
    obtain ⟨D, W, cv, h, f0, o, rt, rk, ct⟩ := s
    obtain ⟨i1, i2, i3, i4, i5, i6, i7, i8, i9⟩ := hi
    obtain ⟨d2, w2, d3, w3, kz, o3, m1, m2, m3, m4, m5, m6, m7, m8, m9, m10⟩ := b_mid (T := T) (kf := kf) (mf := mf) (ts := ts) (R1 := R1) (R2 := R2) (R3 := R3) (tk := tk) (wk := wk) (d := d) (D := D) (W := W) (h := h) (o := o) (M := 39960) (by decide) g2 (g3 d hd) g4 i1 i2 i3 i4 (by omega)
    have e1 := fb_sm_one d3 hc
    have e2 := fb_sm_one w3 hc
    have e3 := fb_sm_one oz (g3 d hd)
    have eb : s_gb G d (D, W, cv, h, f0, o, rt, rk, ct) = s_b T kf mf (wk d) (R1 d) (R2 d) (R3 d) ts tk tn h D W (o (wk d)) := by rw [← hG]; rfl
    rw [eb]
    rw [m3 c hc, m4 c hc]
    intro h9
    obtain ⟨q1, q2⟩ := q_nI0 h9 (by omega)
    rw [q1, q2]
    exact ⟨nI_0, nI_0⟩
