/-! ===== the Model's operations put behind one another ===== -/
def p_mapp (mc : sF) (z : Nat) (l : List Int32) : sF := p_app mc z (l.map s_mop)
section PMAPP
variable {cd cd1 cd2 : sF} {z z1 : Nat} {c1 c2 : List Int32} {v : Int32}
theorem p_mapp_s (h : ∀ j, cd1 j = p_mapp cd z c1 j) (hz : z1 = z + c1.length) : ∀ j, upd cd1 z1 (s_mop v) j = p_mapp cd z (c1 ++ [v]) j := fun j => by
  unfold p_mapp
  rw [List.map_append]
  exact p_app_s (c1 := c1.map s_mop) (v := s_mop v) h (by rw [List.length_map]; exact hz) j
theorem p_mapp_1 : ∀ j, upd cd z (s_mop v) j = p_mapp cd z [v] j := p_app_1
theorem p_mapp_2 (h : ∀ j, cd1 j = p_mapp cd z c1 j) (h2 : ∀ j, cd2 j = p_mapp cd1 z1 c2 j) (hz : z1 = z + c1.length) : ∀ j, cd2 j = p_mapp cd z (c1 ++ c2) j := fun j => by
  unfold p_mapp
  rw [List.map_append]
  exact p_app_2 (c1 := c1.map s_mop) (c2 := c2.map s_mop) h h2 (by rw [List.length_map]; exact hz) j
end PMAPP
theorem p_low {cd cd2 : sF} {z lim : Nat} {c : List Int32} (h : ∀ j, cd2 j = p_mapp cd z c j) (hz : lim ≤ z) : ∀ j, j < lim → cd2 j = cd j := fun j hj => (h j).trans (p_app_out (by omega))
