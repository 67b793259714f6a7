theorem lw_vin {j L : Nat} (h : j < L) (hL : L ≤ 2560) : vp_in (nI j) L := nI_in h (by omega)
theorem lw_z0 : (0 : Int32) = 0 ∨ (0 : Int32) = 1 := Or.inl rfl
theorem lw_z1 : (1 : Int32) = 0 ∨ (1 : Int32) = 1 := Or.inr rfl
theorem lw_cmp0 {x : Int64} : lg_cmp x x = 0 := by
  unfold lg_cmp
  rw [if_neg (show ¬ x > x from Int64.lt_irrefl), if_pos rfl]
