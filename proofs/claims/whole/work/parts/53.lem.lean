/-! Small facts for the reference's walks. -/
theorem jm_make_i {u : js_S} {nav url : Int32} {i : Nat} (h : i = js_free u 10 47 0) : jm_make u nav url = jm_mkB (jm_mkS (jm_mk0 u i) i url (jm_under (jm_mk0 u i) nav)) i (jm_mk0 u i 16 (ix nav)) url (jm_under (jm_mk0 u i) nav) := by
  subst h
  rfl
theorem jm_under_z {u : js_S} {a : Int32} : jm_under u a = 0 ∨ jm_under u a = 1 := by
  unfold jm_under
  split
  · exact Or.inl rfl
  · split
    · exact Or.inl rfl
    · exact Or.inr rfl
theorem jm_mb_z {u : js_S} {a : Int32} : jm_mb u a = 0 ∨ jm_mb u a = 1 := by
  unfold jm_mb
  split
  · split
    · exact Or.inl rfl
    · exact Or.inr rfl
  · exact Or.inr rfl
theorem jm_cb_z {u : js_S} {e : Nat} : jm_cb u e = 0 ∨ jm_cb u e = 1 := by
  unfold jm_cb
  split
  · exact Or.inl rfl
  · split
    · exact Or.inl rfl
    · exact Or.inr rfl
theorem jm_an_z {a b : Int32} : jm_an a b = 0 ∨ jm_an a b = 1 := by
  unfold jm_an
  split
  · exact Or.inl rfl
  · split
    · exact Or.inl rfl
    · exact Or.inr rfl
theorem jm_k0_z {k : Nat} : jm_k0 k = 0 ∨ jm_k0 k = 1 := by
  unfold jm_k0
  split
  · exact Or.inr rfl
  · exact Or.inl rfl
