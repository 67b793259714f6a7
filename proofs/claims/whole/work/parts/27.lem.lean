/-! Small facts of numbers that the walks of the class want. -/
theorem js_in {x : Int32} (k : Nat) (hk : k < 2 ^ 31) (h0 : ¬ x < 0) (h1 : ¬ nI k ≤ x) : ∃ i, i < k ∧ x = nI i := by
  rcases pk_ix x hk with h | h | h
  · exact absurd h h0
  · exact absurd h h1
  · exact h
theorem js_pg {x : Int32} (h : jq 256 x) (hx : ¬ x = -1) : ∃ i, i < 32 ∧ x / 8 = nI i := by
  obtain ⟨j, hj, rfl⟩ := jq_ne h hx
  exact ⟨j / 8, by omega, pk_div (d := 8) (by omega) (by decide) (by decide)⟩
theorem js_hs {x : Int32} (h : jq 256 x) (hx : ¬ x = -1) : ∃ i, i < 4 ∧ x / 64 = nI i := by
  obtain ⟨j, hj, rfl⟩ := jq_ne h hx
  exact ⟨j / 64, by omega, pk_div (d := 64) (by omega) (by decide) (by decide)⟩
theorem jc_frag_nI {j : Nat} (hj : j < 2 ^ 31) : jc_frag (nI j) = nI (j % 8) := by
  unfold jc_frag
  rw [if_neg (nI_m1 hj)]
  exact pk_rem (d := 8) hj (by decide) (by decide)
theorem jc_isDet_ne {u : js_S} {x : Int32} (h : ¬ jc_isDet u x = 0) : ¬ x = -1 := by
  intro e
  apply h
  simp [jc_isDet, e]
theorem jc_Sax {u : js_S} (h : jc_Sh u) {x : Int32} (hx : ∃ i, i < 40 ∧ x = nI i) (ht : ¬ u 7 (ix x) = -1) : ∃ j, j < 40 ∧ u 9 (ix (u 7 (ix x))) = nI j := by
  obtain ⟨i, hi, rfl⟩ := hx
  rw [ix_nI (by omega)] at ht ⊢
  exact jc_Sa h hi ht
theorem jc_Skx {u : js_S} (h : jc_Sh u) {x : Int32} (hx : ∃ i, i < 32 ∧ x = nI i) : jq 3 (u 0 (ix x)) := by
  obtain ⟨i, hi, rfl⟩ := hx
  rw [ix_nI (by omega)]
  exact jc_Sk h hi
theorem jc_Stx {u : js_S} (h : jc_Sh u) {x : Int32} (hx : ∃ i, i < 32 ∧ x = nI i) : ∃ j, j < 256 ∧ u 4 (ix x) = nI j := by
  obtain ⟨i, hi, rfl⟩ := hx
  rw [ix_nI (by omega)]
  exact (h.1 i hi).2.1
theorem jc_Sfx {u : js_S} (h : jc_Sh u) {x : Int32} (hx : ∃ i, i < 32 ∧ x = nI i) (hn : ¬ u 1 (ix x) = -2) : jq 256 (u 1 (ix x)) := by
  obtain ⟨i, hi, rfl⟩ := hx
  rw [ix_nI (by omega)] at hn ⊢
  exact (h.1 i hi).2.2.1.resolve_left hn
theorem jc_Ssx {u : js_S} (h : jc_Sh u) {x : Int32} (hx : ∃ i, i < 32 ∧ x = nI i) (hn : ¬ u 2 (ix x) = -2) : jq 256 (u 2 (ix x)) := by
  obtain ⟨i, hi, rfl⟩ := hx
  rw [ix_nI (by omega)] at hn ⊢
  exact (h.1 i hi).2.2.2.resolve_left hn
theorem js_tf {t x : Int32} (ht : ∃ j, j < 256 ∧ t = nI j) (hx : jq 256 x) (h0 : jc_frag t = 0) : jq 256 (t + jc_frag x) := by
  obtain ⟨j, hj, rfl⟩ := ht
  rw [jc_frag_nI (by omega)] at h0
  have h8 : j % 8 = 0 := by
    have := (nI_eq (a := j % 8) (b := 0) (by omega) (by omega)).mp h0
    exact this
  rcases hx with rfl | ⟨k, hk, rfl⟩
  · simp only [jc_frag]
    exact Or.inr ⟨j, hj, by simp⟩
  · rw [jc_frag_nI (by omega), nI_add]
    exact jq_nI (by omega)
theorem jc_led {u : js_S} (h : jc_Sh u) {x : Int32} (hx : jq 256 x) (hd : ¬ jc_isDet u x = 0) : jq 256 (if jc_frag (u 4 (ix (x / 8))) = 0 then u 4 (ix (x / 8)) + jc_frag x else u 4 (ix (x / 8))) := by
  have ht := jc_Stx h (js_pg hx (jc_isDet_ne hd))
  split
  · rename_i h0
    exact js_tf ht hx h0
  · exact Or.inr ht
theorem jc_fd_ok {u : js_S} (h : jc_Sh u) : ∀ (k : Nat) {x : Int32}, jq 256 x → jq 256 (jc_fd u k x)
  | 0, x, hx => hx
  | k + 1, x, hx => by
    unfold jc_fd
    split
    · exact hx
    · rename_i hd
      exact jc_fd_ok h k (jc_led h hx hd)
theorem jc_boxed_z {u : js_S} {a : Int32} : jc_boxed u a = 0 ∨ jc_boxed u a = 1 := by
  unfold jc_boxed
  split
  · exact Or.inl rfl
  · split
    · exact Or.inl rfl
    · exact Or.inr rfl
theorem jc_bx_z {u : js_S} {a b : Int32} : jc_bx u a b = 0 ∨ jc_bx u a b = 1 := by
  unfold jc_bx
  split
  · split
    · exact Or.inl rfl
    · exact Or.inr rfl
  · exact Or.inr rfl
theorem jc_Sh_fdx {u : js_S} (h : jc_Sh u) {o : Int32} (ho : ∃ i, i < 40 ∧ o = nI i) : jc_Sh (jc_freeDoc u o) := by
  obtain ⟨i, hi, rfl⟩ := ho
  exact jc_Sh_fd h hi
theorem jc_Sh_ldC {u : js_S} (h : jc_Sh u) {i : Nat} {url bx : Int32} : jc_Sh (jc_ldC u i url bx) := by
  unfold jc_ldC
  split
  · exact jc_Sh_10 (jc_Sh_11 h)
  · exact jc_Sh_opq (jc_Sh_11 h)
theorem jc_Sh_ldA {u : js_S} (h : jc_Sh u) {i : Nat} {a b : Int32} : jc_Sh (jc_ldA u i a b) := by
  unfold jc_ldA
  split
  · exact jc_Sh_opq (jc_Sh_11 h)
  · split
    · exact jc_Sh_10 (jc_Sh_11 h)
    · exact jc_Sh_opq (jc_Sh_11 h)
