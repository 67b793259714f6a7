/-! What the references and numbers of the class's store always are: so no call meets null where it must not, and no place is out of its array. -/
def jc_Sh (u : js_S) : Prop :=
  (∀ i, i < 32 → (∃ j, j < 3 ∧ u 0 i = nI j) ∧ (∃ j, j < 256 ∧ u 4 i = nI j) ∧ (u 1 i = -2 ∨ jq 256 (u 1 i)) ∧ (u 2 i = -2 ∨ jq 256 (u 2 i))) ∧
  (∀ i, i < 40 → jq 40 (u 7 i) ∧ jq 40 (u 9 i) ∧ jq 40 (u 12 i) ∧ jq 40 (u 13 i) ∧ jq 40 (u 15 i) ∧ jq 40 (u 19 i)) ∧
  (∀ i, i < 40 → u 14 i ≠ 0 → u 15 i ≠ -1 ∧ u 19 i ≠ -1) ∧
  (∀ i, i < 40 → u 7 i ≠ -1 → u 9 (ix (u 7 i)) ≠ -1)
theorem jc_S7 {u : js_S} (h : jc_Sh u) {i : Nat} (hi : i < 40) : jq 40 (u 7 i) := (h.2.1 i hi).1
theorem jc_S7x {u : js_S} (h : jc_Sh u) {x : Int32} (hx : ∃ i, i < 40 ∧ x = nI i) : jq 40 (u 7 (ix x)) := by
  obtain ⟨i, hi, rfl⟩ := hx
  rw [ix_nI (by omega)]
  exact jc_S7 h hi
theorem jc_S9 {u : js_S} (h : jc_Sh u) {i : Nat} (hi : i < 40) : jq 40 (u 9 i) := (h.2.1 i hi).2.1
theorem jc_S9x {u : js_S} (h : jc_Sh u) {x : Int32} (hx : ∃ i, i < 40 ∧ x = nI i) : jq 40 (u 9 (ix x)) := by
  obtain ⟨i, hi, rfl⟩ := hx
  rw [ix_nI (by omega)]
  exact jc_S9 h hi
theorem jc_S12 {u : js_S} (h : jc_Sh u) {i : Nat} (hi : i < 40) : jq 40 (u 12 i) := (h.2.1 i hi).2.2.1
theorem jc_S12x {u : js_S} (h : jc_Sh u) {x : Int32} (hx : ∃ i, i < 40 ∧ x = nI i) : jq 40 (u 12 (ix x)) := by
  obtain ⟨i, hi, rfl⟩ := hx
  rw [ix_nI (by omega)]
  exact jc_S12 h hi
theorem jc_S13 {u : js_S} (h : jc_Sh u) {i : Nat} (hi : i < 40) : jq 40 (u 13 i) := (h.2.1 i hi).2.2.2.1
theorem jc_S13x {u : js_S} (h : jc_Sh u) {x : Int32} (hx : ∃ i, i < 40 ∧ x = nI i) : jq 40 (u 13 (ix x)) := by
  obtain ⟨i, hi, rfl⟩ := hx
  rw [ix_nI (by omega)]
  exact jc_S13 h hi
theorem jc_S15 {u : js_S} (h : jc_Sh u) {i : Nat} (hi : i < 40) : jq 40 (u 15 i) := (h.2.1 i hi).2.2.2.2.1
theorem jc_S15x {u : js_S} (h : jc_Sh u) {x : Int32} (hx : ∃ i, i < 40 ∧ x = nI i) : jq 40 (u 15 (ix x)) := by
  obtain ⟨i, hi, rfl⟩ := hx
  rw [ix_nI (by omega)]
  exact jc_S15 h hi
theorem jc_S19 {u : js_S} (h : jc_Sh u) {i : Nat} (hi : i < 40) : jq 40 (u 19 i) := (h.2.1 i hi).2.2.2.2.2
theorem jc_S19x {u : js_S} (h : jc_Sh u) {x : Int32} (hx : ∃ i, i < 40 ∧ x = nI i) : jq 40 (u 19 (ix x)) := by
  obtain ⟨i, hi, rfl⟩ := hx
  rw [ix_nI (by omega)]
  exact jc_S19 h hi
theorem jc_Sk {u : js_S} (h : jc_Sh u) {i : Nat} (hi : i < 32) : jq 3 (u 0 i) := Or.inr (h.1 i hi).1
theorem jc_So {u : js_S} (h : jc_Sh u) {i : Nat} (hi : i < 40) (ht : ¬ u 14 i = 0) : ∃ j, j < 40 ∧ u 15 i = nI j := jq_ne (jc_S15 h hi) (h.2.2.1 i hi ht).1
theorem jc_Sd {u : js_S} (h : jc_Sh u) {i : Nat} (hi : i < 40) (ht : ¬ u 14 i = 0) : ∃ j, j < 40 ∧ u 19 i = nI j := jq_ne (jc_S19 h hi) (h.2.2.1 i hi ht).2
theorem jc_Sa {u : js_S} (h : jc_Sh u) {i : Nat} (hi : i < 40) (ht : ¬ u 7 i = -1) : ∃ j, j < 40 ∧ u 9 (ix (u 7 i)) = nI j := jq_ne (jc_S9x h (jq_ne (jc_S7 h hi) ht)) (h.2.2.2 i hi ht)
/-- entryAt answers a row that is there, or none -/
theorem jc_eA_ok {u : js_S} {nav st : Int32} (k : Nat) (hk : k ≤ 40) : jc_eA u nav st k = -1 ∨ ∃ i, i < 40 ∧ jc_eA u nav st k = nI i ∧ ¬ u 14 i = 0 ∧ u 15 i = nav := by
  induction k with
  | zero => exact Or.inl rfl
  | succ k ih =>
    unfold jc_eA
    split
    · rename_i h
      exact Or.inr ⟨k, by omega, rfl, h.1, h.2.1⟩
    · exact ih (by omega)
theorem jc_eA_jq {u : js_S} {nav st : Int32} (k : Nat) (hk : k ≤ 40) : jq 40 (jc_eA u nav st k) := by
  rcases jc_eA_ok (u := u) (nav := nav) (st := st) k hk with h | ⟨i, hi, h, -⟩
  · exact Or.inl h
  · exact Or.inr ⟨i, hi, h⟩
