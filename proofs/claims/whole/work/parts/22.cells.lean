/-! The cells of the class: 0 the object, 1 .. 5 its arrays, 6 .. 37 answers, 38 .. 77 navigables, 78 .. 117 documents, 118 .. 157 entries. -/
def jc_fJ (ad : Nat → Nat) (s : js_S) : List Value := [.ref (ad 1), .ref (ad 2), .ref (ad 3), .ref (ad 4), .ref (ad 5), .int (s 21 0), .int (s 22 0), .int (s 23 0), .int (s 24 0)]
def jc_fA (aK : Nat → Nat) (s : js_S) (i : Nat) : List Value := [jv aK 0 (s 0 i), .int (s 1 i), .int (s 2 i), .int (s 3 i), .int (s 4 i)]
def jc_fN (ad : Nat → Nat) (s : js_S) (i : Nat) : List Value := [.int (nI i), .int (s 5 i), .int (s 6 i), jv ad 78 (s 7 i)]
def jc_fD (ad : Nat → Nat) (s : js_S) (i : Nat) : List Value := [.int (s 8 i), jv ad 38 (s 9 i), .int (s 10 i), .int (s 11 i), jv ad 38 (s 12 i), jv ad 38 (s 13 i)]
def jc_fE (ad : Nat → Nat) (s : js_S) (i : Nat) : List Value := [.int (s 14 i), jv ad 38 (s 15 i), .int (s 16 i), .int (s 17 i), .int (s 18 i), jv ad 78 (s 19 i)]
def jc_cell (ad aK : Nat → Nat) (cA : Nat → ClassId) (s : js_S) (k : Nat) : va_E :=
  if k = 0 then .inr (0, jc_fJ ad s)
  else if k = 1 then .inl (cA 0, 32, .inr (.inr (.inr (.inr (fun i => some (ad (6 + i)))))))
  else if k = 2 then .inl (cA 1, 40, .inr (.inr (.inr (.inr (fun i => some (ad (38 + i)))))))
  else if k = 3 then .inl (cA 2, 40, .inr (.inr (.inr (.inr (fun i => some (ad (78 + i)))))))
  else if k = 4 then .inl (cA 3, 40, .inr (.inr (.inr (.inr (fun i => some (ad (118 + i)))))))
  else if k = 5 then .inl (cA 4, 40, .inl (fun i => s 20 i))
  else if k < 38 then .inr (1, jc_fA aK s (k - 6))
  else if k < 78 then .inr (2, jc_fN ad s (k - 38))
  else if k < 118 then .inr (3, jc_fD ad s (k - 78))
  else .inr (4, jc_fE ad s (k - 118))
def jc_tys (cA : Nat → ClassId) : List (ClassId × FieldType) := [(cA 0, .object "JointHistory$Answer"), (cA 1, .object "JointHistory$Navigable"), (cA 2, .object "JointHistory$Document"), (cA 3, .object "JointHistory$Entry"), (cA 4, .int), (cA 5, .boolean)]
theorem jc_cJ {ad aK : Nat → Nat} {cA : Nat → ClassId} {s : js_S} : jc_cell ad aK cA s 0 = .inr (0, jc_fJ ad s) := rfl
theorem jc_c1 {ad aK : Nat → Nat} {cA : Nat → ClassId} {s : js_S} : jc_cell ad aK cA s 1 = .inl (cA 0, 32, .inr (.inr (.inr (.inr (fun i => some (ad (6 + i))))))) := by simp [jc_cell]
theorem jc_c2 {ad aK : Nat → Nat} {cA : Nat → ClassId} {s : js_S} : jc_cell ad aK cA s 2 = .inl (cA 1, 40, .inr (.inr (.inr (.inr (fun i => some (ad (38 + i))))))) := by simp [jc_cell]
theorem jc_c3 {ad aK : Nat → Nat} {cA : Nat → ClassId} {s : js_S} : jc_cell ad aK cA s 3 = .inl (cA 2, 40, .inr (.inr (.inr (.inr (fun i => some (ad (78 + i))))))) := by simp [jc_cell]
theorem jc_c4 {ad aK : Nat → Nat} {cA : Nat → ClassId} {s : js_S} : jc_cell ad aK cA s 4 = .inl (cA 3, 40, .inr (.inr (.inr (.inr (fun i => some (ad (118 + i))))))) := by simp [jc_cell]
theorem jc_c5 {ad aK : Nat → Nat} {cA : Nat → ClassId} {s : js_S} : jc_cell ad aK cA s 5 = .inl (cA 4, 40, .inl (fun i => s 20 i)) := by simp [jc_cell]
theorem jc_cA {ad aK : Nat → Nat} {cA : Nat → ClassId} {s : js_S} {i : Nat} (h : i < 32) : jc_cell ad aK cA s (6 + i) = .inr (1, jc_fA aK s i) := by
  unfold jc_cell
  rw [if_neg (by omega), if_neg (by omega), if_neg (by omega), if_neg (by omega), if_neg (by omega), if_neg (by omega), if_pos (by omega), show 6 + i - 6 = i by omega]
theorem jc_cN {ad aK : Nat → Nat} {cA : Nat → ClassId} {s : js_S} {i : Nat} (h : i < 40) : jc_cell ad aK cA s (38 + i) = .inr (2, jc_fN ad s i) := by
  unfold jc_cell
  rw [if_neg (by omega), if_neg (by omega), if_neg (by omega), if_neg (by omega), if_neg (by omega), if_neg (by omega), if_neg (by omega), if_pos (by omega), show 38 + i - 38 = i by omega]
theorem jc_cD {ad aK : Nat → Nat} {cA : Nat → ClassId} {s : js_S} {i : Nat} (h : i < 40) : jc_cell ad aK cA s (78 + i) = .inr (3, jc_fD ad s i) := by
  unfold jc_cell
  rw [if_neg (by omega), if_neg (by omega), if_neg (by omega), if_neg (by omega), if_neg (by omega), if_neg (by omega), if_neg (by omega), if_neg (by omega), if_pos (by omega), show 78 + i - 78 = i by omega]
theorem jc_cE {ad aK : Nat → Nat} {cA : Nat → ClassId} {s : js_S} {i : Nat} (h : i < 40) : jc_cell ad aK cA s (118 + i) = .inr (4, jc_fE ad s i) := by
  unfold jc_cell
  rw [if_neg (by omega), if_neg (by omega), if_neg (by omega), if_neg (by omega), if_neg (by omega), if_neg (by omega), if_neg (by omega), if_neg (by omega), if_neg (by omega), show 118 + i - 118 = i by omega]
/-- two stores that give the same cells -/
theorem jc_cell_eq {ad aK : Nat → Nat} {cA : Nat → ClassId} {s s' : js_S} {k : Nat} (hk : k < 158) (hJ : k = 0 → jc_fJ ad s' = jc_fJ ad s) (hU : k = 5 → ∀ i, s' 20 i = s 20 i) (hA : ∀ i, i < 32 → k = 6 + i → jc_fA aK s' i = jc_fA aK s i) (hN : ∀ i, i < 40 → k = 38 + i → jc_fN ad s' i = jc_fN ad s i) (hD : ∀ i, i < 40 → k = 78 + i → jc_fD ad s' i = jc_fD ad s i) (hE : ∀ i, i < 40 → k = 118 + i → jc_fE ad s' i = jc_fE ad s i) : jc_cell ad aK cA s' k = jc_cell ad aK cA s k := by
  by_cases h0 : k = 0
  · subst h0
    rw [jc_cJ, jc_cJ, hJ rfl]
  by_cases h1 : k = 1
  · subst h1; rw [jc_c1, jc_c1]
  by_cases h2 : k = 2
  · subst h2; rw [jc_c2, jc_c2]
  by_cases h3 : k = 3
  · subst h3; rw [jc_c3, jc_c3]
  by_cases h4 : k = 4
  · subst h4; rw [jc_c4, jc_c4]
  by_cases h5 : k = 5
  · subst h5
    have e : (fun i => s' 20 i) = (fun i => s 20 i) := funext (hU rfl)
    rw [jc_c5, jc_c5, e]
  by_cases h6 : k < 38
  · obtain ⟨i, rfl⟩ : ∃ i, k = 6 + i := ⟨k - 6, by omega⟩
    rw [jc_cA (by omega), jc_cA (by omega), hA i (by omega) rfl]
  by_cases h7 : k < 78
  · obtain ⟨i, rfl⟩ : ∃ i, k = 38 + i := ⟨k - 38, by omega⟩
    rw [jc_cN (by omega), jc_cN (by omega), hN i (by omega) rfl]
  by_cases h8 : k < 118
  · obtain ⟨i, rfl⟩ : ∃ i, k = 78 + i := ⟨k - 78, by omega⟩
    rw [jc_cD (by omega), jc_cD (by omega), hD i (by omega) rfl]
  · obtain ⟨i, rfl⟩ : ∃ i, k = 118 + i := ⟨k - 118, by omega⟩
    rw [jc_cE (by omega), jc_cE (by omega), hE i (by omega) rfl]
