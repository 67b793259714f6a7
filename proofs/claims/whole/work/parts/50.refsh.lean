/-! The reference: rows for places by number, and what its numbers always are. -/
section JMI
variable {p : Program} {l : Launch} {e : Env} {R : Room} {s : State} {m : MethodId} {args : Array Value} {below : List Frame} {meth : Method} {c : Code} {H : Heap} {locs : List Loc} {cells slots : Nat} {Q : State → Prop} {cc : ByteArray} {pc nL : Nat} {ls : Array Slot} {rest : List Value} {own : String} {D : va_G} {aK : Nat → Nat} {ad : Nat → Nat} {cA : Nat → ClassId} {A : Nat → Prop} {u : js_S}
theorem jmi_ild (hc : jx_C p s m args c cc nL own D (jc_tys cA) aK A) (hh : jx_H D 22 ad (jm_cell ad cA u) A s.heap H locs) (f : Nat) (hf : f < 21) (ht : jm_ty f = 4) {i : Nat} (hi : i < jm_len f) (hdg : decode cc pc = .ok (.iaload, 1))
    (kk : W p l e R s m args below meth c H locs cells slots Q (F0 m (pc + 1) ls (.int (u f i) :: rest))) : W p l e R s m args below meth c H locs cells slots Q (F0 m pc ls (.int (nI i) :: .ref (ad (1 + f)) :: rest)) := by
  refine jm_ild hc hh f hf ht ⟨i, hi, rfl⟩ hdg ?_
  rw [ix_nI (Nat.lt_trans hi (jm_len31 f))]
  exact kk
theorem jmi_zld (hc : jx_C p s m args c cc nL own D (jc_tys cA) aK A) (hh : jx_H D 22 ad (jm_cell ad cA u) A s.heap H locs) (f : Nat) (hf : f < 21) (ht : jm_ty f = 5) {i : Nat} (hi : i < jm_len f) (hdg : decode cc pc = .ok (.baload, 1))
    (kk : W p l e R s m args below meth c H locs cells slots Q (F0 m (pc + 1) ls (.int (u f i) :: rest))) : W p l e R s m args below meth c H locs cells slots Q (F0 m pc ls (.int (nI i) :: .ref (ad (1 + f)) :: rest)) := by
  refine jm_zld hc hh f hf ht ⟨i, hi, rfl⟩ hdg ?_
  rw [ix_nI (Nat.lt_trans hi (jm_len31 f))]
  exact kk
theorem jmi_ist (hc : jx_C p s m args c cc nL own D (jc_tys cA) aK A) (hh : jx_H D 22 ad (jm_cell ad cA u) A s.heap H locs) (f : Nat) (hf : f < 21) (ht : jm_ty f = 4) {i : Nat} {v : Int32} (hi : i < jm_len f) (hdg : decode cc pc = .ok (.iastore, 1))
    (kk : ∀ (H1 : Heap) (locs1 : List Loc), jx_H D 22 ad (jm_cell ad cA (js_up u f i v)) A s.heap H1 locs1 → W p l e R s m args below meth c H1 locs1 cells slots Q (F0 m (pc + 1) ls rest)) : W p l e R s m args below meth c H locs cells slots Q (F0 m pc ls (.int v :: .int (nI i) :: .ref (ad (1 + f)) :: rest)) := by
  refine jm_ist hc hh f hf ht ⟨i, hi, rfl⟩ hdg ?_
  rw [ix_nI (Nat.lt_trans hi (jm_len31 f))]
  exact kk
theorem jmi_zst (hc : jx_C p s m args c cc nL own D (jc_tys cA) aK A) (hh : jx_H D 22 ad (jm_cell ad cA u) A s.heap H locs) (f : Nat) (hf : f < 21) (ht : jm_ty f = 5) {i : Nat} {v : Int32} (hi : i < jm_len f) (hz : v = 0 ∨ v = 1) (hdg : decode cc pc = .ok (.bastore, 1))
    (kk : ∀ (H1 : Heap) (locs1 : List Loc), jx_H D 22 ad (jm_cell ad cA (js_up u f i v)) A s.heap H1 locs1 → W p l e R s m args below meth c H1 locs1 cells slots Q (F0 m (pc + 1) ls rest)) : W p l e R s m args below meth c H locs cells slots Q (F0 m pc ls (.int v :: .int (nI i) :: .ref (ad (1 + f)) :: rest)) := by
  refine jm_zst hc hh f hf ht ⟨i, hi, rfl⟩ hz hdg ?_
  rw [ix_nI (Nat.lt_trans hi (jm_len31 f))]
  exact kk
end JMI
def jm_Sh (u : js_S) : Prop :=
  (∀ i, i < 48 → (∃ j, j < 48 ∧ u 4 i = nI j) ∧ (∃ j, j < 48 ∧ u 8 i = nI j) ∧ jq 48 (u 13 i) ∧ jq 48 (u 14 i) ∧ jq 48 (u 16 i)) ∧
  (∀ i, i < 32 → (u 0 i = 1 → ∃ j, j < 256 ∧ u 1 i = nI j) ∧ (u 1 i = -2 ∨ jq 256 (u 1 i)) ∧ (u 2 i = -2 ∨ jq 256 (u 2 i)))
theorem jq_nn {n : Nat} {x : Int32} (h : jq n x) (h0 : ¬ x < 0) : ∃ i, i < n ∧ x = nI i := by
  rcases h with rfl | h
  · exact absurd (by decide) h0
  · exact h
theorem jm_Sox {u : js_S} (h : jm_Sh u) {x : Int32} (hx : ∃ i, i < 48 ∧ x = nI i) : ∃ j, j < 48 ∧ u 4 (ix x) = nI j := by
  obtain ⟨i, hi, rfl⟩ := hx
  rw [ix_nI (by omega)]
  exact (h.1 i hi).1
theorem jm_Spx {u : js_S} (h : jm_Sh u) {x : Int32} (hx : ∃ i, i < 48 ∧ x = nI i) : ∃ j, j < 48 ∧ u 8 (ix x) = nI j := by
  obtain ⟨i, hi, rfl⟩ := hx
  rw [ix_nI (by omega)]
  exact (h.1 i hi).2.1
theorem jm_Slx {u : js_S} (h : jm_Sh u) {x : Int32} (hx : ∃ i, i < 48 ∧ x = nI i) : jq 48 (u 13 (ix x)) := by
  obtain ⟨i, hi, rfl⟩ := hx
  rw [ix_nI (by omega)]
  exact (h.1 i hi).2.2.1
theorem jm_Srx {u : js_S} (h : jm_Sh u) {x : Int32} (hx : ∃ i, i < 48 ∧ x = nI i) : jq 48 (u 14 (ix x)) := by
  obtain ⟨i, hi, rfl⟩ := hx
  rw [ix_nI (by omega)]
  exact (h.1 i hi).2.2.2.1
theorem jm_Sax {u : js_S} (h : jm_Sh u) {x : Int32} (hx : ∃ i, i < 48 ∧ x = nI i) : jq 48 (u 16 (ix x)) := by
  obtain ⟨i, hi, rfl⟩ := hx
  rw [ix_nI (by omega)]
  exact (h.1 i hi).2.2.2.2
theorem jm_pr_ok {u : js_S} {nav : Int32} : ∀ k, k ≤ 48 → ∃ i, i < 48 ∧ (jm_pr u nav k).1 = nI i
  | 0, _ => ⟨0, by omega, rfl⟩
  | k + 1, h => by
    unfold jm_pr
    split
    · exact ⟨k, by omega, rfl⟩
    · exact jm_pr_ok k (by omega)
theorem jm_pr_ex {u : js_S} {nav : Int32} : ∃ i, i < 48 ∧ jm_presentOf u nav = nI i := jm_pr_ok 48 (Nat.le_refl _)
theorem jm_btw_ex {x : Int32} (k : Nat) (hk : k + 1 < 2 ^ 31) (h : ¬ jm_btw x 0 (nI k) = 0) : ∃ i, i < k + 1 ∧ x = nI i := by
  unfold jm_btw at h
  split at h
  · exact absurd rfl h
  · split at h
    · exact absurd rfl h
    · rename_i h1 h2
      refine js_in (k + 1) hk h1 (fun q => h2 ?_)
      exact Int32.lt_of_lt_of_le (nI_lt (by omega) hk) q
theorem jm_btw_47 {x : Int32} (h : ¬ jm_btw x 0 47 = 0) : ∃ i, i < 48 ∧ x = nI i := jm_btw_ex 47 (by decide) h
theorem jm_btw_31 {x : Int32} (h : ¬ jm_btw x 0 31 = 0) : ∃ i, i < 32 ∧ x = nI i := jm_btw_ex 31 (by decide) h
theorem jm_shown_ex {u : js_S} {x : Int32} (h : ¬ jm_isShown u x = 0) : ∃ i, i < 48 ∧ x = nI i := by
  unfold jm_isShown at h
  split at h
  · exact absurd rfl h
  · rename_i q
    exact jm_btw_47 q
