/-! The entry of a navigable at a step: the latest that is not later. -/
def je_top (E : List je_T) (n st : Int32) (t : je_T) : Prop := t ∈ E ∧ t.1 = n ∧ t.2.1 ≤ st ∧ ∀ t', t' ∈ E → t'.1 = n → t'.2.1 ≤ st → t'.2.1 ≤ t.2.1
theorem je_top_u {E : List je_T} (hE : (E.map je_k).Nodup) {n st : Int32} {t t' : je_T} (h : je_top E n st t) (h' : je_top E n st t') : t = t' := by
  refine je_kin hE h.1 h'.1 ?_
  have a := h.2.2.2 t' h'.1 h'.2.1 h'.2.2.1
  have b := h'.2.2.2 t h.1 h.2.1 h.2.2.1
  have e : t.2.1 = t'.2.1 := Int32.le_antisymm b a
  show (t.1, t.2.1) = (t'.1, t'.2.1)
  rw [e, h.2.1, h'.2.1]
theorem je_top_p {E F : List je_T} (h : E.Perm F) {n st : Int32} {t : je_T} (ht : je_top E n st t) : je_top F n st t :=
  ⟨h.mem_iff.mp ht.1, ht.2.1, ht.2.2.1, fun t' h' => ht.2.2.2 t' (h.mem_iff.mpr h')⟩
/-- the row of class's entryAt -/
theorem jc_eA_top {u : js_S} {n st : Int32} : ∀ k, k ≤ 40 → (jc_eA u n st k = -1 ∧ ∀ t, t ∈ je_l (jc_row u) k → t.1 = n → ¬ t.2.1 ≤ st) ∨ ∃ i t, i < k ∧ jc_eA u n st k = nI i ∧ jc_row u i = some t ∧ je_top (je_l (jc_row u) k) n st t
  | 0, _ => Or.inl ⟨rfl, fun t h => by simp [je_l] at h⟩
  | k + 1, hk => by
    have ih := jc_eA_top (u := u) (n := n) (st := st) k (by omega)
    have hm : ∀ t, t ∈ je_l (jc_row u) (k + 1) ↔ (jc_row u k = some t ∨ t ∈ je_l (jc_row u) k) := by
      intro t
      rw [je_l, List.mem_append]
      simp
    by_cases h : u 14 k ≠ 0 ∧ u 15 k = n ∧ ¬ st < u 16 k ∧ (jc_eA u n st k = -1 ∨ ¬ u 16 k ≤ u 16 (ix (jc_eA u n st k)))
    · refine Or.inr ⟨k, (u 15 k, u 16 k, u 17 k, u 18 k, u 19 k), by omega, by rw [jc_eA, if_pos h], jc_row_some.mpr ⟨h.1, rfl⟩, ?_⟩
      refine ⟨(hm _).mpr (Or.inl (jc_row_some.mpr ⟨h.1, rfl⟩)), h.2.1, Int32.not_lt.mp h.2.2.1, fun t' ht' h1 h2 => ?_⟩
      rcases (hm t').mp ht' with q | q
      · rw [(jc_row_some.mp q).2]; exact Int32.le_refl _
      · rcases ih with ⟨_, g⟩ | ⟨i, t, hi, e, r, g⟩
        · exact absurd h2 (g t' q h1)
        · have h3 := h.2.2.2
          rw [e, ix_nI (by omega)] at h3
          rcases h3 with h3 | h3
          · exact absurd h3 (nI_m1 (by omega))
          · have h4 := g.2.2.2 t' q h1 h2
            rw [(jc_row_some.mp r).2] at h4
            exact Int32.le_trans h4 (Int32.le_of_lt (Int32.not_le.mp h3))
    · have e1 : jc_eA u n st (k + 1) = jc_eA u n st k := by rw [jc_eA, if_neg h]
      rw [e1]
      rcases ih with ⟨e, g⟩ | ⟨i, t, hi, e, r, g⟩
      · refine Or.inl ⟨e, fun t ht h1 h2 => ?_⟩
        rcases (hm t).mp ht with q | q
        · have q2 := jc_row_some.mp q
          rw [q2.2] at h1 h2
          exact h ⟨q2.1, h1, Int32.not_lt.mpr h2, Or.inl e⟩
        · exact g t q h1 h2
      · refine Or.inr ⟨i, t, by omega, e, r, (hm t).mpr (Or.inr g.1), g.2.1, g.2.2.1, fun t' ht' h1 h2 => ?_⟩
        rcases (hm t').mp ht' with q | q
        · have q2 := jc_row_some.mp q
          rw [q2.2] at h1 h2 ⊢
          refine Int32.not_lt.mp (fun q3 => h ⟨q2.1, h1, Int32.not_lt.mpr h2, Or.inr ?_⟩)
          rw [e, ix_nI (by omega)]
          rw [(jc_row_some.mp r).2] at q3
          exact Int32.not_le.mpr q3
        · exact g.2.2.2 t' q h1 h2
theorem jc_at_top {u : js_S} {n st : Int32} : (jc_entryAt u n st = -1 ∧ ∀ t, t ∈ jc_es u → t.1 = n → ¬ t.2.1 ≤ st) ∨ ∃ i t, i < 40 ∧ jc_entryAt u n st = nI i ∧ jc_row u i = some t ∧ je_top (jc_es u) n st t := jc_eA_top 40 (Nat.le_refl _)
/-- the row of the reference's presentOf -/
theorem jm_pr_top {u : js_S} {n : Int32} (h0 : ∀ t, t ∈ jm_es u → 0 ≤ t.2.1) : ∀ k, k ≤ 48 → (jm_pr u n k = (0, -1) ∧ ∀ t, t ∈ je_l (jm_row u) k → t.1 = n → ¬ t.2.1 ≤ u 21 0) ∨ ∃ i t, i < k ∧ jm_pr u n k = (nI i, t.2.1) ∧ jm_row u i = some t ∧ je_top (je_l (jm_row u) k) n (u 21 0) t
  | 0, _ => Or.inl ⟨rfl, fun t h => by simp [je_l] at h⟩
  | k + 1, hk => by
    have ih := jm_pr_top (n := n) h0 k (by omega)
    have hm : ∀ t, t ∈ je_l (jm_row u) (k + 1) ↔ (jm_row u k = some t ∨ t ∈ je_l (jm_row u) k) := by
      intro t
      rw [je_l, List.mem_append]
      simp
    by_cases h : u 9 k ≠ 0 ∧ u 4 k = n ∧ ¬ u 21 0 < u 5 k ∧ ¬ u 5 k ≤ (jm_pr u n k).2
    · refine Or.inr ⟨k, (u 4 k, u 5 k, u 6 k, u 7 k, u 8 k), by omega, by rw [jm_pr, if_pos h], jm_row_some.mpr ⟨h.1, rfl⟩, ?_⟩
      refine ⟨(hm _).mpr (Or.inl (jm_row_some.mpr ⟨h.1, rfl⟩)), h.2.1, Int32.not_lt.mp h.2.2.1, fun t' ht' h1 h2 => ?_⟩
      rcases (hm t').mp ht' with q | q
      · rw [(jm_row_some.mp q).2]; exact Int32.le_refl _
      · rcases ih with ⟨_, g⟩ | ⟨i, t, hi, e, r, g⟩
        · exact absurd h2 (g t' q h1)
        · have h3 := h.2.2.2
          rw [e] at h3
          exact Int32.le_trans (g.2.2.2 t' q h1 h2) (Int32.le_of_lt (Int32.not_le.mp h3))
    · have e1 : jm_pr u n (k + 1) = jm_pr u n k := by rw [jm_pr, if_neg h]
      rw [e1]
      rcases ih with ⟨e, g⟩ | ⟨i, t, hi, e, r, g⟩
      · refine Or.inl ⟨e, fun t ht h1 h2 => ?_⟩
        rcases (hm t).mp ht with q | q
        · have q2 := jm_row_some.mp q
          have q3 := h0 t (jm_mem.mpr ⟨k, by omega, q2⟩)
          rw [q2.2] at h1 h2 q3
          refine h ⟨q2.1, h1, Int32.not_lt.mpr h2, ?_⟩
          rw [e]
          exact fun q4 => absurd (Int32.le_trans q3 q4) (by decide)
        · exact g t q h1 h2
      · refine Or.inr ⟨i, t, by omega, e, r, (hm t).mpr (Or.inr g.1), g.2.1, g.2.2.1, fun t' ht' h1 h2 => ?_⟩
        rcases (hm t').mp ht' with q | q
        · have q2 := jm_row_some.mp q
          rw [q2.2] at h1 h2 ⊢
          refine Int32.not_lt.mp (fun q3 => h ⟨q2.1, h1, Int32.not_lt.mpr h2, ?_⟩)
          rw [e]
          exact Int32.not_le.mpr q3
        · exact g.2.2.2 t' q h1 h2
theorem jm_po_top {u : js_S} {n : Int32} (h0 : ∀ t, t ∈ jm_es u → 0 ≤ t.2.1) : (jm_presentOf u n = 0 ∧ ∀ t, t ∈ jm_es u → t.1 = n → ¬ t.2.1 ≤ u 21 0) ∨ ∃ i t, i < 48 ∧ jm_presentOf u n = nI i ∧ jm_row u i = some t ∧ je_top (jm_es u) n (u 21 0) t := by
  rcases jm_pr_top (n := n) h0 48 (Nat.le_refl _) with ⟨e, g⟩ | ⟨i, t, hi, e, r, g⟩
  · exact Or.inl ⟨by unfold jm_presentOf; rw [e], g⟩
  · exact Or.inr ⟨i, t, hi, by unfold jm_presentOf; rw [e], r, g⟩
