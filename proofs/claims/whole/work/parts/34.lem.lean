/-! What shownEntry answers: a row that is there, of that navigable; it stays one when later entries are dropped. -/
theorem jc_se_eA {u : js_S} {n st : Int32} (h : ¬ jc_shownEntry u n st = -1) : jc_shownEntry u n st = jc_entryAt u n st := by
  unfold jc_shownEntry at h ⊢
  split
  · rfl
  · rename_i q
    rw [if_neg q] at h
    exact absurd rfl h
theorem jc_se_row {u : js_S} {n st : Int32} (h : ¬ jc_shownEntry u n st = -1) : ∃ i, i < 40 ∧ jc_shownEntry u n st = nI i ∧ ¬ u 14 i = 0 ∧ u 15 i = n := by
  have e := jc_se_eA h
  rw [e]
  rw [e] at h
  exact (jc_eA_ok 40 (Nat.le_refl _)).resolve_left h
theorem jc_se_ex {u : js_S} (_ : jc_Sh u) {n st : Int32} (h : ¬ jc_shownEntry u n st = -1) : ∃ i, i < 40 ∧ jc_shownEntry u n st = nI i := by
  obtain ⟨i, h1, h2, -⟩ := jc_se_row h
  exact ⟨i, h1, h2⟩
theorem jc_se_doc {u : js_S} (hS : jc_Sh u) {n st : Int32} (h : ¬ jc_shownEntry u n st = -1) : ∃ i, i < 40 ∧ u 19 (ix (jc_shownEntry u n st)) = nI i := by
  obtain ⟨i, h1, h2, h3, -⟩ := jc_se_row h
  rw [h2, ix_nI (by omega)]
  exact jc_Sd hS h1 h3
theorem jc_se_own {u : js_S} (hS : jc_Sh u) {n st : Int32} (h : ¬ jc_shownEntry u n st = -1) : ∃ i, i < 40 ∧ u 15 (ix (jc_shownEntry u n st)) = nI i := by
  obtain ⟨i, h1, h2, h3, -⟩ := jc_se_row h
  rw [h2, ix_nI (by omega)]
  exact jc_So hS h1 h3
theorem jc_page {x : Int32} (h : ¬ jc_isPage x = 0) : ∃ i, i < 32 ∧ x = nI i := by
  unfold jc_isPage at h
  split at h
  · exact absurd rfl h
  · split at h
    · exact absurd rfl h
    · rename_i h1 h2
      exact js_in 32 (by decide) h1 h2
theorem jc_ub {x : Int32} (h : ¬ jc_isUB x = 0) : jq 256 x := by
  unfold jc_isUB at h
  split at h
  · rename_i e
    exact Or.inl e
  · split at h
    · exact absurd rfl h
    · rename_i h1 h2
      unfold jc_isUrl at h2
      split at h2
      · exact absurd rfl h2
      · split at h2
        · exact absurd rfl h2
        · rename_i h3 h4
          exact Or.inr (js_in 256 (by decide) h3 h4)
theorem jc_Sh_out {u : js_S} (h : jc_Sh u) {n : Int32} (hn : ∃ i, i < 40 ∧ n = nI i) : jc_Sh (jc_takeOut u n) := by
  simp only [jc_takeOut]
  split
  · exact h
  · rename_i ha
    have hx := jq_ne (jc_S7x h hn) ha
    split
    · exact jc_Sh_5 (jc_Sh_13 (jc_Sh_12 h (jc_S13x h hx)) jq_m1)
    · exact jc_Sh_5 (jc_Sh_13 h jq_m1)
/-- fields that dropping leaves as they are -/
theorem jc_kd1_f {u : js_S} {f : Nat} (hf : ¬ f = 8) (i : Nat) : ∀ k, jc_kd1 u k f i = u f i
  | 0 => rfl
  | k + 1 => by
    unfold jc_kd1
    rw [js_up_f hf]
    exact jc_kd1_f hf i k
theorem jc_kd2_f {u : js_S} {f : Nat} (hf : ¬ f = 8) (i : Nat) : ∀ k, jc_kd2 u k f i = u f i
  | 0 => rfl
  | k + 1 => by
    unfold jc_kd2
    split
    · rw [js_up_f hf]
      exact jc_kd2_f hf i k
    · exact jc_kd2_f hf i k
theorem jc_df_f {u : js_S} {f : Nat} (hf : ¬ f = 5) (i : Nat) : ∀ k, jc_df u k f i = u f i
  | 0 => rfl
  | k + 1 => by
    unfold jc_df
    split
    · rw [js_up_f hf]
      exact jc_df_f hf i k
    · exact jc_df_f hf i k
theorem jc_de_f {u : js_S} {f : Nat} (hf : ¬ f = 14) (i : Nat) : ∀ k, jc_de u k f i = u f i
  | 0 => rfl
  | k + 1 => by
    unfold jc_de
    split
    · rw [js_up_f hf]
      exact jc_de_f hf i k
    · exact jc_de_f hf i k
theorem jc_dl_f {u : js_S} {f : Nat} (hf : ¬ f = 14) (i : Nat) : ∀ k, jc_dl u k f i = u f i
  | 0 => rfl
  | k + 1 => by
    unfold jc_dl
    split
    · rw [js_up_f hf]
      exact jc_dl_f hf i k
    · exact jc_dl_f hf i k
theorem jc_round_f {u : js_S} {f : Nat} (h5 : ¬ f = 5) (h8 : ¬ f = 8) (h14 : ¬ f = 14) (i : Nat) : jc_round u f i = u f i := by
  unfold jc_round jc_keepDocs
  rw [jc_de_f h14, jc_df_f h5, jc_kd2_f h8, jc_kd1_f h8]
theorem jc_gone_f {u : js_S} {f : Nat} (h5 : ¬ f = 5) (h8 : ¬ f = 8) (h14 : ¬ f = 14) (i : Nat) : jc_gone u f i = u f i := by
  unfold jc_gone
  rw [jc_round_f h5 h8 h14, jc_round_f h5 h8 h14, jc_round_f h5 h8 h14]
theorem jc_later_f {u : js_S} {f : Nat} (h5 : ¬ f = 5) (h8 : ¬ f = 8) (h14 : ¬ f = 14) (i : Nat) : jc_dropLater u f i = u f i := by
  unfold jc_dropLater
  rw [jc_gone_f h5 h8 h14, jc_dl_f h14]
theorem jc_se_dl {u : js_S} (hS : jc_Sh u) {n st : Int32} (h : ¬ jc_shownEntry u n st = -1) : ∃ i, i < 40 ∧ jc_dropLater u 19 (ix (jc_shownEntry u n st)) = nI i := by
  rw [jc_later_f (by decide) (by decide) (by decide)]
  exact jc_se_doc hS h
