/-! What holds inside a call before the drop, what is alive, and that the drop keeps exactly that. -/
def jp_W (u : js_S) : Prop := ¬ u 5 0 = 0 ∧ u 6 0 = 0 ∧ u 7 0 = -1
def jp_L (u : js_S) : Prop := ∀ n, n < 40 → u 6 n = 0 ∨ u 6 n = 1 ∨ u 6 n = 2
def jp_E (u : js_S) : Prop := ∀ t, t ∈ jc_es u → ∃ o d, o < 40 ∧ d < 40 ∧ t.1 = nI o ∧ t.2.2.2.2 = nI d ∧ ¬ u 8 d = 0 ∧ u 9 d = nI o ∧ (o = 0 ∨ ¬ u 6 o = 0)
def jp_N (u : js_S) : Prop := ∀ n, n < 40 → ¬ n = 0 → ¬ u 5 n = 0 → ∃ d o, d < 40 ∧ o < 40 ∧ u 7 n = nI d ∧ ¬ u 8 d = 0 ∧ u 9 d = nI o ∧ u 6 n = u 6 o + 1 ∧ (u 12 d = nI n ∨ u 13 d = nI n)
def jp_D (u : js_S) : Prop := ∀ d, d < 40 → ¬ u 8 d = 0 → ∀ n, n < 40 → (u 12 d = nI n ∨ u 13 d = nI n) → ¬ n = 0 ∧ ¬ u 5 n = 0 ∧ u 7 n = nI d
def jp_P (u : js_S) : Prop := jp_W u ∧ jp_L u ∧ jp_E u ∧ jp_N u ∧ jp_D u
def jp_al (u : js_S) (n : Nat) : Prop := ∀ A : Nat → Prop, A 0 → (∀ n t, n < 40 → ¬ u 5 n = 0 → t ∈ jc_es u → A (ix t.1) → t.2.2.2.2 = u 7 n → A n) → A n
theorem jp_al0 {u : js_S} : jp_al u 0 := fun _ h _ => h
theorem jp_als {u : js_S} {n : Nat} {t : je_T} (hn : n < 40) (h5 : ¬ u 5 n = 0) (ht : t ∈ jc_es u) (ha : jp_al u (ix t.1)) (hd : t.2.2.2.2 = u 7 n) : jp_al u n :=
  fun A h0 h => h n t hn h5 ht (ha A h0 h) hd
theorem jp_al_ind {u : js_S} {A : Nat → Prop} (h0 : A 0) (h : ∀ n t, n < 40 → ¬ u 5 n = 0 → t ∈ jc_es u → jp_al u (ix t.1) → A (ix t.1) → t.2.2.2.2 = u 7 n → A n) {n : Nat} (hn : jp_al u n) : A n :=
  (hn (fun k => jp_al u k ∧ A k) ⟨jp_al0, h0⟩ (fun n t h1 h2 h3 h4 h5 => ⟨jp_als h1 h2 h3 h4.1 h5, h n t h1 h2 h3 h4.1 h4.2 h5⟩)).2
theorem jp_al_c {u : js_S} {n : Nat} (hn : jp_al u n) : n = 0 ∨ (n < 40 ∧ ¬ u 5 n = 0 ∧ ∃ t, t ∈ jc_es u ∧ jp_al u (ix t.1) ∧ t.2.2.2.2 = u 7 n) :=
  jp_al_ind (A := fun n => n = 0 ∨ (n < 40 ∧ ¬ u 5 n = 0 ∧ ∃ t, t ∈ jc_es u ∧ jp_al u (ix t.1) ∧ t.2.2.2.2 = u 7 n)) (Or.inl rfl) (fun n t h1 h2 h3 h4 _ h5 => Or.inr ⟨h1, h2, t, h3, h4, h5⟩) hn
theorem jc_rd_8 {w : js_S} {d : Nat} (hd : d < 40) : ¬ jc_round w 8 d = 0 ↔ ∃ t, t ∈ jc_es w ∧ ix t.2.2.2.2 = d := by
  unfold jc_round
  rw [jc_de_f (by decide), jc_df_f (by decide)]
  exact jc_kd_8 hd
theorem jc_rd_5 {w : js_S} {n : Nat} (hn : n < 40) : ¬ jc_round w 5 n = 0 ↔ ¬ w 5 n = 0 ∧ (w 7 n = -1 ∨ ¬ jc_keepDocs w 8 (ix (w 7 n)) = 0) := by
  have e5 : jc_keepDocs w 5 n = w 5 n := by unfold jc_keepDocs; rw [jc_kd2_f (by decide), jc_kd1_f (by decide)]
  have e7 : jc_keepDocs w 7 n = w 7 n := by unfold jc_keepDocs; rw [jc_kd2_f (by decide), jc_kd1_f (by decide)]
  unfold jc_round
  rw [jc_de_f (by decide), jc_df_5, e5, e7]
  by_cases h : w 7 n = -1
  · rw [if_neg (fun q => q.2.1 h)]; simp [h]
  · by_cases h2 : jc_keepDocs w 8 (ix (w 7 n)) = 0
    · rw [if_pos ⟨hn, h, h2⟩]; simp [h, h2]
    · rw [if_neg (fun q => h2 q.2.2)]; simp [h, h2]
theorem jc_rd_es {w : js_S} : jc_es (jc_round w) = (jc_es w).filter (fun t => decide (¬ jc_round w 5 (ix t.1) = 0)) := by
  have e : ∀ n, jc_round w 5 n = jc_df (jc_keepDocs w) 40 5 n := fun n => by unfold jc_round; rw [jc_de_f (by decide)]
  have e2 : jc_es (jc_df (jc_keepDocs w) 40) = jc_es w := jc_es_eq (fun f i h1 h2 => by rw [jc_df_f (by omega)]; unfold jc_keepDocs; rw [jc_kd2_f (by omega), jc_kd1_f (by omega)])
  simp only [e]
  rw [← e2]
  exact jc_de_es
/-- a store between the rounds, as against the one at the start -/
def jp_K (u w : js_S) : Prop := (∀ n, w 7 n = u 7 n) ∧ (∀ n, n < 40 → ¬ w 5 n = 0 → ¬ u 5 n = 0) ∧ (∀ n, jp_al u n → ¬ w 5 n = 0) ∧ (∀ t, t ∈ jc_es w → t ∈ jc_es u) ∧ (∀ t, t ∈ jc_es u → jp_al u (ix t.1) → t ∈ jc_es w)
theorem jp_al_lt {u : js_S} {n : Nat} (hn : jp_al u n) : n < 40 := by
  rcases jp_al_c hn with h | h
  · omega
  · exact h.1
theorem jp_K_rf {u : js_S} (hP : jp_P u) : jp_K u u := by
  refine ⟨fun _ => rfl, fun _ _ h => h, fun n h => ?_, fun _ h => h, fun _ h _ => h⟩
  rcases jp_al_c h with rfl | h
  · exact hP.1.1
  · exact h.2.1
theorem jp_ix {u : js_S} (hP : jp_P u) {t : je_T} (ht : t ∈ jc_es u) : ix t.1 < 40 := by
  obtain ⟨o, d, ho, -, h, -⟩ := hP.2.2.1 t ht
  rw [h, ix_nI (by omega)]; exact ho
theorem jp_K_round {u w : js_S} (hP : jp_P u) (hK : jp_K u w) : jp_K u (jc_round w) := by
  obtain ⟨k1, k2, k3, k4, k5⟩ := hK
  have a5 : ∀ n, jp_al u n → ¬ jc_round w 5 n = 0 := by
    intro n hn
    have hl := jp_al_lt hn
    refine (jc_rd_5 hl).mpr ⟨k3 n hn, ?_⟩
    rcases jp_al_c hn with rfl | ⟨-, -, t, ht, ha, hd⟩
    · exact Or.inl ((k1 0).trans hP.1.2.2)
    · refine Or.inr ?_
      obtain ⟨o, d, ho, hd40, h1, h2, -⟩ := hP.2.2.1 t ht
      have e : ix (w 7 n) = d := by rw [k1, ← hd, h2, ix_nI (by omega)]
      rw [e]
      exact (jc_kd_8 hd40).mpr ⟨t, k5 t ht ha, by rw [h2, ix_nI (by omega)]⟩
  refine ⟨fun n => (jc_round_f (by decide) (by decide) (by decide) n).trans (k1 n), fun n hn h => k2 n hn ((jc_rd_5 hn).mp h).1, a5, fun t ht => ?_, fun t ht ha => ?_⟩
  · rw [jc_rd_es] at ht
    exact k4 t (List.mem_filter.mp ht).1
  · rw [jc_rd_es]
    exact List.mem_filter.mpr ⟨k5 t ht ha, by simpa using a5 _ ha⟩
/-- soundness, a level at a time: if the entries of a store between the rounds have alive owners as far as one level, its navigables are alive one level further -/
theorem jp_sound {u w : js_S} (hP : jp_P u) (hK : jp_K u w) {n : Nat} (hn : n < 40) (h : ¬ jc_round w 5 n = 0) (hs : ∀ t o, t ∈ jc_es w → o < 40 → t.1 = nI o → u 6 n = u 6 o + 1 → jp_al u o) : jp_al u n := by
  obtain ⟨h5, h7⟩ := (jc_rd_5 hn).mp h
  by_cases e : n = 0
  · subst e; exact jp_al0
  obtain ⟨d, o, hd, ho, q7, q8, q9, q6, -⟩ := hP.2.2.2.1 n hn e (hK.2.1 n hn h5)
  rw [hK.1, q7] at h7
  rcases h7 with h7 | h7
  · exact absurd h7 (nI_m1 (by omega))
  rw [ix_nI (by omega)] at h7
  obtain ⟨t, ht, htd⟩ := (jc_kd_8 hd).mp h7
  obtain ⟨o', d', ho', hd', p1, p2, p8, p9, -⟩ := hP.2.2.1 t (hK.2.2.2.1 t ht)
  rw [p2, ix_nI (by omega)] at htd
  subst htd
  have e2 : o = o' := by
    have := q9.symm.trans p9
    rw [← ix_nI (n := o) (by omega), ← ix_nI (n := o') (by omega), this]
  subst e2
  refine jp_als hn (hK.2.1 n hn h5) (hK.2.2.2.1 t ht) ?_ (p2.trans q7.symm)
  rw [p1, ix_nI (by omega)]
  exact hs t o ht ho p1 q6
theorem jp_lv {a b : Int32} (ha : a = 0 ∨ a = 1 ∨ a = 2) (hb : b = 0 ∨ b = 1 ∨ b = 2) (h : a = b + 1) : (b = 0 ∧ a = 1) ∨ (b = 1 ∧ a = 2) := by
  rcases ha with rfl | rfl | rfl <;> rcases hb with rfl | rfl | rfl <;> revert h <;> decide
theorem jc_gone_ok {u : js_S} (hP : jp_P u) : (∀ n, n < 40 → (¬ jc_gone u 5 n = 0 ↔ jp_al u n)) ∧ (∀ d, d < 40 → (¬ jc_gone u 8 d = 0 ↔ ∃ t, t ∈ jc_es u ∧ jp_al u (ix t.1) ∧ t.2.2.2.2 = nI d)) ∧ jc_es (jc_gone u) = (jc_es u).filter (fun t => decide (¬ jc_gone u 5 (ix t.1) = 0)) := by
  have K0 := jp_K_rf hP
  have K1 := jp_K_round hP K0
  have K2 := jp_K_round hP K1
  have K3 := jp_K_round hP K2
  have S1 : ∀ n, n < 40 → ¬ jc_round u 5 n = 0 → ¬ u 6 n = 2 → jp_al u n := by
    intro n hn h h2
    refine jp_sound hP K0 hn h (fun t o ht ho h1 h6 => ?_)
    rcases jp_lv (hP.2.1 n hn) (hP.2.1 o ho) h6 with q | q
    · obtain ⟨o', d', ho', -, p1, -, -, -, p6⟩ := hP.2.2.1 t ht
      have e2 : o = o' := by
        have := h1.symm.trans p1
        rw [← ix_nI (n := o) (by omega), ← ix_nI (n := o') (by omega), this]
      subst e2
      rcases p6 with rfl | p6
      · exact jp_al0
      · exact absurd q.1 p6
    · exact absurd q.2 h2
  have S2 : ∀ n, n < 40 → ¬ jc_round (jc_round u) 5 n = 0 → jp_al u n := by
    intro n hn h
    refine jp_sound hP K1 hn h (fun t o ht ho h1 h6 => ?_)
    rw [jc_rd_es] at ht
    have h5 := (List.mem_filter.mp ht).2
    rw [h1, ix_nI (by omega)] at h5
    refine S1 o ho (by simpa using h5) (fun q => ?_)
    rcases jp_lv (hP.2.1 n hn) (hP.2.1 o ho) h6 with q2 | q2
    · rw [q] at q2; exact absurd q2.1 (by decide)
    · rw [q] at q2; exact absurd q2.1 (by decide)
  have S3 : ∀ n, n < 40 → ¬ jc_gone u 5 n = 0 → jp_al u n := fun n hn h => S2 n hn ((jc_rd_5 hn).mp h).1
  refine ⟨fun n hn => ⟨S3 n hn, K3.2.2.1 n⟩, fun d hd => ?_, ?_⟩
  · constructor
    · intro h
      obtain ⟨t, ht, e⟩ := (jc_rd_8 hd).mp h
      have m := K2.2.2.2.1 t ht
      obtain ⟨o', d', ho', hd', p1, p2, -⟩ := hP.2.2.1 t m
      rw [jc_rd_es] at ht
      have h5 := (List.mem_filter.mp ht).2
      refine ⟨t, m, S2 _ (jp_ix hP m) (by simpa using h5), ?_⟩
      rw [← e, p2, ix_nI (by omega)]
    · rintro ⟨t, ht, ha, e⟩
      exact (jc_rd_8 hd).mpr ⟨t, K2.2.2.2.2 t ht ha, by rw [e, ix_nI (by omega)]⟩
  · show jc_es (jc_round (jc_round (jc_round u))) = _
    rw [jc_rd_es, jc_rd_es, jc_rd_es, List.filter_filter, List.filter_filter]
    refine List.filter_congr (fun t ht => ?_)
    have hl := jp_ix hP ht
    by_cases h3 : jc_round (jc_round (jc_round u)) 5 (ix t.1) = 0
    · have : jc_gone u 5 (ix t.1) = 0 := h3
      simp [h3, this]
    · have h3' : ¬ jc_gone u 5 (ix t.1) = 0 := h3
      have h2 := ((jc_rd_5 hl).mp h3).1
      have h1 := ((jc_rd_5 hl).mp h2).1
      simp [h3, h3', h2, h1]
