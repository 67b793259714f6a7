/-! What the writing rows do to the lists, and what the dropping loops do to the flags. -/
theorem jc_add_f {u : js_S} {o s url st d : Int32} {f j : Nat} (h : f < 14 ∨ 19 < f ∨ ¬ j = js_free u 14 39 0) : jc_addEntry u o s url st d f j = u f j := by
  unfold jc_addEntry
  simp only [js_up]
  rcases h with h | h | h
  · simp [show ¬ f = 14 by omega, show ¬ f = 15 by omega, show ¬ f = 16 by omega, show ¬ f = 17 by omega, show ¬ f = 18 by omega, show ¬ f = 19 by omega]
  · simp [show ¬ f = 14 by omega, show ¬ f = 15 by omega, show ¬ f = 16 by omega, show ¬ f = 17 by omega, show ¬ f = 18 by omega, show ¬ f = 19 by omega]
  · simp [h]
theorem jc_add_es {u : js_S} {o s url st d : Int32} (h0 : u 14 (js_free u 14 39 0) = 0) : (jc_es (jc_addEntry u o s url st d)).Perm ((o, s, url, st, d) :: jc_es u) := by
  have hl : js_free u 14 39 0 < 40 := js_f39
  refine je_add hl ?_ ?_ (fun j _ hj => jc_row_eq (fun f _ _ => jc_add_f (Or.inr (Or.inr hj))))
  · unfold jc_row; rw [if_pos h0]
  · refine jc_row_some.mpr ⟨?_, ?_⟩ <;> simp [jc_addEntry, js_up]
theorem jm_wr_f {u : js_S} {e : Nat} {o s url d : Int32} {f j : Nat} (h : f < 4 ∨ 9 < f ∨ ¬ j = e) : jm_wr u e o s url d f j = u f j := by
  unfold jm_wr
  simp only [js_up]
  rcases h with h | h | h
  · simp [show ¬ f = 4 by omega, show ¬ f = 5 by omega, show ¬ f = 6 by omega, show ¬ f = 7 by omega, show ¬ f = 8 by omega, show ¬ f = 9 by omega]
  · simp [show ¬ f = 4 by omega, show ¬ f = 5 by omega, show ¬ f = 6 by omega, show ¬ f = 7 by omega, show ¬ f = 8 by omega, show ¬ f = 9 by omega]
  · simp [h]
theorem jm_wr_row {u : js_S} {e : Nat} {o s url d : Int32} : jm_row (jm_wr u e o s url d) e = some (o, s, url, 0, d) := by
  refine jm_row_some.mpr ⟨?_, ?_⟩ <;> simp [jm_wr, js_up]
theorem jm_wr_es {u : js_S} {o s url d : Int32} (h0 : u 9 (js_free u 9 47 0) = 0) : (jm_es (jm_write u o s url d)).Perm ((o, s, url, 0, d) :: jm_es u) := by
  refine je_add (i := js_free u 9 47 0) js_f47 ?_ jm_wr_row (fun j _ hj => jm_row_eq (fun f _ _ => jm_wr_f (Or.inr (Or.inr hj))))
  unfold jm_row; rw [if_pos h0]
theorem jc_set_es {u : js_S} {i : Nat} {a b c : Int32} {t : je_T} (hi : i < 40) (ht : jc_row u i = some t) : ∃ L, (jc_es u).Perm (t :: L) ∧ (jc_es (js_up (js_up (js_up u 17 i a) 18 i b) 19 i c)).Perm ((t.1, t.2.1, a, b, c) :: L) := by
  have h := jc_row_some.mp ht
  refine je_set hi ht (jc_row_some.mpr ⟨?_, ?_⟩) (fun j _ hj => jc_row_eq (fun f _ _ => by rw [js_up_i hj, js_up_i hj, js_up_i hj]))
  · simp [js_up, h.1]
  · rw [h.2]; simp [js_up]
theorem jm_set_es {u : js_S} {i : Nat} {a b c : Int32} {t : je_T} (hi : i < 48) (ht : jm_row u i = some t) : ∃ L, (jm_es u).Perm (t :: L) ∧ (jm_es (js_up (js_up (js_up u 6 i a) 7 i b) 8 i c)).Perm ((t.1, t.2.1, a, b, c) :: L) := by
  have h := jm_row_some.mp ht
  refine je_set hi ht (jm_row_some.mpr ⟨?_, ?_⟩) (fun j _ hj => jm_row_eq (fun f _ _ => by rw [js_up_i hj, js_up_i hj, js_up_i hj]))
  · simp [js_up, h.1]
  · rw [h.2]; simp [js_up]
/-! flags cut off by a loop -/
theorem jc_dl_14 {u : js_S} {i : Nat} : ∀ k, jc_dl u k 14 i = if i < k ∧ ¬ u 16 i ≤ u 21 0 then 0 else u 14 i
  | 0 => by simp [jc_dl]
  | k + 1 => by
    have ih := jc_dl_14 (u := u) (i := i) k
    rw [jc_dl, jc_dl_f (by decide), jc_dl_f (by decide)]
    by_cases h : ¬ u 16 k ≤ u 21 0
    · rw [if_pos h]
      by_cases e : i = k
      · subst e; rw [js_up_s, if_pos ⟨by omega, h⟩]
      · rw [js_up_i e, ih]
        have e2 : (i < k + 1 ∧ ¬ u 16 i ≤ u 21 0) ↔ (i < k ∧ ¬ u 16 i ≤ u 21 0) := ⟨fun q => ⟨by omega, q.2⟩, fun q => ⟨by omega, q.2⟩⟩
        simp only [e2]
    · rw [if_neg h, ih]
      by_cases e : i = k
      · subst e; rw [if_neg (fun q => absurd q.1 (by omega)), if_neg (fun q => h q.2)]
      · have e2 : (i < k + 1 ∧ ¬ u 16 i ≤ u 21 0) ↔ (i < k ∧ ¬ u 16 i ≤ u 21 0) := ⟨fun q => ⟨by omega, q.2⟩, fun q => ⟨by omega, q.2⟩⟩
        simp only [e2]
theorem jc_de_14 {u : js_S} {i : Nat} : ∀ k, jc_de u k 14 i = if i < k ∧ u 5 (ix (u 15 i)) = 0 then 0 else u 14 i
  | 0 => by simp [jc_de]
  | k + 1 => by
    have ih := jc_de_14 (u := u) (i := i) k
    have ihk := jc_de_14 (u := u) (i := k) k
    rw [if_neg (fun q => absurd q.1 (by omega))] at ihk
    rw [jc_de, jc_de_f (f := 15) (by decide), jc_de_f (f := 5) (by decide), ihk]
    by_cases h : u 5 (ix (u 15 k)) = 0
    · by_cases h2 : u 14 k = 0
      · rw [if_neg (fun q => q.1 h2), ih]
        by_cases e : i = k
        · subst e; rw [if_neg (fun q => absurd q.1 (by omega)), if_pos ⟨by omega, h⟩, h2]
        · have e2 : (i < k + 1 ∧ u 5 (ix (u 15 i)) = 0) ↔ (i < k ∧ u 5 (ix (u 15 i)) = 0) := ⟨fun q => ⟨by omega, q.2⟩, fun q => ⟨by omega, q.2⟩⟩
          simp only [e2]
      · rw [if_pos ⟨h2, h⟩]
        by_cases e : i = k
        · subst e; rw [js_up_s, if_pos ⟨by omega, h⟩]
        · rw [js_up_i e, ih]
          have e2 : (i < k + 1 ∧ u 5 (ix (u 15 i)) = 0) ↔ (i < k ∧ u 5 (ix (u 15 i)) = 0) := ⟨fun q => ⟨by omega, q.2⟩, fun q => ⟨by omega, q.2⟩⟩
          simp only [e2]
    · rw [if_neg (fun q => h q.2), ih]
      by_cases e : i = k
      · subst e; rw [if_neg (fun q => h q.2), if_neg (fun q => h q.2)]
      · have e2 : (i < k + 1 ∧ u 5 (ix (u 15 i)) = 0) ↔ (i < k ∧ u 5 (ix (u 15 i)) = 0) := ⟨fun q => ⟨by omega, q.2⟩, fun q => ⟨by omega, q.2⟩⟩
        simp only [e2]
theorem jc_df_5 {u : js_S} {i : Nat} : ∀ k, jc_df u k 5 i = if i < k ∧ u 7 i ≠ -1 ∧ u 8 (ix (u 7 i)) = 0 then 0 else u 5 i
  | 0 => by simp [jc_df]
  | k + 1 => by
    have ih := jc_df_5 (u := u) (i := i) k
    rw [jc_df, jc_df_f (by decide), jc_df_f (by decide)]
    by_cases h : u 7 k ≠ -1 ∧ u 8 (ix (u 7 k)) = 0
    · rw [if_pos h]
      by_cases e : i = k
      · subst e; rw [js_up_s, if_pos ⟨by omega, h⟩]
      · rw [js_up_i e, ih]
        have e2 : (i < k + 1 ∧ u 7 i ≠ -1 ∧ u 8 (ix (u 7 i)) = 0) ↔ (i < k ∧ u 7 i ≠ -1 ∧ u 8 (ix (u 7 i)) = 0) := ⟨fun q => ⟨by omega, q.2⟩, fun q => ⟨by omega, q.2⟩⟩
        simp only [e2]
    · rw [if_neg h, ih]
      by_cases e : i = k
      · subst e; rw [if_neg (fun q => absurd q.1 (by omega)), if_neg (fun q => h q.2)]
      · have e2 : (i < k + 1 ∧ u 7 i ≠ -1 ∧ u 8 (ix (u 7 i)) = 0) ↔ (i < k ∧ u 7 i ≠ -1 ∧ u 8 (ix (u 7 i)) = 0) := ⟨fun q => ⟨by omega, q.2⟩, fun q => ⟨by omega, q.2⟩⟩
        simp only [e2]
theorem jc_kd1_8 {u : js_S} {i : Nat} : ∀ k, i < k → jc_kd1 u k 8 i = 0
  | 0, h => by omega
  | k + 1, h => by
    rw [jc_kd1]
    by_cases e : i = k
    · subst e; rw [js_up_s]
    · rw [js_up_i e]; exact jc_kd1_8 k (by omega)
theorem jc_kd2_8 {u : js_S} {d : Nat} : ∀ k, (¬ jc_kd2 u k 8 d = 0 ↔ ¬ u 8 d = 0 ∨ ∃ i, i < k ∧ ¬ u 14 i = 0 ∧ ix (u 19 i) = d)
  | 0 => by simp [jc_kd2]
  | k + 1 => by
    have ih := jc_kd2_8 (u := u) (d := d) k
    rw [jc_kd2, jc_kd2_f (by decide), jc_kd2_f (by decide)]
    have e2 : (∃ i, i < k + 1 ∧ ¬ u 14 i = 0 ∧ ix (u 19 i) = d) ↔ ((∃ i, i < k ∧ ¬ u 14 i = 0 ∧ ix (u 19 i) = d) ∨ (¬ u 14 k = 0 ∧ ix (u 19 k) = d)) := by
      constructor
      · rintro ⟨i, hi, h⟩
        by_cases e : i = k
        · subst e; exact Or.inr h
        · exact Or.inl ⟨i, by omega, h⟩
      · rintro (⟨i, hi, h⟩ | h)
        · exact ⟨i, by omega, h⟩
        · exact ⟨k, by omega, h⟩
    rw [e2]
    by_cases h : u 14 k ≠ 0
    · rw [if_pos h]
      by_cases e : d = ix (u 19 k)
      · subst e
        rw [js_up_s]
        exact ⟨fun _ => Or.inr (Or.inr ⟨h, rfl⟩), fun _ => by decide⟩
      · rw [js_up_i e, ih]
        constructor
        · rintro (q | q)
          · exact Or.inl q
          · exact Or.inr (Or.inl q)
        · rintro (q | q | q)
          · exact Or.inl q
          · exact Or.inr q
          · exact absurd q.2.symm e
    · rw [if_neg h, ih]
      constructor
      · rintro (q | q)
        · exact Or.inl q
        · exact Or.inr (Or.inl q)
      · rintro (q | q | q)
        · exact Or.inl q
        · exact Or.inr q
        · exact absurd q.1 h
theorem jc_kd_8 {u : js_S} {d : Nat} (hd : d < 40) : ¬ jc_keepDocs u 8 d = 0 ↔ ∃ t, t ∈ jc_es u ∧ ix t.2.2.2.2 = d := by
  unfold jc_keepDocs
  rw [jc_kd2_8, jc_kd1_8 40 hd]
  constructor
  · rintro (h | ⟨i, hi, h1, h2⟩)
    · exact absurd rfl h
    · rw [jc_kd1_f (by decide)] at h1 h2
      exact ⟨_, jc_mem.mpr ⟨i, hi, h1, rfl⟩, h2⟩
  · rintro ⟨t, ht, h⟩
    obtain ⟨i, hi, h1, rfl⟩ := jc_mem.mp ht
    refine Or.inr ⟨i, hi, ?_, ?_⟩
    · rw [jc_kd1_f (by decide)]; exact h1
    · rw [jc_kd1_f (by decide)]; exact h
theorem jc_fl_es {u v : js_S} {p : je_T → Bool} (h : ∀ f i, 15 ≤ f → f ≤ 19 → v f i = u f i) (h4 : ∀ i, i < 40 → (v 14 i = 0 ↔ u 14 i = 0 ∨ p (u 15 i, u 16 i, u 17 i, u 18 i, u 19 i) = false)) : jc_es v = (jc_es u).filter p := by
  refine je_filter 40 (fun i hi => ?_)
  unfold jc_row
  rw [h 15 i (by decide) (by decide), h 16 i (by decide) (by decide), h 17 i (by decide) (by decide), h 18 i (by decide) (by decide), h 19 i (by decide) (by decide)]
  by_cases e : u 14 i = 0
  · rw [if_pos ((h4 i hi).mpr (Or.inl e)), if_pos e]; rfl
  · by_cases e2 : p (u 15 i, u 16 i, u 17 i, u 18 i, u 19 i) = true
    · rw [if_neg (fun q => ((h4 i hi).mp q).elim e (by rw [e2]; intro q; cases q)), if_neg e]
      simp [Option.filter, e2]
    · have e3 := Bool.eq_false_iff.mpr e2
      rw [if_pos ((h4 i hi).mpr (Or.inr e3)), if_neg e]
      simp [Option.filter, e3]
theorem jm_fl_es {u v : js_S} {p : je_T → Bool} (h : ∀ f i, 4 ≤ f → f ≤ 8 → v f i = u f i) (h4 : ∀ i, i < 48 → (v 9 i = 0 ↔ u 9 i = 0 ∨ p (u 4 i, u 5 i, u 6 i, u 7 i, u 8 i) = false)) : jm_es v = (jm_es u).filter p := by
  refine je_filter 48 (fun i hi => ?_)
  unfold jm_row
  rw [h 4 i (by decide) (by decide), h 5 i (by decide) (by decide), h 6 i (by decide) (by decide), h 7 i (by decide) (by decide), h 8 i (by decide) (by decide)]
  by_cases e : u 9 i = 0
  · rw [if_pos ((h4 i hi).mpr (Or.inl e)), if_pos e]; rfl
  · by_cases e2 : p (u 4 i, u 5 i, u 6 i, u 7 i, u 8 i) = true
    · rw [if_neg (fun q => ((h4 i hi).mp q).elim e (by rw [e2]; intro q; cases q)), if_neg e]
      simp [Option.filter, e2]
    · have e3 := Bool.eq_false_iff.mpr e2
      rw [if_pos ((h4 i hi).mpr (Or.inr e3)), if_neg e]
      simp [Option.filter, e3]
theorem jc_dl_es {u : js_S} : jc_es (jc_dl u 40) = (jc_es u).filter (fun t => decide (t.2.1 ≤ u 21 0)) := by
  refine jc_fl_es (fun f i h1 h2 => jc_dl_f (by omega) i 40) (fun i hi => ?_)
  rw [jc_dl_14]
  by_cases h : u 16 i ≤ u 21 0
  · rw [if_neg (fun q => q.2 h)]; simp [h]
  · rw [if_pos ⟨hi, h⟩]; simp [h]
theorem jc_de_es {u : js_S} : jc_es (jc_de u 40) = (jc_es u).filter (fun t => decide (¬ u 5 (ix t.1) = 0)) := by
  refine jc_fl_es (fun f i h1 h2 => jc_de_f (by omega) i 40) (fun i hi => ?_)
  rw [jc_de_14]
  by_cases h : u 5 (ix (u 15 i)) = 0
  · rw [if_pos ⟨hi, h⟩]; simp [h]
  · rw [if_neg (fun q => h q.2)]; simp [h]
theorem jm_co_9 {u : js_S} {i : Nat} : ∀ k, (jm_co u k 9 i = 0 ↔ u 9 i = 0 ∨ (i < k ∧ u 21 0 < u 5 i))
  | 0 => by simp [jm_co]
  | k + 1 => by
    have ih := jm_co_9 (u := u) (i := i) k
    rw [jm_co]
    by_cases e : i = k
    · subst e
      rw [js_up_s]
      unfold jm_cb
      rw [jm_co_f (f := 21) (by decide), jm_co_f (f := 5) (by decide)]
      by_cases h1 : jm_co u i 9 i = 0
      · rw [if_pos h1]
        rcases ih.mp h1 with q | q
        · exact ⟨fun _ => Or.inl q, fun _ => rfl⟩
        · exact absurd q.1 (by omega)
      · rw [if_neg h1]
        by_cases h2 : u 21 0 < u 5 i
        · rw [if_pos h2]; exact ⟨fun _ => Or.inr ⟨by omega, h2⟩, fun _ => rfl⟩
        · rw [if_neg h2]
          refine ⟨fun q => absurd q (by decide), fun q => ?_⟩
          rcases q with q | q
          · exact absurd (ih.mpr (Or.inl q)) h1
          · exact absurd q.2 h2
    · rw [js_up_i e, ih]
      exact ⟨fun q => q.elim Or.inl (fun q => Or.inr ⟨by omega, q.2⟩), fun q => q.elim Or.inl (fun q => Or.inr ⟨by omega, q.2⟩)⟩
theorem jm_co_es {u : js_S} : jm_es (jm_co u 48) = (jm_es u).filter (fun t => decide (t.2.1 ≤ u 21 0)) := by
  refine jm_fl_es (fun f i h1 h2 => jm_co_f (by omega) 48) (fun i hi => ?_)
  rw [jm_co_9]
  constructor
  · rintro (q | q)
    · exact Or.inl q
    · exact Or.inr (by simpa using q.2)
  · rintro (q | q)
    · exact Or.inl q
    · exact Or.inr ⟨hi, by simpa using q⟩
