/-! The shape stays. -/
theorem jc_Sh_eq {u v : js_S} (h : jc_Sh u) (e0 : ∀ i, v 0 i = u 0 i) (e4 : ∀ i, v 4 i = u 4 i) (e1 : ∀ i, v 1 i = u 1 i) (e2 : ∀ i, v 2 i = u 2 i) (e7 : ∀ i, v 7 i = u 7 i) (e9 : ∀ i, v 9 i = u 9 i) (e12 : ∀ i, v 12 i = u 12 i) (e13 : ∀ i, v 13 i = u 13 i) (e15 : ∀ i, v 15 i = u 15 i) (e19 : ∀ i, v 19 i = u 19 i) (e14 : ∀ i, v 14 i = u 14 i) : jc_Sh v := by
  obtain ⟨h1, h2, h3, h4⟩ := h
  refine ⟨fun i hi => ?_, fun i hi => ?_, fun i hi => ?_, fun i hi => ?_⟩
  · rw [e0, e4, e1, e2]; exact h1 i hi
  · rw [e7, e9, e12, e13, e15, e19]; exact h2 i hi
  · rw [e14, e15, e19]; exact h3 i hi
  · rw [e7, e9]; exact h4 i hi
theorem jc_Sh_3 {u : js_S} (h : jc_Sh u) {i : Nat} {v : Int32} : jc_Sh (js_up u 3 i v) := jc_Sh_eq h (fun _ => js_up_f (by decide)) (fun _ => js_up_f (by decide)) (fun _ => js_up_f (by decide)) (fun _ => js_up_f (by decide)) (fun _ => js_up_f (by decide)) (fun _ => js_up_f (by decide)) (fun _ => js_up_f (by decide)) (fun _ => js_up_f (by decide)) (fun _ => js_up_f (by decide)) (fun _ => js_up_f (by decide)) (fun _ => js_up_f (by decide))
theorem jc_Sh_5 {u : js_S} (h : jc_Sh u) {i : Nat} {v : Int32} : jc_Sh (js_up u 5 i v) := jc_Sh_eq h (fun _ => js_up_f (by decide)) (fun _ => js_up_f (by decide)) (fun _ => js_up_f (by decide)) (fun _ => js_up_f (by decide)) (fun _ => js_up_f (by decide)) (fun _ => js_up_f (by decide)) (fun _ => js_up_f (by decide)) (fun _ => js_up_f (by decide)) (fun _ => js_up_f (by decide)) (fun _ => js_up_f (by decide)) (fun _ => js_up_f (by decide))
theorem jc_Sh_6 {u : js_S} (h : jc_Sh u) {i : Nat} {v : Int32} : jc_Sh (js_up u 6 i v) := jc_Sh_eq h (fun _ => js_up_f (by decide)) (fun _ => js_up_f (by decide)) (fun _ => js_up_f (by decide)) (fun _ => js_up_f (by decide)) (fun _ => js_up_f (by decide)) (fun _ => js_up_f (by decide)) (fun _ => js_up_f (by decide)) (fun _ => js_up_f (by decide)) (fun _ => js_up_f (by decide)) (fun _ => js_up_f (by decide)) (fun _ => js_up_f (by decide))
theorem jc_Sh_8 {u : js_S} (h : jc_Sh u) {i : Nat} {v : Int32} : jc_Sh (js_up u 8 i v) := jc_Sh_eq h (fun _ => js_up_f (by decide)) (fun _ => js_up_f (by decide)) (fun _ => js_up_f (by decide)) (fun _ => js_up_f (by decide)) (fun _ => js_up_f (by decide)) (fun _ => js_up_f (by decide)) (fun _ => js_up_f (by decide)) (fun _ => js_up_f (by decide)) (fun _ => js_up_f (by decide)) (fun _ => js_up_f (by decide)) (fun _ => js_up_f (by decide))
theorem jc_Sh_10 {u : js_S} (h : jc_Sh u) {i : Nat} {v : Int32} : jc_Sh (js_up u 10 i v) := jc_Sh_eq h (fun _ => js_up_f (by decide)) (fun _ => js_up_f (by decide)) (fun _ => js_up_f (by decide)) (fun _ => js_up_f (by decide)) (fun _ => js_up_f (by decide)) (fun _ => js_up_f (by decide)) (fun _ => js_up_f (by decide)) (fun _ => js_up_f (by decide)) (fun _ => js_up_f (by decide)) (fun _ => js_up_f (by decide)) (fun _ => js_up_f (by decide))
theorem jc_Sh_11 {u : js_S} (h : jc_Sh u) {i : Nat} {v : Int32} : jc_Sh (js_up u 11 i v) := jc_Sh_eq h (fun _ => js_up_f (by decide)) (fun _ => js_up_f (by decide)) (fun _ => js_up_f (by decide)) (fun _ => js_up_f (by decide)) (fun _ => js_up_f (by decide)) (fun _ => js_up_f (by decide)) (fun _ => js_up_f (by decide)) (fun _ => js_up_f (by decide)) (fun _ => js_up_f (by decide)) (fun _ => js_up_f (by decide)) (fun _ => js_up_f (by decide))
theorem jc_Sh_16 {u : js_S} (h : jc_Sh u) {i : Nat} {v : Int32} : jc_Sh (js_up u 16 i v) := jc_Sh_eq h (fun _ => js_up_f (by decide)) (fun _ => js_up_f (by decide)) (fun _ => js_up_f (by decide)) (fun _ => js_up_f (by decide)) (fun _ => js_up_f (by decide)) (fun _ => js_up_f (by decide)) (fun _ => js_up_f (by decide)) (fun _ => js_up_f (by decide)) (fun _ => js_up_f (by decide)) (fun _ => js_up_f (by decide)) (fun _ => js_up_f (by decide))
theorem jc_Sh_17 {u : js_S} (h : jc_Sh u) {i : Nat} {v : Int32} : jc_Sh (js_up u 17 i v) := jc_Sh_eq h (fun _ => js_up_f (by decide)) (fun _ => js_up_f (by decide)) (fun _ => js_up_f (by decide)) (fun _ => js_up_f (by decide)) (fun _ => js_up_f (by decide)) (fun _ => js_up_f (by decide)) (fun _ => js_up_f (by decide)) (fun _ => js_up_f (by decide)) (fun _ => js_up_f (by decide)) (fun _ => js_up_f (by decide)) (fun _ => js_up_f (by decide))
theorem jc_Sh_18 {u : js_S} (h : jc_Sh u) {i : Nat} {v : Int32} : jc_Sh (js_up u 18 i v) := jc_Sh_eq h (fun _ => js_up_f (by decide)) (fun _ => js_up_f (by decide)) (fun _ => js_up_f (by decide)) (fun _ => js_up_f (by decide)) (fun _ => js_up_f (by decide)) (fun _ => js_up_f (by decide)) (fun _ => js_up_f (by decide)) (fun _ => js_up_f (by decide)) (fun _ => js_up_f (by decide)) (fun _ => js_up_f (by decide)) (fun _ => js_up_f (by decide))
theorem jc_Sh_20 {u : js_S} (h : jc_Sh u) {i : Nat} {v : Int32} : jc_Sh (js_up u 20 i v) := jc_Sh_eq h (fun _ => js_up_f (by decide)) (fun _ => js_up_f (by decide)) (fun _ => js_up_f (by decide)) (fun _ => js_up_f (by decide)) (fun _ => js_up_f (by decide)) (fun _ => js_up_f (by decide)) (fun _ => js_up_f (by decide)) (fun _ => js_up_f (by decide)) (fun _ => js_up_f (by decide)) (fun _ => js_up_f (by decide)) (fun _ => js_up_f (by decide))
theorem jc_Sh_21 {u : js_S} (h : jc_Sh u) {i : Nat} {v : Int32} : jc_Sh (js_up u 21 i v) := jc_Sh_eq h (fun _ => js_up_f (by decide)) (fun _ => js_up_f (by decide)) (fun _ => js_up_f (by decide)) (fun _ => js_up_f (by decide)) (fun _ => js_up_f (by decide)) (fun _ => js_up_f (by decide)) (fun _ => js_up_f (by decide)) (fun _ => js_up_f (by decide)) (fun _ => js_up_f (by decide)) (fun _ => js_up_f (by decide)) (fun _ => js_up_f (by decide))
theorem jc_Sh_22 {u : js_S} (h : jc_Sh u) {i : Nat} {v : Int32} : jc_Sh (js_up u 22 i v) := jc_Sh_eq h (fun _ => js_up_f (by decide)) (fun _ => js_up_f (by decide)) (fun _ => js_up_f (by decide)) (fun _ => js_up_f (by decide)) (fun _ => js_up_f (by decide)) (fun _ => js_up_f (by decide)) (fun _ => js_up_f (by decide)) (fun _ => js_up_f (by decide)) (fun _ => js_up_f (by decide)) (fun _ => js_up_f (by decide)) (fun _ => js_up_f (by decide))
theorem jc_Sh_23 {u : js_S} (h : jc_Sh u) {i : Nat} {v : Int32} : jc_Sh (js_up u 23 i v) := jc_Sh_eq h (fun _ => js_up_f (by decide)) (fun _ => js_up_f (by decide)) (fun _ => js_up_f (by decide)) (fun _ => js_up_f (by decide)) (fun _ => js_up_f (by decide)) (fun _ => js_up_f (by decide)) (fun _ => js_up_f (by decide)) (fun _ => js_up_f (by decide)) (fun _ => js_up_f (by decide)) (fun _ => js_up_f (by decide)) (fun _ => js_up_f (by decide))
theorem jc_Sh_24 {u : js_S} (h : jc_Sh u) {i : Nat} {v : Int32} : jc_Sh (js_up u 24 i v) := jc_Sh_eq h (fun _ => js_up_f (by decide)) (fun _ => js_up_f (by decide)) (fun _ => js_up_f (by decide)) (fun _ => js_up_f (by decide)) (fun _ => js_up_f (by decide)) (fun _ => js_up_f (by decide)) (fun _ => js_up_f (by decide)) (fun _ => js_up_f (by decide)) (fun _ => js_up_f (by decide)) (fun _ => js_up_f (by decide)) (fun _ => js_up_f (by decide))
theorem jc_Sh_0 {u : js_S} (h : jc_Sh u) {i j : Nat} (hj : j < 3) : jc_Sh (js_up u 0 i (nI j)) := by
  obtain ⟨h1, h2, h3, h4⟩ := h
  refine ⟨fun k hk => ⟨?_, ?_⟩, h2, h3, h4⟩
  · by_cases e : k = i
    · subst e; rw [js_up_s]; exact ⟨j, hj, rfl⟩
    · rw [js_up_i e]; exact (h1 k hk).1
  · rw [js_up_f (by decide), js_up_f (by decide), js_up_f (by decide)]; exact (h1 k hk).2
theorem jc_Sh_1 {u : js_S} (h : jc_Sh u) {i : Nat} {v : Int32} (hv : v = -2 ∨ jq 256 v) : jc_Sh (js_up u 1 i v) := by
  obtain ⟨h1, h2, h3, h4⟩ := h
  refine ⟨fun k hk => ⟨(h1 k hk).1, (h1 k hk).2.1, ?_, (h1 k hk).2.2.2⟩, h2, h3, h4⟩
  by_cases e : k = i
  · subst e; rw [js_up_s]; exact hv
  · rw [js_up_i e]; exact (h1 k hk).2.2.1
theorem jc_Sh_2 {u : js_S} (h : jc_Sh u) {i : Nat} {v : Int32} (hv : v = -2 ∨ jq 256 v) : jc_Sh (js_up u 2 i v) := by
  obtain ⟨h1, h2, h3, h4⟩ := h
  refine ⟨fun k hk => ⟨(h1 k hk).1, (h1 k hk).2.1, (h1 k hk).2.2.1, ?_⟩, h2, h3, h4⟩
  by_cases e : k = i
  · subst e; rw [js_up_s]; exact hv
  · rw [js_up_i e]; exact (h1 k hk).2.2.2
theorem jc_Sh_4 {u : js_S} (h : jc_Sh u) {i j : Nat} (hj : j < 256) : jc_Sh (js_up u 4 i (nI j)) := by
  obtain ⟨h1, h2, h3, h4⟩ := h
  refine ⟨fun k hk => ⟨(h1 k hk).1, ?_, (h1 k hk).2.2⟩, h2, h3, h4⟩
  by_cases e : k = i
  · subst e; rw [js_up_s]; exact ⟨j, hj, rfl⟩
  · rw [js_up_i e]; exact (h1 k hk).2.1
theorem jc_Sh_7 {u : js_S} (h : jc_Sh u) {i d : Nat} (hd : d < 40) (ho : ¬ u 9 d = -1) : jc_Sh (js_up u 7 i (nI d)) := by
  obtain ⟨h1, h2, h3, h4⟩ := h
  refine ⟨h1, fun k hk => ⟨?_, (h2 k hk).2⟩, h3, fun k hk => ?_⟩
  · by_cases e : k = i
    · subst e; rw [js_up_s]; exact jq_nI hd
    · rw [js_up_i e]; exact (h2 k hk).1
  · rw [js_up_f (show ¬ 9 = 7 by decide)]
    by_cases e : k = i
    · subst e; rw [js_up_s, ix_nI (by omega)]; exact fun _ => ho
    · rw [js_up_i e]; exact h4 k hk
theorem jc_Sh_9 {u : js_S} (h : jc_Sh u) {i o : Nat} (ho : o < 40) : jc_Sh (js_up u 9 i (nI o)) := by
  obtain ⟨h1, h2, h3, h4⟩ := h
  refine ⟨h1, fun k hk => ⟨(h2 k hk).1, ?_, (h2 k hk).2.2⟩, h3, fun k hk => ?_⟩
  · by_cases e : k = i
    · subst e; rw [js_up_s]; exact jq_nI ho
    · rw [js_up_i e]; exact (h2 k hk).2.1
  · rw [js_up_f (show ¬ 7 = 9 by decide)]
    intro hn
    by_cases e : ix (u 7 k) = i
    · rw [e, js_up_s]; exact nI_m1 (by omega)
    · rw [js_up_i e]; exact h4 k hk hn
theorem jc_Sh_12 {u : js_S} (h : jc_Sh u) {i : Nat} {v : Int32} (hv : jq 40 v) : jc_Sh (js_up u 12 i v) := by
  obtain ⟨h1, h2, h3, h4⟩ := h
  refine ⟨h1, fun k hk => ⟨(h2 k hk).1, (h2 k hk).2.1, ?_, (h2 k hk).2.2.2⟩, h3, h4⟩
  by_cases e : k = i
  · subst e; rw [js_up_s]; exact hv
  · rw [js_up_i e]; exact (h2 k hk).2.2.1
theorem jc_Sh_13 {u : js_S} (h : jc_Sh u) {i : Nat} {v : Int32} (hv : jq 40 v) : jc_Sh (js_up u 13 i v) := by
  obtain ⟨h1, h2, h3, h4⟩ := h
  refine ⟨h1, fun k hk => ⟨(h2 k hk).1, (h2 k hk).2.1, (h2 k hk).2.2.1, ?_, (h2 k hk).2.2.2.2⟩, h3, h4⟩
  by_cases e : k = i
  · subst e; rw [js_up_s]; exact hv
  · rw [js_up_i e]; exact (h2 k hk).2.2.2.1
theorem jc_Sh_14 {u : js_S} (h : jc_Sh u) {i : Nat} : jc_Sh (js_up u 14 i 0) := by
  obtain ⟨h1, h2, h3, h4⟩ := h
  refine ⟨h1, h2, fun k hk => ?_, h4⟩
  rw [js_up_f (show ¬ 15 = 14 by decide), js_up_f (show ¬ 19 = 14 by decide)]
  by_cases e : k = i
  · subst e; rw [js_up_s]; exact fun q => absurd rfl q
  · rw [js_up_i e]; exact h3 k hk
theorem jc_Sh_19 {u : js_S} (h : jc_Sh u) {i d : Nat} (hd : d < 40) : jc_Sh (js_up u 19 i (nI d)) := by
  obtain ⟨h1, h2, h3, h4⟩ := h
  refine ⟨h1, fun k hk => ⟨(h2 k hk).1, (h2 k hk).2.1, (h2 k hk).2.2.1, (h2 k hk).2.2.2.1, (h2 k hk).2.2.2.2.1, ?_⟩, fun k hk => ?_, h4⟩
  · by_cases e : k = i
    · subst e; rw [js_up_s]; exact jq_nI hd
    · rw [js_up_i e]; exact (h2 k hk).2.2.2.2.2
  · rw [js_up_f (show ¬ 14 = 19 by decide), js_up_f (show ¬ 15 = 19 by decide)]
    by_cases e : k = i
    · subst e; rw [js_up_s]; exact fun q => ⟨(h3 k hk q).1, nI_m1 (by omega)⟩
    · rw [js_up_i e]; exact h3 k hk
theorem js_free_le {u : js_S} {f : Nat} : ∀ (k i : Nat), i ≤ js_free u f k i ∧ js_free u f k i ≤ i + k
  | 0, i => ⟨Nat.le_refl _, Nat.le_refl _⟩
  | k + 1, i => by
    unfold js_free
    split
    · exact ⟨Nat.le_refl _, by omega⟩
    · have := js_free_le (u := u) (f := f) k (i + 1)
      omega
theorem js_f39 {u : js_S} {f : Nat} : js_free u f 39 0 < 40 := by have := js_free_le (u := u) (f := f) 39 0; omega
theorem js_f38 {u : js_S} {f : Nat} : js_free u f 38 1 < 40 := by have := js_free_le (u := u) (f := f) 38 1; omega
theorem jc_Sh_add {u : js_S} (h : jc_Sh u) {o d : Nat} (ho : o < 40) (hd : d < 40) {st url state : Int32} : jc_Sh (jc_addEntry u (nI o) st url state (nI d)) := by
  unfold jc_addEntry
  generalize js_free u 14 39 0 = i
  have h5 : jc_Sh (js_up (js_up (js_up u 16 i st) 17 i url) 18 i state) := jc_Sh_18 (jc_Sh_17 (jc_Sh_16 h))
  obtain ⟨h1, h2, h3, h4⟩ := h5
  refine ⟨fun k hk => ?_, fun k hk => ?_, fun k hk => ?_, fun k hk => ?_⟩
  · have := h1 k hk
    simp only [js_up] at this ⊢
    simpa using this
  · have := h2 k hk
    simp only [js_up] at this ⊢
    by_cases e : k = i
    · subst e
      simp at this ⊢
      exact ⟨this.1, this.2.1, this.2.2.1, this.2.2.2.1, jq_nI ho, jq_nI hd⟩
    · simpa [e] using this
  · have := h3 k hk
    simp only [js_up] at this ⊢
    by_cases e : k = i
    · subst e
      simp
      exact ⟨nI_m1 (by omega), nI_m1 (by omega)⟩
    · simpa [e] using this
  · have := h4 k hk
    simp only [js_up] at this ⊢
    simpa using this
theorem jc_Sh_fd {u : js_S} (h : jc_Sh u) {o : Nat} (ho : o < 40) : jc_Sh (jc_freeDoc u (nI o)) := jc_Sh_13 (jc_Sh_12 (jc_Sh_9 (jc_Sh_8 h) ho) jq_m1) jq_m1
theorem jc_Sh_opq {u : js_S} (h : jc_Sh u) {i : Nat} : jc_Sh (jc_opq u i) := jc_Sh_10 (jc_Sh_24 h)
theorem jc_Sh_kd1 {u : js_S} (h : jc_Sh u) : ∀ k, jc_Sh (jc_kd1 u k)
  | 0 => h
  | k + 1 => jc_Sh_8 (jc_Sh_kd1 h k)
theorem jc_Sh_kd2 {u : js_S} (h : jc_Sh u) : ∀ k, jc_Sh (jc_kd2 u k)
  | 0 => h
  | k + 1 => by
    unfold jc_kd2
    split
    · exact jc_Sh_8 (jc_Sh_kd2 h k)
    · exact jc_Sh_kd2 h k
theorem jc_Sh_df {u : js_S} (h : jc_Sh u) : ∀ k, jc_Sh (jc_df u k)
  | 0 => h
  | k + 1 => by
    unfold jc_df
    split
    · exact jc_Sh_5 (jc_Sh_df h k)
    · exact jc_Sh_df h k
theorem jc_Sh_de {u : js_S} (h : jc_Sh u) : ∀ k, jc_Sh (jc_de u k)
  | 0 => h
  | k + 1 => by
    unfold jc_de
    split
    · exact jc_Sh_14 (jc_Sh_de h k)
    · exact jc_Sh_de h k
theorem jc_Sh_keep {u : js_S} (h : jc_Sh u) : jc_Sh (jc_keepDocs u) := jc_Sh_kd2 (jc_Sh_kd1 h 40) 40
theorem jc_Sh_round {u : js_S} (h : jc_Sh u) : jc_Sh (jc_round u) := jc_Sh_de (jc_Sh_df (jc_Sh_keep h) 40) 40
theorem jc_Sh_gone {u : js_S} (h : jc_Sh u) : jc_Sh (jc_gone u) := jc_Sh_round (jc_Sh_round (jc_Sh_round h))
theorem jc_Sh_dl {u : js_S} (h : jc_Sh u) : ∀ k, jc_Sh (jc_dl u k)
  | 0 => h
  | k + 1 => by
    unfold jc_dl
    split
    · exact jc_Sh_14 (jc_Sh_dl h k)
    · exact jc_Sh_dl h k
theorem jc_Sh_later {u : js_S} (h : jc_Sh u) : jc_Sh (jc_dropLater u) := jc_Sh_gone (jc_Sh_dl h 40)
theorem jc_Sh_settle {u : js_S} (h : jc_Sh u) : jc_Sh (jc_settle u) := jc_Sh_21 h
