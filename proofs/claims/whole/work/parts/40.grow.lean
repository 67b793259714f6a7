/-! Rows in use, free rows, and what loading leaves as it was. -/
theorem cn_le {u : js_S} {f : Nat} : ∀ k, jm_cntF u f k ≤ k
  | 0 => Nat.le_refl _
  | k + 1 => by
    have := cn_le (u := u) (f := f) k
    unfold jm_cntF
    split <;> omega
theorem cn_ex {u : js_S} {f : Nat} : ∀ k, jm_cntF u f k < k → ∃ i, i < k ∧ u f i = 0
  | 0, h => by omega
  | k + 1, h => by
    by_cases h0 : u f k = 0
    · exact ⟨k, by omega, h0⟩
    · rw [show jm_cntF u f (k + 1) = jm_cntF u f k + 1 from by simp [jm_cntF, h0]] at h
      obtain ⟨i, h1, h2⟩ := cn_ex (u := u) (f := f) k (by omega)
      exact ⟨i, by omega, h2⟩
theorem cn_congr {u v : js_S} {f g : Nat} : ∀ k, (∀ i, i < k → (u f i = 0 ↔ v g i = 0)) → jm_cntF u f k = jm_cntF v g k
  | 0, _ => rfl
  | k + 1, h => by
    have h1 := cn_congr k (fun i hi => h i (by omega))
    have h2 := h k (by omega)
    unfold jm_cntF
    rw [h1]
    by_cases h0 : u f k = 0
    · simp [h0, h2.mp h0]
    · have h3 : ¬ v g k = 0 := fun e => h0 (h2.mpr e)
      simp [h0, h3]
theorem cn_ne {u : js_S} {f g i : Nat} {w : Int32} (h : ¬ f = g) (k : Nat) : jm_cntF (js_up u g i w) f k = jm_cntF u f k :=
  cn_congr k (fun j _ => by rw [js_up_f h])
theorem cn_up {u : js_S} {f i : Nat} {w : Int32} (h0 : u f i = 0) (hw : ¬ w = 0) : ∀ k, i < k → jm_cntF (js_up u f i w) f k = jm_cntF u f k + 1
  | 0, h => by omega
  | k + 1, h => by
    by_cases e : i = k
    · subst e
      have h1 : jm_cntF (js_up u f i w) f i = jm_cntF u f i := cn_congr i (fun j hj => by rw [js_up_i (by omega)])
      unfold jm_cntF
      rw [h1, js_up_s]
      simp [hw, h0]
    · have h1 := cn_up h0 hw k (by omega)
      unfold jm_cntF
      rw [h1, js_up_i (fun q => e q.symm)]
      split <;> rfl
theorem js_free_z {u : js_S} {f : Nat} : ∀ k a, (∃ i, a ≤ i ∧ i ≤ a + k ∧ u f i = 0) → u f (js_free u f k a) = 0
  | 0, a, ⟨i, h1, h2, h3⟩ => by
    have : i = a := by omega
    subst this
    exact h3
  | k + 1, a, ⟨i, h1, h2, h3⟩ => by
    unfold js_free
    split
    · assumption
    · rename_i h0
      have : ¬ i = a := fun e => h0 (by rw [← e]; exact h3)
      exact js_free_z k (a + 1) ⟨i, by omega, by omega, h3⟩
theorem js_free_min {u : js_S} {f : Nat} : ∀ k a j, a ≤ j → j < js_free u f k a → ¬ u f j = 0
  | 0, a, j, h1, h2 => by
    unfold js_free at h2
    omega
  | k + 1, a, j, h1, h2 => by
    unfold js_free at h2
    split at h2
    · omega
    · rename_i h0
      by_cases e : j = a
      · rw [e]
        exact h0
      · exact js_free_min k (a + 1) j (by omega) h2
theorem js_f39z {u : js_S} {f : Nat} (h : jm_cntF u f 40 < 40) : u f (js_free u f 39 0) = 0 := by
  obtain ⟨i, h1, h2⟩ := cn_ex 40 h
  exact js_free_z 39 0 ⟨i, by omega, by omega, h2⟩
theorem js_f38z {u : js_S} {f : Nat} (h : jm_cntF u f 40 < 40) (h0 : ¬ u f 0 = 0) : u f (js_free u f 38 1) = 0 := by
  obtain ⟨i, h1, h2⟩ := cn_ex 40 h
  have : ¬ i = 0 := fun e => h0 (by rw [← e]; exact h2)
  exact js_free_z 38 1 ⟨i, by omega, by omega, h2⟩
/-- v is u with some more navigables (a), documents (b), entries (c), and with other frames of the document x -/
def jc_Gr (u v : js_S) (x a b c : Nat) : Prop :=
  (∀ n, n < 40 → ¬ u 5 n = 0 → ¬ v 5 n = 0 ∧ v 6 n = u 6 n ∧ v 7 n = u 7 n) ∧
  (∀ d, d < 40 → ¬ u 8 d = 0 → ¬ v 8 d = 0 ∧ v 9 d = u 9 d ∧ v 10 d = u 10 d ∧ v 11 d = u 11 d ∧ (¬ d = x → v 12 d = u 12 d ∧ v 13 d = u 13 d)) ∧
  (∀ i, i < 40 → ¬ u 14 i = 0 → ¬ v 14 i = 0 ∧ v 15 i = u 15 i ∧ v 16 i = u 16 i ∧ v 17 i = u 17 i ∧ v 18 i = u 18 i ∧ v 19 i = u 19 i) ∧
  (∀ i, v 0 i = u 0 i ∧ v 1 i = u 1 i ∧ v 2 i = u 2 i ∧ v 3 i = u 3 i ∧ v 4 i = u 4 i) ∧
  (v 21 0 = u 21 0 ∧ v 22 0 = u 22 0 ∧ v 23 0 = u 23 0) ∧
  jm_cntF v 5 40 ≤ jm_cntF u 5 40 + a ∧ jm_cntF v 8 40 ≤ jm_cntF u 8 40 + b ∧ jm_cntF v 14 40 ≤ jm_cntF u 14 40 + c
theorem jc_Gr_rf {u : js_S} {x : Nat} : jc_Gr u u x 0 0 0 := ⟨fun _ _ h => ⟨h, rfl, rfl⟩, fun _ _ h => ⟨h, rfl, rfl, rfl, fun _ => ⟨rfl, rfl⟩⟩, fun _ _ h => ⟨h, rfl, rfl, rfl, rfl, rfl⟩, fun _ => ⟨rfl, rfl, rfl, rfl, rfl⟩, ⟨rfl, rfl, rfl⟩, Nat.le_refl _, Nat.le_refl _, Nat.le_refl _⟩
theorem jc_Gr_tr {u v w : js_S} {x a b c a' b' c' : Nat} (h : jc_Gr u v x a b c) (g : jc_Gr v w x a' b' c') : jc_Gr u w x (a + a') (b + b') (c + c') := by
  obtain ⟨h1, h2, h3, h4, h5, h6, h7, h8⟩ := h
  obtain ⟨g1, g2, g3, g4, g5, g6, g7, g8⟩ := g
  refine ⟨fun n hn e => ?_, fun d hd e => ?_, fun i hi e => ?_, fun i => ?_, ?_, by omega, by omega, by omega⟩
  · obtain ⟨p1, p2, p3⟩ := h1 n hn e
    obtain ⟨q1, q2, q3⟩ := g1 n hn p1
    exact ⟨q1, q2.trans p2, q3.trans p3⟩
  · obtain ⟨p1, p2, p3, p4, p5⟩ := h2 d hd e
    obtain ⟨q1, q2, q3, q4, q5⟩ := g2 d hd p1
    exact ⟨q1, q2.trans p2, q3.trans p3, q4.trans p4, fun z => ⟨(q5 z).1.trans (p5 z).1, (q5 z).2.trans (p5 z).2⟩⟩
  · obtain ⟨p1, p2, p3, p4, p5, p6⟩ := h3 i hi e
    obtain ⟨q1, q2, q3, q4, q5, q6⟩ := g3 i hi p1
    exact ⟨q1, q2.trans p2, q3.trans p3, q4.trans p4, q5.trans p5, q6.trans p6⟩
  · obtain ⟨p1, p2, p3, p4, p5⟩ := h4 i
    obtain ⟨q1, q2, q3, q4, q5⟩ := g4 i
    exact ⟨q1.trans p1, q2.trans p2, q3.trans p3, q4.trans p4, q5.trans p5⟩
  · exact ⟨g5.1.trans h5.1, g5.2.1.trans h5.2.1, g5.2.2.trans h5.2.2⟩
theorem jc_Gr_le {u v : js_S} {x a b c a' b' c' : Nat} (h : jc_Gr u v x a b c) (ha : a ≤ a') (hb : b ≤ b') (hc : c ≤ c') : jc_Gr u v x a' b' c' := by
  obtain ⟨h1, h2, h3, h4, h5, h6, h7, h8⟩ := h
  exact ⟨h1, h2, h3, h4, h5, by omega, by omega, by omega⟩
/-- more may change where the document that may change is no row -/
theorem jc_Gr_x {u v : js_S} {x a b c : Nat} (h : jc_Gr u v 40 a b c) : jc_Gr u v x a b c := by
  obtain ⟨h1, h2, h3, h4, h5, h6, h7, h8⟩ := h
  refine ⟨h1, fun d hd e => ?_, h3, h4, h5, h6, h7, h8⟩
  obtain ⟨p1, p2, p3, p4, p5⟩ := h2 d hd e
  exact ⟨p1, p2, p3, p4, fun _ => p5 (by omega)⟩
/-- a document that wasn't there may change -/
theorem jc_Gr_nx {u v : js_S} {x a b c : Nat} (h : jc_Gr u v x a b c) (h0 : u 8 x = 0) : jc_Gr u v 40 a b c := by
  obtain ⟨h1, h2, h3, h4, h5, h6, h7, h8⟩ := h
  refine ⟨h1, fun d hd e => ?_, h3, h4, h5, h6, h7, h8⟩
  obtain ⟨p1, p2, p3, p4, p5⟩ := h2 d hd e
  exact ⟨p1, p2, p3, p4, fun _ => p5 (fun q => e (by rw [q]; exact h0))⟩
theorem jc_Gr_put {u v : js_S} {x a b c f i : Nat} {w : Int32} (h : jc_Gr u v x a b c) (hf : f = 24 ∨ ((f = 10 ∨ f = 11) ∧ u 8 i = 0) ∨ ((f = 12 ∨ f = 13) ∧ (i = x ∨ u 8 i = 0))) : jc_Gr u (js_up v f i w) x a b c := by
  obtain ⟨h1, h2, h3, h4, h5, h6, h7, h8⟩ := h
  have k0 : ∀ g j, g = 0 ∨ g = 1 ∨ g = 2 ∨ g = 3 ∨ g = 4 ∨ g = 5 ∨ g = 6 ∨ g = 7 ∨ g = 8 ∨ g = 9 ∨ g = 14 ∨ g = 15 ∨ g = 16 ∨ g = 17 ∨ g = 18 ∨ g = 19 ∨ g = 21 ∨ g = 22 ∨ g = 23 → js_up v f i w g j = v g j := by
    intro g j hg
    exact js_up_f (by omega)
  refine ⟨fun n hn e => ?_, fun d hd e => ?_, fun j hj e => ?_, fun j => ?_, ?_, ?_, ?_, ?_⟩
  · rw [k0 5 n (by omega), k0 6 n (by omega), k0 7 n (by omega)]
    exact h1 n hn e
  · rw [k0 8 d (by omega), k0 9 d (by omega)]
    obtain ⟨p1, p2, p3, p4, p5⟩ := h2 d hd e
    have q : ∀ g, js_up v f i w g d = v g d ∨ (g = f ∧ d = i) := by
      intro g
      by_cases z : g = f ∧ d = i
      · exact Or.inr z
      · exact Or.inl (by simp [js_up, z])
    refine ⟨p1, p2, ?_, ?_, fun z => ⟨?_, ?_⟩⟩
    · rcases q 10 with r | ⟨r1, r2⟩
      · rw [r]; exact p3
      · subst r2
        rcases hf with hf | ⟨hf, h0⟩ | ⟨hf, h0⟩
        · omega
        · exact absurd h0 e
        · omega
    · rcases q 11 with r | ⟨r1, r2⟩
      · rw [r]; exact p4
      · subst r2
        rcases hf with hf | ⟨hf, h0⟩ | ⟨hf, h0⟩
        · omega
        · exact absurd h0 e
        · omega
    · rcases q 12 with r | ⟨r1, r2⟩
      · rw [r]; exact (p5 z).1
      · subst r2
        rcases hf with hf | ⟨hf, h0⟩ | ⟨hf, h0 | h0⟩
        · omega
        · omega
        · exact absurd h0 z
        · exact absurd h0 e
    · rcases q 13 with r | ⟨r1, r2⟩
      · rw [r]; exact (p5 z).2
      · subst r2
        rcases hf with hf | ⟨hf, h0⟩ | ⟨hf, h0 | h0⟩
        · omega
        · omega
        · exact absurd h0 z
        · exact absurd h0 e
  · rw [k0 14 j (by omega), k0 15 j (by omega), k0 16 j (by omega), k0 17 j (by omega), k0 18 j (by omega), k0 19 j (by omega)]
    exact h3 j hj e
  · rw [k0 0 j (by omega), k0 1 j (by omega), k0 2 j (by omega), k0 3 j (by omega), k0 4 j (by omega)]
    exact h4 j
  · rw [k0 21 0 (by omega), k0 22 0 (by omega), k0 23 0 (by omega)]
    exact h5
  · rw [cn_ne (by omega)]; exact h6
  · rw [cn_ne (by omega)]; exact h7
  · rw [cn_ne (by omega)]; exact h8
theorem jc_Gr_mk0 {u : js_S} {n : Nat} {doc : Int32} (hn : n < 40) (h0 : u 5 n = 0) : jc_Gr u (jc_mk0 u n doc) 40 1 0 0 := by
  have k0 : ∀ g j, ¬ (g = 5 ∨ g = 6 ∨ g = 7) → jc_mk0 u n doc g j = u g j := by
    intro g j hg
    unfold jc_mk0
    rw [js_up_f (by omega), js_up_f (by omega), js_up_f (by omega)]
  have k1 : ∀ g j, ¬ j = n → jc_mk0 u n doc g j = u g j := by
    intro g j hg
    unfold jc_mk0
    rw [js_up_i hg, js_up_i hg, js_up_i hg]
  refine ⟨fun j hj e => ?_, fun d hd e => ?_, fun j hj e => ?_, fun j => ?_, ?_, ?_, ?_, ?_⟩
  · have hne : ¬ j = n := fun q => e (by rw [q]; exact h0)
    rw [k1 5 j hne, k1 6 j hne, k1 7 j hne]
    exact ⟨e, rfl, rfl⟩
  · rw [k0 8 d (by omega), k0 9 d (by omega), k0 10 d (by omega), k0 11 d (by omega), k0 12 d (by omega), k0 13 d (by omega)]
    exact ⟨e, rfl, rfl, rfl, fun _ => ⟨rfl, rfl⟩⟩
  · rw [k0 14 j (by omega), k0 15 j (by omega), k0 16 j (by omega), k0 17 j (by omega), k0 18 j (by omega), k0 19 j (by omega)]
    exact ⟨e, rfl, rfl, rfl, rfl, rfl⟩
  · rw [k0 0 j (by omega), k0 1 j (by omega), k0 2 j (by omega), k0 3 j (by omega), k0 4 j (by omega)]
    exact ⟨rfl, rfl, rfl, rfl, rfl⟩
  · rw [k0 21 0 (by omega), k0 22 0 (by omega), k0 23 0 (by omega)]
    exact ⟨rfl, rfl, rfl⟩
  · have e1 : jm_cntF (jc_mk0 u n doc) 5 40 = jm_cntF (js_up u 5 n 1) 5 40 := by
      apply cn_congr
      intro i _
      unfold jc_mk0
      rw [js_up_f (by decide), js_up_f (by decide)]
    rw [e1, cn_up h0 (by decide) 40 hn]
    exact Nat.le_refl _
  · rw [cn_congr (v := u) (g := 8) 40 (fun i _ => by rw [k0 8 i (by omega)])]
    exact Nat.le_refl _
  · rw [cn_congr (v := u) (g := 14) 40 (fun i _ => by rw [k0 14 i (by omega)])]
    exact Nat.le_refl _
theorem jc_Gr_doc {u : js_S} {o : Int32} (h0 : u 8 (js_free u 8 39 0) = 0) : jc_Gr u (jc_freeDoc u o) 40 0 1 0 := by
  have hi : js_free u 8 39 0 < 40 := js_f39
  unfold jc_freeDoc
  generalize js_free u 8 39 0 = i at h0 hi
  have k0 : ∀ g j, ¬ (g = 8 ∨ g = 9 ∨ g = 12 ∨ g = 13) → js_up (js_up (js_up (js_up u 8 i 1) 9 i o) 12 i (-1)) 13 i (-1) g j = u g j := by
    intro g j hg
    rw [js_up_f (by omega), js_up_f (by omega), js_up_f (by omega), js_up_f (by omega)]
  have k1 : ∀ g j, ¬ j = i → js_up (js_up (js_up (js_up u 8 i 1) 9 i o) 12 i (-1)) 13 i (-1) g j = u g j := by
    intro g j hg
    rw [js_up_i hg, js_up_i hg, js_up_i hg, js_up_i hg]
  refine ⟨fun j hj e => ?_, fun d hd e => ?_, fun j hj e => ?_, fun j => ?_, ?_, ?_, ?_, ?_⟩
  · rw [k0 5 j (by omega), k0 6 j (by omega), k0 7 j (by omega)]
    exact ⟨e, rfl, rfl⟩
  · have hne : ¬ d = i := fun q => e (by rw [q]; exact h0)
    rw [k1 8 d hne, k1 9 d hne, k1 10 d hne, k1 11 d hne, k1 12 d hne, k1 13 d hne]
    exact ⟨e, rfl, rfl, rfl, fun _ => ⟨rfl, rfl⟩⟩
  · rw [k0 14 j (by omega), k0 15 j (by omega), k0 16 j (by omega), k0 17 j (by omega), k0 18 j (by omega), k0 19 j (by omega)]
    exact ⟨e, rfl, rfl, rfl, rfl, rfl⟩
  · rw [k0 0 j (by omega), k0 1 j (by omega), k0 2 j (by omega), k0 3 j (by omega), k0 4 j (by omega)]
    exact ⟨rfl, rfl, rfl, rfl, rfl⟩
  · rw [k0 21 0 (by omega), k0 22 0 (by omega), k0 23 0 (by omega)]
    exact ⟨rfl, rfl, rfl⟩
  · rw [cn_congr (v := u) (g := 5) 40 (fun i _ => by rw [k0 5 i (by omega)])]
    exact Nat.le_refl _
  · rw [cn_ne (by decide), cn_ne (by decide), cn_ne (by decide), cn_up h0 (by decide) 40 hi]
    exact Nat.le_refl _
  · rw [cn_congr (v := u) (g := 14) 40 (fun i _ => by rw [k0 14 i (by omega)])]
    exact Nat.le_refl _
theorem jc_Gr_add {u : js_S} {o st url state doc : Int32} (h0 : u 14 (js_free u 14 39 0) = 0) : jc_Gr u (jc_addEntry u o st url state doc) 40 0 0 1 := by
  have hi : js_free u 14 39 0 < 40 := js_f39
  unfold jc_addEntry
  generalize js_free u 14 39 0 = i at h0 hi
  have k0 : ∀ g j, ¬ (g = 14 ∨ g = 15 ∨ g = 16 ∨ g = 17 ∨ g = 18 ∨ g = 19) → js_up (js_up (js_up (js_up (js_up (js_up u 14 i 1) 15 i o) 16 i st) 17 i url) 18 i state) 19 i doc g j = u g j := by
    intro g j hg
    rw [js_up_f (by omega), js_up_f (by omega), js_up_f (by omega), js_up_f (by omega), js_up_f (by omega), js_up_f (by omega)]
  have k1 : ∀ g j, ¬ j = i → js_up (js_up (js_up (js_up (js_up (js_up u 14 i 1) 15 i o) 16 i st) 17 i url) 18 i state) 19 i doc g j = u g j := by
    intro g j hg
    rw [js_up_i hg, js_up_i hg, js_up_i hg, js_up_i hg, js_up_i hg, js_up_i hg]
  refine ⟨fun j hj e => ?_, fun d hd e => ?_, fun j hj e => ?_, fun j => ?_, ?_, ?_, ?_, ?_⟩
  · rw [k0 5 j (by omega), k0 6 j (by omega), k0 7 j (by omega)]
    exact ⟨e, rfl, rfl⟩
  · rw [k0 8 d (by omega), k0 9 d (by omega), k0 10 d (by omega), k0 11 d (by omega), k0 12 d (by omega), k0 13 d (by omega)]
    exact ⟨e, rfl, rfl, rfl, fun _ => ⟨rfl, rfl⟩⟩
  · have hne : ¬ j = i := fun q => e (by rw [q]; exact h0)
    rw [k1 14 j hne, k1 15 j hne, k1 16 j hne, k1 17 j hne, k1 18 j hne, k1 19 j hne]
    exact ⟨e, rfl, rfl, rfl, rfl, rfl⟩
  · rw [k0 0 j (by omega), k0 1 j (by omega), k0 2 j (by omega), k0 3 j (by omega), k0 4 j (by omega)]
    exact ⟨rfl, rfl, rfl, rfl, rfl⟩
  · rw [k0 21 0 (by omega), k0 22 0 (by omega), k0 23 0 (by omega)]
    exact ⟨rfl, rfl, rfl⟩
  · rw [cn_congr (v := u) (g := 5) 40 (fun i _ => by rw [k0 5 i (by omega)])]
    exact Nat.le_refl _
  · rw [cn_congr (v := u) (g := 8) 40 (fun i _ => by rw [k0 8 i (by omega)])]
    exact Nat.le_refl _
  · rw [cn_ne (by decide), cn_ne (by decide), cn_ne (by decide), cn_ne (by decide), cn_ne (by decide), cn_up h0 (by decide) 40 hi]
    exact Nat.le_refl _
