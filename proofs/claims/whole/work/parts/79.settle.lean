/-! Which fields the relation reads; length; settling the present step. -/
theorem jz_I_eq {K : Nat} {u w : js_S} (h : jz_I K u) (he : ∀ f j, 5 ≤ f → f ≤ 19 → w f j = u f j) (h21 : w 21 0 = u 21 0) (hS : jc_Sh w) : jz_I K w := by
  have es : jc_es w = jc_es u := jc_es_eq (fun f i h1 h2 => he f i (by omega) h2)
  have e5 : ∀ j, w 5 j = u 5 j := fun j => he 5 j (by decide) (by decide)
  have e6 : ∀ j, w 6 j = u 6 j := fun j => he 6 j (by decide) (by decide)
  have e7 : ∀ j, w 7 j = u 7 j := fun j => he 7 j (by decide) (by decide)
  have e8 : ∀ j, w 8 j = u 8 j := fun j => he 8 j (by decide) (by decide)
  have e9 : ∀ j, w 9 j = u 9 j := fun j => he 9 j (by decide) (by decide)
  have e12 : ∀ j, w 12 j = u 12 j := fun j => he 12 j (by decide) (by decide)
  have e13 : ∀ j, w 13 j = u 13 j := fun j => he 13 j (by decide) (by decide)
  obtain ⟨a1, a2, a3, a4, a5, a6, a7, a8, a9⟩ := h
  refine ⟨?_, ?_, ?_, ?_, ?_, hS, ?_, ?_, ?_⟩
  · unfold jp_P jp_W jp_L jp_E jp_N jp_D at a1 ⊢
    simp only [es, e5, e6, e7, e8, e9, e12, e13]; exact a1
  · unfold jp_A at a2 ⊢
    simp only [es, e5, e8]; exact a2
  · unfold jp_B at a3 ⊢
    simp only [es, e5, e7]; exact a3
  · unfold jp_z at a4 ⊢
    simp only [es]; exact a4
  · unfold jp_k at a5 ⊢
    simp only [es]; exact a5
  · simp only [es]; exact a7
  · rw [h21]; exact a8
  · simp only [es, h21]; exact a9
theorem jp_sn_eq {u w : js_S} (he : ∀ f j, 5 ≤ f → f ≤ 19 → w f j = u f j) {st : Int32} {n : Nat} : jp_sn w st n ↔ jp_sn u st n := by
  have es : jc_es w = jc_es u := jc_es_eq (fun f i h1 h2 => he f i (by omega) h2)
  have e5 : ∀ j, w 5 j = u 5 j := fun j => he 5 j (by decide) (by decide)
  have e7 : ∀ j, w 7 j = u 7 j := fun j => he 7 j (by decide) (by decide)
  have e9 : ∀ j, w 9 j = u 9 j := fun j => he 9 j (by decide) (by decide)
  unfold jp_sn jp_h jc_up1
  simp only [es, e5, e7, e9]
theorem jp_X_equ {u v w : js_S} (hX : jp_X u v) (he : ∀ f j, 5 ≤ f → f ≤ 19 → w f j = u f j) : jp_X w v := by
  have es : jc_es w = jc_es u := jc_es_eq (fun f i h1 h2 => he f i (by omega) h2)
  have e5 : ∀ j, w 5 j = u 5 j := fun j => he 5 j (by decide) (by decide)
  have e7 : ∀ j, w 7 j = u 7 j := fun j => he 7 j (by decide) (by decide)
  have e8 : ∀ j, w 8 j = u 8 j := fun j => he 8 j (by decide) (by decide)
  have e10 : ∀ j, w 10 j = u 10 j := fun j => he 10 j (by decide) (by decide)
  have e11 : ∀ j, w 11 j = u 11 j := fun j => he 11 j (by decide) (by decide)
  have e12 : ∀ j, w 12 j = u 12 j := fun j => he 12 j (by decide) (by decide)
  have e13 : ∀ j, w 13 j = u 13 j := fun j => he 13 j (by decide) (by decide)
  unfold jp_X at hX ⊢
  simp only [es, e5, e7, e8, e10, e11, e12, e13]
  exact hX
theorem jz_ans_eq {u v w x : js_S} (h : jz_ans u v) (hu : ∀ f j, f ≤ 4 → w f j = u f j) (hv : ∀ f j, f ≤ 3 → x f j = v f j) : jz_ans w x := by
  intro i hi
  rw [hu 0 i (by decide), hu 1 i (by decide), hu 2 i (by decide), hu 3 i (by decide), hu 4 i (by decide), hv 0 i (by decide), hv 1 i (by decide), hv 2 i (by decide), hv 3 i (by decide)]
  exact h i hi
/-- only the row of used steps differs -/
theorem jz_S_20 {K : Nat} {u v w : js_S} (h : jz_S K u v) (he : ∀ f j, ¬ f = 20 → w f j = u f j) (hS : jc_Sh w) : jz_S K w v := by
  obtain ⟨a1, a2, a3, a4, a5, a6, a7⟩ := h
  refine ⟨a1, jz_I_eq a2 (fun f j _ _ => he f j (by omega)) (he 21 0 (by decide)) hS, jz_ans_eq a3 (fun f j _ => he f j (by omega)) (fun _ _ _ => rfl), jp_X_equ a4 (fun f j _ _ => he f j (by omega)), ?_, fun n hn => ?_, a7⟩
  · unfold jz_sc
    rw [he 21 0 (by decide), he 22 0 (by decide), he 23 0 (by decide), he 24 0 (by decide)]
    exact a5
  · rw [jp_sn_eq (u := u) (fun f j _ _ => he f j (by omega))]
    exact a6 n hn
theorem jz_S_mono {K L : Nat} {u v : js_S} (h : jz_S K u v) (hL : K ≤ L) (h2 : L < 2 ^ 31) : jz_S L u v := by
  obtain ⟨a1, ⟨b1, b2, b3, b4, b5, b6, b7, b8, b9⟩, a3, a4, a5, a6, a7⟩ := h
  refine ⟨h2, ⟨b1, b2, b3, b4, b5, b6, fun t ht => ⟨(b7 t ht).1, ?_⟩, ?_, b9⟩, a3, a4, a5, a6, a7⟩
  · obtain ⟨s, hs, e⟩ := (b7 t ht).2
    exact ⟨s, by omega, e⟩
  · obtain ⟨k, hk, e⟩ := b8
    exact ⟨k, by omega, e⟩
theorem jz_enum {K : Nat} {u v : js_S} (h : jz_S K u v) (hK : K ≤ 600) : jm_enum v (fun a => ix ((jc_cu u 40).1 20 a)) (jc_cu u 40).2 601 ∧ ∀ a, a < (jc_cu u 40).2 → (jc_cu u 40).1 20 a = nI (ix ((jc_cu u 40).1 20 a)) := by
  obtain ⟨a1, ⟨b1, b2, b3, b4, b5, b6, b7, b8, b9⟩, a3, a4, a5, a6, a7⟩ := h
  obtain ⟨c1, c2, c3⟩ := jc_cu_ok (u := u) 40
  have n1 : ∀ a, a < (jc_cu u 40).2 → ∃ s, s ≤ K ∧ (jc_cu u 40).1 20 a = nI s := by
    intro a ha
    obtain ⟨t, ht, e⟩ := (c3 _).mp ⟨a, ha, rfl⟩
    obtain ⟨s, hs, e2⟩ := (b7 t ht).2
    exact ⟨s, hs, e.symm.trans e2⟩
  refine ⟨⟨fun a b hab hb => ?_, fun a ha => ?_, fun x hx => ?_⟩, fun a ha => ?_⟩
  · have q := c2 a b hab hb
    obtain ⟨s, hs, e⟩ := n1 a (by omega)
    obtain ⟨s', hs', e'⟩ := n1 b hb
    show ix _ < ix _
    rw [e, e'] at q ⊢
    rw [ix_nI (by omega), ix_nI (by omega)]
    exact (nI_ltI (by omega) (by omega)).mp q
  · obtain ⟨s, hs, e⟩ := n1 a ha
    show ix _ < _
    rw [e, ix_nI (by omega)]; omega
  · rw [jm_used_ne]
    constructor
    · rintro ⟨t, ht, e⟩
      obtain ⟨a, ha, e2⟩ := (c3 (nI x)).mpr ⟨t, a4.1.mem_iff.mp ht, e⟩
      exact ⟨a, ha, by show ix _ = x; rw [e2, ix_nI (by omega)]⟩
    · rintro ⟨a, ha, e⟩
      obtain ⟨t, ht, e2⟩ := (c3 _).mp ⟨a, ha, rfl⟩
      obtain ⟨s, hs, e3⟩ := n1 a ha
      have e4 : ix ((jc_cu u 40).1 20 a) = x := e
      rw [e3, ix_nI (by omega)] at e4
      exact ⟨t, a4.1.mem_iff.mpr ht, by rw [e2, e3, e4]⟩
  · obtain ⟨s, hs, e⟩ := n1 a ha
    rw [e, ix_nI (by omega)]
theorem jz_length {K : Nat} {u v : js_S} (h : jz_S K u v) (hK : K ≤ 600) : nI (jc_cu u 40).2 = jm_length v := by
  unfold jm_length
  rw [jm_cu_all (jz_enum h hK).1]
theorem jz_length_S {K : Nat} {u v : js_S} (h : jz_S K u v) : jz_S K (jc_cu u 40).1 v := jz_S_20 h (jc_cu_ok 40).1 (jc_Sh_cu h.2.1.2.2.2.2.2.1 40)
/-! settling -/
theorem jc_lt_ok {u : js_S} (hn : 0 ≤ u 21 0) : ∀ k, 0 ≤ jc_lt u k ∧ (jc_lt u k = 0 ∨ ∃ t, t ∈ je_l (jc_row u) k ∧ t.2.1 = jc_lt u k ∧ t.2.1 ≤ u 21 0) ∧ ∀ t, t ∈ je_l (jc_row u) k → t.2.1 ≤ u 21 0 → t.2.1 ≤ jc_lt u k
  | 0 => ⟨Int32.le_refl _, Or.inl rfl, fun t h => by simp [je_l] at h⟩
  | k + 1 => by
    obtain ⟨i0, i1, i2⟩ := jc_lt_ok hn k
    have hm : ∀ t, t ∈ je_l (jc_row u) (k + 1) ↔ (jc_row u k = some t ∨ t ∈ je_l (jc_row u) k) := by
      intro t
      rw [je_l, List.mem_append]
      simp
    rw [jc_lt]
    by_cases h : u 14 k ≠ 0 ∧ ¬ u 21 0 < u 16 k ∧ ¬ u 16 k ≤ jc_lt u k
    · rw [if_pos h]
      have lt := Int32.not_le.mp h.2.2
      refine ⟨Int32.le_trans i0 (Int32.le_of_lt lt), Or.inr ⟨_, (hm _).mpr (Or.inl (jc_row_some.mpr ⟨h.1, rfl⟩)), rfl, Int32.not_lt.mp h.2.1⟩, fun t ht h2 => ?_⟩
      rcases (hm t).mp ht with q | q
      · rw [(jc_row_some.mp q).2]; exact Int32.le_refl _
      · exact Int32.le_trans (i2 t q h2) (Int32.le_of_lt lt)
    · rw [if_neg h]
      refine ⟨i0, ?_, fun t ht h2 => ?_⟩
      · rcases i1 with q | ⟨t, ht, q⟩
        · exact Or.inl q
        · exact Or.inr ⟨t, (hm t).mpr (Or.inr ht), q⟩
      · rcases (hm t).mp ht with q | q
        · have q2 := jc_row_some.mp q
          rw [q2.2] at h2 ⊢
          refine Int32.not_lt.mp (fun z => h ⟨q2.1, Int32.not_lt.mpr h2, Int32.not_le.mpr z⟩)
        · exact i2 t q h2
theorem jm_used_up {v : js_S} {x st : Int32} : jm_used (js_up v 21 0 x) st = jm_used v st := by
  have a : ∀ k e, jm_us (js_up v 21 0 x) st k e = jm_us v st k e := by
    intro k
    induction k with
    | zero => intro e; rfl
    | succ k ih => intro e; rw [jm_us, jm_us, ih, js_up_f (by decide), js_up_f (by decide)]
  unfold jm_used
  rw [a]
theorem jm_st_ok : ∀ (k : Nat) {v : js_S}, k < 2 ^ 31 → v 21 0 = nI k → (∀ f j, ¬ f = 21 → jm_st v k f j = v f j) ∧ ∃ k', k' ≤ k ∧ jm_st v k 21 0 = nI k' ∧ (k' = 0 ∨ ¬ jm_used v (nI k') = 0) ∧ ∀ j, k' < j → j ≤ k → jm_used v (nI j) = 0
  | 0, v, _, e => ⟨fun _ _ _ => rfl, 0, Nat.le_refl _, e, Or.inl rfl, fun j h1 h2 => by omega⟩
  | k + 1, v, hk, e => by
    rw [jm_st]
    by_cases h : jm_used v (v 21 0) = 0
    · rw [if_pos h]
      have e2 : js_up v 21 0 (v 21 0 - 1) 21 0 = nI k := by rw [js_up_s, e, js_pred (by omega)]; rfl
      obtain ⟨i1, k', h1, h2, h3, h4⟩ := jm_st_ok k (v := js_up v 21 0 (v 21 0 - 1)) (by omega) e2
      refine ⟨fun f j hf => (i1 f j hf).trans (js_up_f hf), k', by omega, h2, ?_, fun j g1 g2 => ?_⟩
      · rw [jm_used_up] at h3; exact h3
      · by_cases q : j = k + 1
        · subst q; rw [← e]; exact h
        · have := h4 j g1 (by omega)
          rw [jm_used_up] at this; exact this
    · rw [if_neg h]
      exact ⟨fun _ _ _ => rfl, k + 1, Nat.le_refl _, e, Or.inr (by rw [← e]; exact h), fun j h1 h2 => by omega⟩
theorem jz_settle {K k : Nat} {u v : js_S} (hp : (jm_es v).Perm (jc_es u)) (hz : jp_z u) (hb : ∀ t, t ∈ jc_es u → ∃ s, s ≤ K ∧ t.2.1 = nI s) (hK : K < 2 ^ 31) (hk : k < 2 ^ 31) (hu : u 21 0 = nI k) (hv : v 21 0 = nI k) : ∃ r, r ≤ k ∧ jc_lt u 40 = nI r ∧ jm_st v (ix (v 21 0)) 21 0 = nI r ∧ ∃ t, t ∈ jc_es u ∧ t.2.1 = nI r := by
  have hn : 0 ≤ u 21 0 := by rw [hu]; exact Int32.not_lt.mp (nI_pos hk)
  obtain ⟨c0, c1, c2⟩ := jc_lt_ok hn 40
  obtain ⟨z, hz1, -, hz2⟩ := hz.1
  have c3 : ∃ t, t ∈ jc_es u ∧ t.2.1 = jc_lt u 40 ∧ t.2.1 ≤ u 21 0 := by
    rcases c1 with q | q
    · exact ⟨z, hz1, hz2.trans q.symm, by rw [hz2]; exact hn⟩
    · exact q
  obtain ⟨t, ht, e1, e2⟩ := c3
  obtain ⟨s, hs, e3⟩ := hb t ht
  rw [hu, e3] at e2
  have hsk := (nI_leI (by omega) hk).mp e2
  obtain ⟨-, k', h1, h2, h3, h4⟩ := jm_st_ok k hk hv
  have h5 : ¬ jm_used v (nI k') = 0 := by
    rcases h3 with rfl | h3
    · exact jm_used_ne.mpr ⟨z, hp.mem_iff.mpr hz1, hz2⟩
    · exact h3
  obtain ⟨t', ht', e4⟩ := jm_used_ne.mp h5
  have h6 := c2 t' (hp.mem_iff.mp ht') (by rw [e4, hu]; exact (nI_leI (by omega) hk).mpr h1)
  rw [e4, ← e1, e3] at h6
  have h7 := (nI_leI (by omega) (by omega)).mp h6
  have h8 : s = k' := by
    by_cases q : k' < s
    · exact absurd (h4 s q hsk) (jm_used_ne.mpr ⟨t, hp.mem_iff.mpr ht, e3⟩)
    · omega
  subst h8
  refine ⟨s, hsk, e1.symm.trans e3, ?_, t, ht, e3⟩
  rw [hv, ix_nI hk]; exact h2
