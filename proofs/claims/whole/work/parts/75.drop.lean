/-! After the drop on both sides: the stores at rest. -/
theorem jm_an_ne {a b : Int32} : ¬ jm_an a b = 0 ↔ ¬ a = 0 ∧ ¬ b = 0 := by
  unfold jm_an
  by_cases h : a = 0
  · simp [h]
  · by_cases h2 : b = 0 <;> simp [h, h2]
theorem jm_m2_all {w : js_S} {i : Nat} : ∀ k, (¬ jm_m2 w k 15 i = 0 ↔ ¬ w 15 i = 0 ∧ (i < k → ¬ w 20 i = 0)) ∧ (¬ jm_m2 w k 10 i = 0 ↔ ¬ w 10 i = 0 ∧ (i < k → ¬ w 19 i = 0)) ∧ (¬ jm_m2 w k 9 i = 0 ↔ ¬ w 9 i = 0 ∧ (i < k → ¬ w 20 (ix (w 4 i)) = 0))
  | 0 => by simp [jm_m2]
  | k + 1 => by
    have ih := jm_m2_all (w := w) (i := i) k
    have h20 : ∀ j, jm_m2 w k 20 j = w 20 j := fun j => jm_m2_f (by decide) (by decide) (by decide) k
    have h19 : ∀ j, jm_m2 w k 19 j = w 19 j := fun j => jm_m2_f (by decide) (by decide) (by decide) k
    have h4 : ∀ j, jm_m2 w k 4 j = w 4 j := fun j => jm_m2_f (by decide) (by decide) (by decide) k
    rw [jm_m2]
    unfold jm_n3 jm_n2 jm_n1
    by_cases e : i = k
    · subst e
      refine ⟨?_, ?_, ?_⟩
      · rw [js_up_f (by decide), js_up_f (by decide), js_up_s, jm_an_ne, h20]
        exact ⟨fun q => ⟨(ih.1.mp q.1).1, fun _ => q.2⟩, fun q => ⟨ih.1.mpr ⟨q.1, fun z => absurd z (by omega)⟩, q.2 (by omega)⟩⟩
      · rw [js_up_f (by decide), js_up_s, js_up_f (by decide), js_up_f (by decide), jm_an_ne, h19]
        exact ⟨fun q => ⟨(ih.2.1.mp q.1).1, fun _ => q.2⟩, fun q => ⟨ih.2.1.mpr ⟨q.1, fun z => absurd z (by omega)⟩, q.2 (by omega)⟩⟩
      · rw [js_up_s, js_up_f (f := 10) (by decide), js_up_f (f := 15) (by decide), js_up_f (f := 10) (by decide), js_up_f (f := 15) (by decide), js_up_f (f := 10) (by decide), js_up_f (f := 15) (by decide), jm_an_ne, h20, h4]
        exact ⟨fun q => ⟨(ih.2.2.mp q.1).1, fun _ => q.2⟩, fun q => ⟨ih.2.2.mpr ⟨q.1, fun z => absurd z (by omega)⟩, q.2 (by omega)⟩⟩
    · refine ⟨?_, ?_, ?_⟩
      · rw [js_up_i e, js_up_i e, js_up_i e, ih.1]
        exact ⟨fun q => ⟨q.1, fun z => q.2 (by omega)⟩, fun q => ⟨q.1, fun z => q.2 (by omega)⟩⟩
      · rw [js_up_i e, js_up_i e, js_up_i e, ih.2.1]
        exact ⟨fun q => ⟨q.1, fun z => q.2 (by omega)⟩, fun q => ⟨q.1, fun z => q.2 (by omega)⟩⟩
      · rw [js_up_i e, js_up_i e, js_up_i e, ih.2.2]
        exact ⟨fun q => ⟨q.1, fun z => q.2 (by omega)⟩, fun q => ⟨q.1, fun z => q.2 (by omega)⟩⟩
theorem jm_m3f3 {w : js_S} {f i : Nat} (h : ¬ f = 17) : jm_mkB3 w f i = w f i := by unfold jm_mkB3; rw [jm_m3_f h, jm_m3_f h, jm_m3_f h]
theorem jm_mark_ok {u v : js_S} (hP : jp_P u) (hS : jc_Sh u) (hR : jp_R u v) : (∀ n, n < 48 → (¬ jm_mark v 15 n = 0 ↔ jp_al u n)) ∧ (∀ d, d < 48 → (¬ jm_mark v 10 d = 0 ↔ ∃ t, t ∈ jc_es u ∧ jp_al u (ix t.1) ∧ t.2.2.2.2 = nI d)) ∧ jm_es (jm_mark v) = (jm_es v).filter (fun t => decide (¬ jm_mark v 15 (ix t.1) = 0)) := by
  obtain ⟨q3, k20, k19⟩ := jp_keep hP hS hR
  have a15 : ∀ n, n < 48 → (¬ jm_mark v 15 n = 0 ↔ jp_al u n) := by
    intro n hn
    unfold jm_mark
    rw [jm_m3f3 (by decide), (jm_m2_all 48).1, q3 15 n (by decide) (by decide) (by decide), k20 n hn]
    refine ⟨fun q => q.2 hn, fun q => ⟨?_, fun _ => q⟩⟩
    rcases jp_al_c q with rfl | q
    · exact (hR.2.2 0 (by omega) hP.1.1).1
    · exact (hR.2.2 n q.1 q.2.1).1
  refine ⟨a15, fun d hd => ?_, ?_⟩
  · unfold jm_mark
    rw [jm_m3f3 (by decide), (jm_m2_all 48).2.1, q3 10 d (by decide) (by decide) (by decide), k19 d hd]
    refine ⟨fun q => q.2 hd, fun q => ⟨?_, fun _ => q⟩⟩
    obtain ⟨t, ht, -, e⟩ := q
    obtain ⟨o, d', ho, hd', p1, p2, p8, -⟩ := hP.2.2.1 t ht
    have e1 : d' = d := jn_inj (by omega) (by omega) (p2.symm.trans e)
    subst e1
    exact (hR.2.1 d' hd' p8).1
  · refine jm_fl_es (fun f i h1 h2 => jm_mark_f (by omega) (by omega) (by omega) (by omega) (by omega) (by omega)) (fun i hi => ?_)
    have a : ¬ jm_mark v 9 i = 0 ↔ ¬ v 9 i = 0 ∧ ¬ jm_mkA3 (jm_m0 v 48) 20 (ix (v 4 i)) = 0 := by
      unfold jm_mark
      rw [jm_m3f3 (by decide), (jm_m2_all 48).2.2, q3 9 i (by decide) (by decide) (by decide), q3 4 i (by decide) (by decide) (by decide)]
      exact ⟨fun q => ⟨q.1, q.2 hi⟩, fun q => ⟨q.1, fun _ => q.2⟩⟩
    by_cases h9 : v 9 i = 0
    · have : jm_mark v 9 i = 0 := Classical.byContradiction (fun q => (a.mp q).1 h9)
      simp [h9, this]
    · have m := jm_row_in hR hi h9
      have hl : ix (v 4 i) < 40 := jp_ix hP m
      have b := (k20 (ix (v 4 i)) (by omega)).trans (a15 (ix (v 4 i)) (by omega)).symm
      rw [b] at a
      by_cases h : jm_mark v 15 (ix (v 4 i)) = 0
      · have : jm_mark v 9 i = 0 := Classical.byContradiction (fun q => (a.mp q).2 h)
        simp [h9, this, h]
      · have : ¬ jm_mark v 9 i = 0 := a.mpr ⟨h9, h⟩
        simp [h9, this, h]
/-- the two stores at rest -/
def jp_X (u v : js_S) : Prop := (jm_es v).Perm (jc_es u) ∧ (∀ d, d < 48 → (¬ v 10 d = 0 ↔ d < 40 ∧ ¬ u 8 d = 0)) ∧ (∀ d, d < 40 → ¬ u 8 d = 0 → v 11 d = u 10 d ∧ v 12 d = u 11 d ∧ v 13 d = u 12 d ∧ v 14 d = u 13 d) ∧ (∀ n, n < 48 → (¬ v 15 n = 0 ↔ n < 40 ∧ ¬ u 5 n = 0)) ∧ (∀ n, n < 40 → ¬ u 5 n = 0 → v 16 n = u 7 n)
theorem jp_XR {u v : js_S} (h : jp_X u v) : jp_R u v :=
  ⟨h.1, fun d hd h8 => ⟨(h.2.1 d (by omega)).mpr ⟨hd, h8⟩, h.2.2.1 d hd h8⟩, fun n hn h5 => ⟨(h.2.2.2.1 n (by omega)).mpr ⟨hn, h5⟩, h.2.2.2.2 n hn h5⟩⟩
def jp_A (u : js_S) : Prop := (∀ t, t ∈ jc_es u → ¬ u 5 (ix t.1) = 0) ∧ (∀ d, d < 40 → ¬ u 8 d = 0 → ∃ t, t ∈ jc_es u ∧ t.2.2.2.2 = nI d)
theorem jc_gone_mem {u : js_S} (hP : jp_P u) {t : je_T} : t ∈ jc_es (jc_gone u) ↔ t ∈ jc_es u ∧ jp_al u (ix t.1) := by
  rw [(jc_gone_ok hP).2.2, List.mem_filter]
  constructor
  · rintro ⟨h1, h2⟩
    exact ⟨h1, ((jc_gone_ok hP).1 _ (jp_ix hP h1)).mp (by simpa using h2)⟩
  · rintro ⟨h1, h2⟩
    exact ⟨h1, by simpa using ((jc_gone_ok hP).1 _ (jp_ix hP h1)).mpr h2⟩
theorem jp_drop_A {u : js_S} (hP : jp_P u) : jp_A (jc_gone u) := by
  obtain ⟨g5, g8, -⟩ := jc_gone_ok hP
  refine ⟨fun t ht => ?_, fun d hd h => ?_⟩
  · have a := (jc_gone_mem hP).mp ht
    exact (g5 _ (jp_ix hP a.1)).mpr a.2
  · obtain ⟨t, h1, h2, h3⟩ := (g8 d hd).mp h
    exact ⟨t, (jc_gone_mem hP).mpr ⟨h1, h2⟩, h3⟩
theorem jp_drop_P {u : js_S} (hP : jp_P u) : jp_P (jc_gone u) := by
  obtain ⟨g5, g8, -⟩ := jc_gone_ok hP
  have f : ∀ {f : Nat} (i : Nat), ¬ f = 5 → ¬ f = 8 → ¬ f = 14 → jc_gone u f i = u f i := fun i h1 h2 h3 => jc_gone_f h1 h2 h3 i
  refine ⟨⟨(g5 0 (by omega)).mpr jp_al0, ?_, ?_⟩, fun n hn => ?_, fun t ht => ?_, fun n hn h0 h5 => ?_, fun d hd h8 n hn hl => ?_⟩
  · rw [f 0 (by decide) (by decide) (by decide)]; exact hP.1.2.1
  · rw [f 0 (by decide) (by decide) (by decide)]; exact hP.1.2.2
  · rw [f n (by decide) (by decide) (by decide)]; exact hP.2.1 n hn
  · have a := (jc_gone_mem hP).mp ht
    obtain ⟨o, d, ho, hd, p1, p2, p8, p9, p6⟩ := hP.2.2.1 t a.1
    refine ⟨o, d, ho, hd, p1, p2, (g8 d hd).mpr ⟨t, a.1, a.2, p2⟩, ?_, ?_⟩
    · rw [f d (by decide) (by decide) (by decide)]; exact p9
    · rw [f o (by decide) (by decide) (by decide)]; exact p6
  · have a := (g5 n hn).mp h5
    rcases jp_al_c a with q | ⟨-, n5, t, ht, ha, hd⟩
    · exact absurd q h0
    obtain ⟨d, o, hd', ho, p7, p8, p9, p6, pl⟩ := hP.2.2.2.1 n hn h0 n5
    refine ⟨d, o, hd', ho, ?_, (g8 d hd').mpr ⟨t, ht, ha, hd.trans p7⟩, ?_, ?_, ?_⟩
    · rw [f n (by decide) (by decide) (by decide)]; exact p7
    · rw [f d (by decide) (by decide) (by decide)]; exact p9
    · rw [f n (by decide) (by decide) (by decide), f o (by decide) (by decide) (by decide)]; exact p6
    · rw [f d (by decide) (by decide) (by decide), f d (by decide) (by decide) (by decide)]; exact pl
  · rw [f d (by decide) (by decide) (by decide), f d (by decide) (by decide) (by decide)] at hl
    obtain ⟨t, ht, ha, hd2⟩ := (g8 d hd).mp h8
    obtain ⟨o, d', ho, hd', p1, p2, p8, p9, p6⟩ := hP.2.2.1 t ht
    have e1 : d' = d := jn_inj (by omega) (by omega) (p2.symm.trans hd2)
    subst e1
    obtain ⟨r0, r5, r7⟩ := hP.2.2.2.2 d' hd p8 n hn hl
    refine ⟨r0, (g5 n hn).mpr (jp_als hn r5 ht ha (hd2.trans r7.symm)), ?_⟩
    rw [f n (by decide) (by decide) (by decide)]; exact r7
theorem jp_drop_X {u v : js_S} (hP : jp_P u) (hS : jc_Sh u) (hR : jp_R u v) : jp_X (jc_gone u) (jm_mark v) := by
  obtain ⟨g5, g8, ge⟩ := jc_gone_ok hP
  obtain ⟨m15, m10, me⟩ := jm_mark_ok hP hS hR
  have f : ∀ {f : Nat} (i : Nat), ¬ f = 5 → ¬ f = 8 → ¬ f = 14 → jc_gone u f i = u f i := fun i h1 h2 h3 => jc_gone_f h1 h2 h3 i
  have m : ∀ {f : Nat} (i : Nat), ¬ f = 9 → ¬ f = 10 → ¬ f = 15 → ¬ f = 17 → ¬ f = 19 → ¬ f = 20 → jm_mark v f i = v f i := fun i h1 h2 h3 h4 h5 h6 => jm_mark_f h1 h2 h3 h4 h5 h6
  have b8 : ∀ d, d < 40 → ¬ jc_gone u 8 d = 0 → ¬ u 8 d = 0 := by
    intro d hd h
    obtain ⟨t, ht, ha, hd2⟩ := (g8 d hd).mp h
    obtain ⟨o, d', ho, hd', p1, p2, p8, p9, p6⟩ := hP.2.2.1 t ht
    have e1 : d' = d := jn_inj (by omega) (by omega) (p2.symm.trans hd2)
    subst e1
    exact p8
  have b5 : ∀ n, n < 40 → ¬ jc_gone u 5 n = 0 → ¬ u 5 n = 0 := by
    intro n hn h
    rcases jp_al_c ((g5 n hn).mp h) with rfl | q
    · exact hP.1.1
    · exact q.2.1
  refine ⟨?_, fun d hd => ?_, fun d hd h8 => ?_, fun n hn => ?_, fun n hn h5 => ?_⟩
  · rw [me, ge]
    refine (hR.1.filter _).trans (List.Perm.of_eq (List.filter_congr (fun t ht => ?_)))
    have hl := jp_ix hP ht
    have a := (m15 (ix t.1) (by omega)).trans (g5 (ix t.1) hl).symm
    by_cases h : jc_gone u 5 (ix t.1) = 0
    · have h2 : jm_mark v 15 (ix t.1) = 0 := Classical.byContradiction (fun q => (a.mp q) h)
      simp [h, h2]
    · have h2 : ¬ jm_mark v 15 (ix t.1) = 0 := a.mpr h
      simp [h, h2]
  · rw [m10 d hd]
    constructor
    · rintro ⟨t, ht, ha, hd2⟩
      obtain ⟨o, d', ho, hd', p1, p2, p8, p9, p6⟩ := hP.2.2.1 t ht
      have e1 : d' = d := jn_inj (by omega) (by omega) (p2.symm.trans hd2)
      subst e1
      exact ⟨hd', (g8 d' hd').mpr ⟨t, ht, ha, hd2⟩⟩
    · rintro ⟨h1, h2⟩
      exact (g8 d h1).mp h2
  · have a := hR.2.1 d hd (b8 d hd h8)
    rw [m d (by decide) (by decide) (by decide) (by decide) (by decide) (by decide), m d (by decide) (by decide) (by decide) (by decide) (by decide) (by decide), m d (by decide) (by decide) (by decide) (by decide) (by decide) (by decide), m d (by decide) (by decide) (by decide) (by decide) (by decide) (by decide), f d (by decide) (by decide) (by decide), f d (by decide) (by decide) (by decide), f d (by decide) (by decide) (by decide), f d (by decide) (by decide) (by decide)]
    exact a.2
  · rw [m15 n hn]
    exact ⟨fun q => ⟨jp_al_lt q, (g5 n (jp_al_lt q)).mpr q⟩, fun q => (g5 n q.1).mp q.2⟩
  · rw [m n (by decide) (by decide) (by decide) (by decide) (by decide) (by decide), f n (by decide) (by decide) (by decide)]
    exact (hR.2.2 n hn (b5 n hn h5)).2
/-- at rest all is alive -/
theorem jp_all {u : js_S} (hP : jp_P u) (hA : jp_A u) {n : Nat} (hn : n < 40) (h5 : ¬ u 5 n = 0) : jp_al u n := by
  have st : ∀ n, n < 40 → ¬ n = 0 → ¬ u 5 n = 0 → ∃ o, o < 40 ∧ ¬ u 5 o = 0 ∧ u 6 n = u 6 o + 1 ∧ (o = 0 ∨ ¬ u 6 o = 0) ∧ (jp_al u o → jp_al u n) := by
    intro n hn h0 h5
    obtain ⟨d, o, hd, ho, p7, p8, p9, p6, -⟩ := hP.2.2.2.1 n hn h0 h5
    obtain ⟨t, ht, e⟩ := hA.2 d hd p8
    obtain ⟨o', d', ho', hd', q1, q2, q8, q9, q6⟩ := hP.2.2.1 t ht
    have e1 : d' = d := jn_inj (by omega) (by omega) (q2.symm.trans e)
    subst e1
    have e2 : o' = o := jn_inj (by omega) (by omega) (q9.symm.trans p9)
    subst e2
    have a := hA.1 t ht
    rw [q1, ix_nI (by omega)] at a
    refine ⟨o', ho, a, p6, q6, fun h => jp_als hn h5 ht ?_ (q2.trans p7.symm)⟩
    rw [q1, ix_nI (by omega)]; exact h
  by_cases h0 : n = 0
  · subst h0; exact jp_al0
  obtain ⟨o, ho, o5, o6, o0, oa⟩ := st n hn h0 h5
  apply oa
  by_cases h1 : o = 0
  · subst h1; exact jp_al0
  obtain ⟨w, hw, w5, w6, w0, wa⟩ := st o ho h1 o5
  apply wa
  rcases jp_lv (hP.2.1 n hn) (hP.2.1 o ho) o6 with q | q
  · exact absurd q.1 (o0.resolve_left h1)
  · rcases jp_lv (hP.2.1 o ho) (hP.2.1 w hw) w6 with r | r
    · rcases w0 with rfl | w0
      · exact jp_al0
      · exact absurd r.1 w0
    · exact absurd (q.1.symm.trans r.2) (by decide)
theorem jp_still {u v : js_S} (hP : jp_P u) (hA : jp_A u) (hS : jc_Sh u) (hX : jp_X u v) : jp_X u (jm_mark v) := by
  obtain ⟨m15, m10, me⟩ := jm_mark_ok hP hS (jp_XR hX)
  have m : ∀ {f : Nat} (i : Nat), ¬ f = 9 → ¬ f = 10 → ¬ f = 15 → ¬ f = 17 → ¬ f = 19 → ¬ f = 20 → jm_mark v f i = v f i := fun i h1 h2 h3 h4 h5 h6 => jm_mark_f h1 h2 h3 h4 h5 h6
  refine ⟨?_, fun d hd => ?_, fun d hd h8 => ?_, fun n hn => ?_, fun n hn h5 => ?_⟩
  · rw [me, List.filter_eq_self.mpr (fun t ht => ?_)]
    · exact hX.1
    · have ht' := hX.1.mem_iff.mp ht
      simpa using (m15 (ix t.1) (by have := jp_ix hP ht'; omega)).mpr (jp_all hP hA (jp_ix hP ht') (hA.1 t ht'))
  · rw [m10 d hd]
    constructor
    · rintro ⟨t, ht, ha, hd2⟩
      obtain ⟨o, d', ho, hd', p1, p2, p8, p9, p6⟩ := hP.2.2.1 t ht
      have e1 : d' = d := jn_inj (by omega) (by omega) (p2.symm.trans hd2)
      subst e1
      exact ⟨hd', p8⟩
    · rintro ⟨h1, h2⟩
      obtain ⟨t, ht, e⟩ := hA.2 d h1 h2
      exact ⟨t, ht, jp_all hP hA (jp_ix hP ht) (hA.1 t ht), e⟩
  · rw [m d (by decide) (by decide) (by decide) (by decide) (by decide) (by decide), m d (by decide) (by decide) (by decide) (by decide) (by decide) (by decide), m d (by decide) (by decide) (by decide) (by decide) (by decide) (by decide), m d (by decide) (by decide) (by decide) (by decide) (by decide) (by decide)]
    exact hX.2.2.1 d hd h8
  · rw [m15 n hn]
    refine ⟨fun q => ⟨jp_al_lt q, ?_⟩, fun q => jp_all hP hA q.1 q.2⟩
    rcases jp_al_c q with rfl | q
    · exact hP.1.1
    · exact q.2.1
  · rw [m n (by decide) (by decide) (by decide) (by decide) (by decide) (by decide)]
    exact hX.2.2.2.2 n hn h5
