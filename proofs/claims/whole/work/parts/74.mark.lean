/-! The reference's mark keeps exactly what is alive in the class's store. -/
theorem jn_inj {a b : Nat} (ha : a < 2 ^ 31) (hb : b < 2 ^ 31) (h : nI a = nI b) : a = b := by rw [← ix_nI ha, ← ix_nI hb, h]
/-- the two stores inside a call, ahead of the drop -/
def jp_R (u v : js_S) : Prop := (jm_es v).Perm (jc_es u) ∧ (∀ d, d < 40 → ¬ u 8 d = 0 → ¬ v 10 d = 0 ∧ v 11 d = u 10 d ∧ v 12 d = u 11 d ∧ v 13 d = u 12 d ∧ v 14 d = u 13 d) ∧ (∀ n, n < 40 → ¬ u 5 n = 0 → ¬ v 15 n = 0 ∧ v 16 n = u 7 n)
theorem jm_m0_19 {v : js_S} {i : Nat} : ∀ k, i < k → jm_m0 v k 19 i = 0 ∧ jm_m0 v k 20 i = jm_k0 i ∧ jm_m0 v k 17 i = jm_k0 i
  | 0, h => by omega
  | k + 1, h => by
    rw [jm_m0]
    by_cases e : i = k
    · subst e
      simp [js_up]
    · have ih := jm_m0_19 (v := v) (i := i) k (by omega)
      rw [js_up_i e, js_up_i e, js_up_i e, js_up_i e, js_up_i e, js_up_i e, js_up_i e, js_up_i e, js_up_i e]
      exact ih
theorem jm_k0_ne {k : Nat} (hk : k < 2 ^ 31) : ¬ jm_k0 k = 0 ↔ k = 0 := by
  unfold jm_k0
  by_cases e : k = 0
  · subst e; simp [show nI 0 = 0 from rfl]
  · have e0 : ¬ nI k = 0 := fun q => e (jn_inj hk (by decide) (q.trans rfl))
    rw [if_neg e0]
    simp [e]
/-- one entry's turn: what it sets -/
theorem jm_keep_mono {w : js_S} {x : Int32} {f k : Nat} (h : ¬ w f k = 0) : ¬ jm_keep w x f k = 0 := by
  unfold jm_keep
  split
  · exact h
  · unfold js_up
    split
    · decide
    · exact h
theorem jm_keep_set {w : js_S} {x : Int32} (h : ¬ x < 0) : ¬ jm_keep w x 20 (ix x) = 0 := by
  unfold jm_keep
  rw [if_neg h, js_up_s]
  decide
theorem jm_keep_or {w : js_S} {x : Int32} {k : Nat} (h : ¬ jm_keep w x 20 k = 0) : ¬ w 20 k = 0 ∨ (¬ x < 0 ∧ k = ix x) := by
  unfold jm_keep at h
  split at h
  · exact Or.inl h
  · rename_i hx
    by_cases e : k = ix x
    · exact Or.inr ⟨hx, e⟩
    · rw [js_up_i e] at h; exact Or.inl h
theorem jm_me_mono {w : js_S} {e f k : Nat} (h : ¬ w f k = 0) : ¬ jm_me w e f k = 0 := by
  unfold jm_me
  split
  · exact h
  · split
    · exact h
    · unfold jm_me2 jm_me1
      refine jm_keep_mono (jm_keep_mono ?_)
      unfold js_up
      split
      · decide
      · exact h
theorem jm_m1_mono {w : js_S} {f k : Nat} (h : ¬ w f k = 0) : ∀ j, ¬ jm_m1 w j f k = 0
  | 0 => h
  | j + 1 => jm_me_mono (jm_m1_mono h j)
theorem jm_me_set {w : js_S} {e : Nat} (h9 : ¬ w 9 e = 0) (h20 : ¬ w 20 (ix (w 4 e)) = 0) : ¬ jm_me w e 19 (ix (w 8 e)) = 0 ∧ (¬ w 13 (ix (w 8 e)) < 0 → ¬ jm_me w e 20 (ix (w 13 (ix (w 8 e)))) = 0) ∧ (¬ w 14 (ix (w 8 e)) < 0 → ¬ jm_me w e 20 (ix (w 14 (ix (w 8 e)))) = 0) := by
  have e1 : jm_me w e = jm_me2 (jm_me1 (js_up w 19 (ix (w 8 e)) 1) e) e := by unfold jm_me; rw [if_neg h9, if_neg h20]
  rw [e1]
  unfold jm_me2 jm_me1
  rw [jm_keep_f (f := 8) (by decide), js_up_f (f := 19) (g := 8) (by decide), js_up_f (f := 19) (g := 13) (by decide), jm_keep_f (f := 14) (by decide), js_up_f (f := 19) (g := 14) (by decide)]
  refine ⟨jm_keep_mono (jm_keep_mono (by rw [js_up_s]; decide)), fun h => jm_keep_mono (jm_keep_set h), fun h => jm_keep_set h⟩
theorem jm_me_or {w : js_S} {e k : Nat} : (¬ jm_me w e 20 k = 0 → ¬ w 20 k = 0 ∨ (¬ w 9 e = 0 ∧ ¬ w 20 (ix (w 4 e)) = 0 ∧ ((¬ w 13 (ix (w 8 e)) < 0 ∧ k = ix (w 13 (ix (w 8 e)))) ∨ (¬ w 14 (ix (w 8 e)) < 0 ∧ k = ix (w 14 (ix (w 8 e))))))) ∧ (¬ jm_me w e 19 k = 0 → ¬ w 19 k = 0 ∨ (¬ w 9 e = 0 ∧ ¬ w 20 (ix (w 4 e)) = 0 ∧ k = ix (w 8 e))) := by
  by_cases h9 : w 9 e = 0
  · have e1 : jm_me w e = w := by unfold jm_me; rw [if_pos h9]
    rw [e1]; exact ⟨Or.inl, Or.inl⟩
  by_cases h20 : w 20 (ix (w 4 e)) = 0
  · have e1 : jm_me w e = w := by unfold jm_me; rw [if_neg h9, if_pos h20]
    rw [e1]; exact ⟨Or.inl, Or.inl⟩
  have e1 : jm_me w e = jm_me2 (jm_me1 (js_up w 19 (ix (w 8 e)) 1) e) e := by unfold jm_me; rw [if_neg h9, if_neg h20]
  rw [e1]
  unfold jm_me2 jm_me1
  rw [jm_keep_f (f := 8) (by decide), js_up_f (f := 19) (g := 8) (by decide), js_up_f (f := 19) (g := 13) (by decide), jm_keep_f (f := 14) (by decide), js_up_f (f := 19) (g := 14) (by decide)]
  constructor
  · intro h
    rcases jm_keep_or h with h | h
    · rcases jm_keep_or h with h | h
      · rw [js_up_f (by decide)] at h; exact Or.inl h
      · exact Or.inr ⟨h9, h20, Or.inl h⟩
    · exact Or.inr ⟨h9, h20, Or.inr h⟩
  · intro h
    rw [jm_keep_f (by decide), jm_keep_f (by decide)] at h
    by_cases e2 : k = ix (w 8 e)
    · exact Or.inr ⟨h9, h20, e2⟩
    · rw [js_up_i e2] at h; exact Or.inl h
/-- a round's work -/
theorem jm_m1_set {w : js_S} {e : Nat} (h9 : ¬ w 9 e = 0) (h20 : ¬ w 20 (ix (w 4 e)) = 0) : ∀ k, e < k → ¬ jm_m1 w k 19 (ix (w 8 e)) = 0 ∧ (¬ w 13 (ix (w 8 e)) < 0 → ¬ jm_m1 w k 20 (ix (w 13 (ix (w 8 e)))) = 0) ∧ (¬ w 14 (ix (w 8 e)) < 0 → ¬ jm_m1 w k 20 (ix (w 14 (ix (w 8 e)))) = 0)
  | 0, h => by omega
  | k + 1, h => by
    by_cases e1 : e = k
    · subst e1
      have a := jm_me_set (w := jm_m1 w e) (e := e) (by rw [jm_m1_f (by decide) (by decide)]; exact h9) (by rw [jm_m1_f (f := 4) (by decide) (by decide)]; exact jm_m1_mono h20 e)
      rw [jm_m1_f (f := 8) (by decide) (by decide), jm_m1_f (f := 13) (by decide) (by decide), jm_m1_f (f := 14) (by decide) (by decide)] at a
      exact a
    · have a := jm_m1_set h9 h20 k (by omega)
      exact ⟨jm_me_mono a.1, fun q => jm_me_mono (a.2.1 q), fun q => jm_me_mono (a.2.2 q)⟩
/-- soundness -/
def jp_s1 (u w : js_S) : Prop := (∀ k, k < 48 → ¬ w 20 k = 0 → jp_al u k) ∧ (∀ k, k < 48 → ¬ w 19 k = 0 → ∃ t, t ∈ jc_es u ∧ jp_al u (ix t.1) ∧ t.2.2.2.2 = nI k)
def jp_q (v w : js_S) : Prop := ∀ f i, ¬ f = 17 → ¬ f = 19 → ¬ f = 20 → w f i = v f i
theorem jm_row_in {u v : js_S} (hR : jp_R u v) {e : Nat} (he : e < 48) (h9 : ¬ v 9 e = 0) : (v 4 e, v 5 e, v 6 e, v 7 e, v 8 e) ∈ jc_es u := hR.1.mem_iff.mp (jm_mem.mpr ⟨e, he, h9, rfl⟩)
theorem jp_link {u v : js_S} (hP : jp_P u) (hS : jc_Sh u) (hR : jp_R u v) {d : Nat} (hd : d < 40) (h8 : ¬ u 8 d = 0) {x : Int32} (hx : x = v 13 d ∨ x = v 14 d) (h0 : ¬ x < 0) : ∃ n, n < 40 ∧ x = nI n ∧ ¬ n = 0 ∧ ¬ u 5 n = 0 ∧ u 7 n = nI d := by
  have a := hR.2.1 d hd h8
  have q : jq 40 x := by
    rcases hx with rfl | rfl
    · rw [a.2.2.2.1]; exact jc_S12 hS hd
    · rw [a.2.2.2.2]; exact jc_S13 hS hd
  obtain ⟨n, hn, e⟩ := jq_nn q h0
  have b := hP.2.2.2.2 d hd h8 n hn (by
    rcases hx with rfl | rfl
    · left; rw [← a.2.2.2.1]; exact e
    · right; rw [← a.2.2.2.2]; exact e)
  exact ⟨n, hn, e, b⟩
theorem jp_s1_me {u v w : js_S} (hP : jp_P u) (hS : jc_Sh u) (hR : jp_R u v) (hq : jp_q v w) (hs : jp_s1 u w) {e : Nat} (he : e < 48) : jp_s1 u (jm_me w e) := by
  have e9 := hq 9 e (by decide) (by decide) (by decide)
  have e4 := hq 4 e (by decide) (by decide) (by decide)
  have e8 := hq 8 e (by decide) (by decide) (by decide)
  have key : ¬ w 9 e = 0 → ¬ w 20 (ix (w 4 e)) = 0 → ∃ o d, o < 40 ∧ d < 40 ∧ v 4 e = nI o ∧ v 8 e = nI d ∧ ¬ u 8 d = 0 ∧ jp_al u o ∧ (v 4 e, v 5 e, v 6 e, v 7 e, v 8 e) ∈ jc_es u := by
    intro h9 h20
    rw [e9] at h9
    have m := jm_row_in hR he h9
    obtain ⟨o, d, ho, hd, p1, p2, p8, -⟩ := hP.2.2.1 _ m
    have p1' : v 4 e = nI o := p1
    have p2' : v 8 e = nI d := p2
    rw [e4, p1', ix_nI (by omega)] at h20
    exact ⟨o, d, ho, hd, p1', p2', p8, hs.1 o (by omega) h20, m⟩
  constructor
  · intro k hk h
    rcases jm_me_or.1 h with h | ⟨h9, h20, h⟩
    · exact hs.1 k hk h
    · obtain ⟨o, d, ho, hd, p1, p2, p8, ha, m⟩ := key h9 h20
      rw [e8, p2, ix_nI (by omega), hq 13 d (by decide) (by decide) (by decide), hq 14 d (by decide) (by decide) (by decide)] at h
      have : ∃ x, (x = v 13 d ∨ x = v 14 d) ∧ ¬ x < 0 ∧ k = ix x := by
        rcases h with h | h
        · exact ⟨_, Or.inl rfl, h⟩
        · exact ⟨_, Or.inr rfl, h⟩
      obtain ⟨x, hx, h0, rfl⟩ := this
      obtain ⟨n, hn, rfl, -, n5, n7⟩ := jp_link hP hS hR hd p8 hx h0
      rw [ix_nI (by omega)]
      refine jp_als hn n5 m ?_ (p2.trans n7.symm)
      show jp_al u (ix (v 4 e))
      rw [p1, ix_nI (by omega)]; exact ha
  · intro k hk h
    rcases jm_me_or.2 h with h | ⟨h9, h20, h⟩
    · exact hs.2 k hk h
    · obtain ⟨o, d, ho, hd, p1, p2, p8, ha, m⟩ := key h9 h20
      rw [e8, p2, ix_nI (by omega)] at h
      subst h
      refine ⟨_, m, ?_, p2⟩
      show jp_al u (ix (v 4 e))
      rw [p1, ix_nI (by omega)]; exact ha
theorem jp_q_m1 {v w : js_S} (hq : jp_q v w) (k : Nat) : jp_q v (jm_m1 w k) := fun f i h1 h2 h3 => (jm_m1_f h2 h3 k).trans (hq f i h1 h2 h3)
theorem jp_s1_m1 {u v w : js_S} (hP : jp_P u) (hS : jc_Sh u) (hR : jp_R u v) (hq : jp_q v w) (hs : jp_s1 u w) : ∀ k, k ≤ 48 → jp_s1 u (jm_m1 w k)
  | 0, _ => hs
  | k + 1, hk => jp_s1_me hP hS hR (jp_q_m1 hq k) (jp_s1_m1 hP hS hR hq hs k (by omega)) (by omega)
/-- completeness, a level at a time -/
theorem jp_c1 {u v w : js_S} (hP : jp_P u) (hR : jp_R u v) (hq : jp_q v w) {n o d : Nat} {t : je_T} (hn : n < 40) (hd : d < 40) (ht : t ∈ jc_es u) (ho : o < 40) (h1 : t.1 = nI o) (h2 : t.2.2.2.2 = nI d) (h8 : ¬ u 8 d = 0) (hk : ¬ w 20 o = 0) : ¬ jm_m1 w 48 19 d = 0 ∧ ((u 12 d = nI n ∨ u 13 d = nI n) → ¬ jm_m1 w 48 20 n = 0) := by
  obtain ⟨e, he, h9, rfl⟩ := jm_mem.mp (hR.1.mem_iff.mpr ht)
  have h1' : v 4 e = nI o := h1
  have h2' : v 8 e = nI d := h2
  have e9 := hq 9 e (by decide) (by decide) (by decide)
  have e4 := hq 4 e (by decide) (by decide) (by decide)
  have e8 := hq 8 e (by decide) (by decide) (by decide)
  have a := jm_m1_set (w := w) (e := e) (by rw [e9]; exact h9) (by rw [e4, h1', ix_nI (by omega)]; exact hk) 48 he
  rw [e8, h2', ix_nI (by omega), hq 13 d (by decide) (by decide) (by decide), hq 14 d (by decide) (by decide) (by decide)] at a
  refine ⟨a.1, fun hl => ?_⟩
  have r := hR.2.1 d hd h8
  rw [r.2.2.2.1, r.2.2.2.2] at a
  rcases hl with hl | hl
  · have b := a.2.1 (by rw [hl]; exact nI_pos (by omega))
    rw [hl, ix_nI (by omega)] at b
    exact b
  · have b := a.2.2 (by rw [hl]; exact nI_pos (by omega))
    rw [hl, ix_nI (by omega)] at b
    exact b
theorem jp_keep {u v : js_S} (hP : jp_P u) (hS : jc_Sh u) (hR : jp_R u v) : jp_q v (jm_mkA3 (jm_m0 v 48)) ∧ (∀ n, n < 48 → (¬ jm_mkA3 (jm_m0 v 48) 20 n = 0 ↔ jp_al u n)) ∧ (∀ d, d < 48 → (¬ jm_mkA3 (jm_m0 v 48) 19 d = 0 ↔ ∃ t, t ∈ jc_es u ∧ jp_al u (ix t.1) ∧ t.2.2.2.2 = nI d)) := by
  have q0 : jp_q v (jm_m0 v 48) := fun f i h1 h2 h3 => jm_m0_f h1 h2 h3 48
  have q1 := jp_q_m1 q0 48
  have q2 := jp_q_m1 q1 48
  have q3 := jp_q_m1 q2 48
  have s0 : jp_s1 u (jm_m0 v 48) := by
    refine ⟨fun k hk h => ?_, fun k hk h => absurd (jm_m0_19 48 hk).1 h⟩
    rw [(jm_m0_19 48 hk).2.1] at h
    rw [(jm_k0_ne (by omega)).mp h]
    exact jp_al0
  have s1 := jp_s1_m1 hP hS hR q0 s0 48 (Nat.le_refl _)
  have s2 := jp_s1_m1 hP hS hR q1 s1 48 (Nat.le_refl _)
  have s3 := jp_s1_m1 hP hS hR q2 s2 48 (Nat.le_refl _)
  have c : ∀ n, jp_al u n → (u 6 n = 0 → ¬ jm_m0 v 48 20 n = 0) ∧ (u 6 n = 1 → ¬ jm_m1 (jm_m0 v 48) 48 20 n = 0) ∧ (u 6 n = 2 → ¬ jm_m1 (jm_m1 (jm_m0 v 48) 48) 48 20 n = 0) := by
    intro n hn
    refine jp_al_ind (A := fun n => (u 6 n = 0 → ¬ jm_m0 v 48 20 n = 0) ∧ (u 6 n = 1 → ¬ jm_m1 (jm_m0 v 48) 48 20 n = 0) ∧ (u 6 n = 2 → ¬ jm_m1 (jm_m1 (jm_m0 v 48) 48) 48 20 n = 0)) ?_ (fun n t h1 h2 h3 h4 ih h5 => ?_) hn
    · have z : ¬ jm_m0 v 48 20 0 = 0 := by rw [(jm_m0_19 48 (by omega)).2.1]; exact (jm_k0_ne (by decide)).mpr rfl
      exact ⟨fun _ => z, fun _ => jm_m1_mono z 48, fun _ => jm_m1_mono (jm_m1_mono z 48) 48⟩
    · obtain ⟨o, d, ho, hd, p1, p2, p8, p9, -⟩ := hP.2.2.1 t h3
      have hn0 : ¬ n = 0 := by
        rintro rfl
        rw [p2, hP.1.2.2] at h5
        exact nI_m1 (by omega) h5
      obtain ⟨d', o', hd', ho', r7, r8, r9, r6, rl⟩ := hP.2.2.2.1 n h1 hn0 h2
      have e1 : d = d' := jn_inj (by omega) (by omega) (p2.symm.trans (h5.trans r7))
      subst e1
      have e2 : o = o' := jn_inj (by omega) (by omega) (p9.symm.trans r9)
      subst e2
      rw [p1, ix_nI (by omega)] at ih
      rcases jp_lv (hP.2.1 n h1) (hP.2.1 o ho) r6 with q | q
      · refine ⟨fun z => absurd (z.symm.trans q.2) (by decide), fun _ => ?_, fun z => absurd (z.symm.trans q.2) (by decide)⟩
        exact (jp_c1 hP hR q0 h1 hd h3 ho p1 p2 p8 (ih.1 q.1)).2 rl
      · refine ⟨fun z => absurd (z.symm.trans q.2) (by decide), fun z => absurd (z.symm.trans q.2) (by decide), fun _ => ?_⟩
        exact (jp_c1 hP hR q1 h1 hd h3 ho p1 p2 p8 (ih.2.1 q.1)).2 rl
  have c2 : ∀ n, jp_al u n → ¬ jm_m1 (jm_m1 (jm_m0 v 48) 48) 48 20 n = 0 := by
    intro n hn
    have a := c n hn
    rcases hP.2.1 n (jp_al_lt hn) with q | q | q
    · exact jm_m1_mono (jm_m1_mono (a.1 q) 48) 48
    · exact jm_m1_mono (a.2.1 q) 48
    · exact a.2.2 q
  refine ⟨q3, fun n hn => ⟨s3.1 n hn, fun h => jm_m1_mono (c2 n h) 48⟩, fun d hd => ⟨s3.2 d hd, ?_⟩⟩
  rintro ⟨t, ht, ha, h2⟩
  obtain ⟨o, d', ho, hd', p1, p2, p8, p9, -⟩ := hP.2.2.1 t ht
  have e1 : d' = d := jn_inj (by omega) (by omega) (p2.symm.trans h2)
  subst e1
  rw [p1, ix_nI (by omega)] at ha
  exact (jp_c1 (n := 0) hP hR q2 (by omega) hd' ht ho p1 p2 p8 (c2 o ha)).1
