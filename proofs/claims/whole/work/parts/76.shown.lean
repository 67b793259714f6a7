/-! What is shown at a step: in the class by the chain of documents, in the reference by flags. -/
def jp_h (u : js_S) (st d : Int32) : Prop := d = -1 ∨ ∃ t, je_top (jc_es u) (u 9 (ix d)) st t ∧ t.2.2.2.2 = d
def jp_sn (u : js_S) (st : Int32) (n : Nat) : Prop := n < 40 ∧ ¬ u 5 n = 0 ∧ jp_h u st (u 7 n) ∧ jp_h u st (jc_up1 u (u 7 n))
def jp_k (u : js_S) : Prop := ((jc_es u).map je_k).Nodup
def jp_B (u : js_S) : Prop := ∀ n, n < 40 → ¬ n = 0 → ¬ u 5 n = 0 → ∃ t, t ∈ jc_es u ∧ t.1 = nI n ∧ ∀ t', t' ∈ jc_es u → t'.2.2.2.2 = u 7 n → t.2.1 ≤ t'.2.1
def jp_z (u : js_S) : Prop := (∃ t, t ∈ jc_es u ∧ t.1 = nI 0 ∧ t.2.1 = 0) ∧ ∀ t, t ∈ jc_es u → 0 ≤ t.2.1
theorem jc_held_h {u : js_S} (hk : jp_k u) {d st : Int32} : jc_held u d st = true ↔ jp_h u st d := by
  unfold jc_held jp_h
  rw [decide_eq_true_iff]
  by_cases e : d = -1
  · simp [e]
  · simp only [e, false_or]
    rcases jc_at_top (u := u) (n := u 9 (ix d)) (st := st) with ⟨h1, h2⟩ | ⟨i, t, hi, h1, h2, h3⟩
    · constructor
      · intro q; exact absurd h1 q.1
      · rintro ⟨t, ht, -⟩
        exact absurd ht.2.2.1 (h2 t ht.1 ht.2.1)
    · rw [h1, ix_nI (by omega)]
      have e2 : u 19 i = t.2.2.2.2 := by rw [(jc_row_some.mp h2).2]
      rw [e2]
      constructor
      · intro q; exact ⟨t, h3, q.2⟩
      · rintro ⟨t', ht, e3⟩
        refine ⟨nI_m1 (by omega), ?_⟩
        rw [je_top_u hk h3 ht]; exact e3
theorem jc_se_sn {u : js_S} (hk : jp_k u) {n : Nat} (hn : n < 40) {st : Int32} : (jp_sn u st n ∧ jc_shownEntry u (nI n) st = jc_entryAt u (nI n) st) ∨ (¬ jp_sn u st n ∧ jc_shownEntry u (nI n) st = -1) := by
  unfold jc_shownEntry
  rw [ix_nI (by omega)]
  have e : (¬ nI n < 0 ∧ ¬ 40 ≤ nI n ∧ u 5 n ≠ 0 ∧ jc_held u (u 7 n) st = true ∧ jc_held u (jc_up1 u (u 7 n)) st = true) ↔ jp_sn u st n := by
    rw [jc_held_h hk, jc_held_h hk]
    unfold jp_sn
    have a : ¬ (40 : Int32) ≤ nI n := fun q => absurd ((nI_leI (a := 40) (by decide) (by omega)).mp q) (by omega)
    exact ⟨fun q => ⟨hn, q.2.2⟩, fun q => ⟨nI_pos (by omega), a, q.2⟩⟩
  by_cases h : jp_sn u st n
  · exact Or.inl ⟨h, if_pos (e.mpr h)⟩
  · exact Or.inr ⟨h, if_neg (fun q => h (e.mp q))⟩
theorem je_top_ex {u : js_S} {n st : Int32} {t : je_T} (ht : t ∈ jc_es u) (h1 : t.1 = n) (h2 : t.2.1 ≤ st) : ∃ i t', i < 40 ∧ jc_entryAt u n st = nI i ∧ jc_row u i = some t' ∧ je_top (jc_es u) n st t' := by
  rcases jc_at_top (u := u) (n := n) (st := st) with ⟨-, h⟩ | h
  · exact absurd h2 (h t ht h1)
  · exact h
theorem jp_sn_ent {u : js_S} (hP : jp_P u) (hB : jp_B u) (h0 : jp_z u) {st : Int32} (hst : 0 ≤ st) {n : Nat} (h : jp_sn u st n) : ∃ i t, i < 40 ∧ jc_entryAt u (nI n) st = nI i ∧ jc_row u i = some t ∧ je_top (jc_es u) (nI n) st t := by
  by_cases e : n = 0
  · subst e
    obtain ⟨t, ht, h1, h2⟩ := h0.1
    exact je_top_ex ht h1 (by rw [h2]; exact hst)
  · obtain ⟨t, ht, h1, h2⟩ := hB n h.1 e h.2.1
    obtain ⟨d, o, hd, ho, p7, p8, p9, -⟩ := hP.2.2.2.1 n h.1 e h.2.1
    rcases h.2.2.1 with q | ⟨t', ht', q⟩
    · rw [p7] at q; exact absurd q (nI_m1 (by omega))
    · exact je_top_ex ht h1 (Int32.le_trans (h2 t' ht'.1 q) ht'.2.2.1)
theorem jp_sn_0 {u : js_S} (hP : jp_P u) {st : Int32} : jp_sn u st 0 :=
  ⟨by omega, hP.1.1, Or.inl hP.1.2.2, Or.inl (by unfold jc_up1; rw [if_pos hP.1.2.2])⟩
theorem jp_sn_s {u : js_S} (hP : jp_P u) {st : Int32} {n m : Nat} {t : je_T} (hn : n < 40) (h5 : ¬ u 5 n = 0) (hm : jp_sn u st m) (ht : je_top (jc_es u) (nI m) st t) (hd : t.2.2.2.2 = u 7 n) : jp_sn u st n := by
  obtain ⟨o, d, ho, hd', p1, p2, p8, p9, -⟩ := hP.2.2.1 t ht.1
  have e1 : o = m := jn_inj (by omega) (by have := hm.1; omega) (p1.symm.trans ht.2.1)
  subst e1
  have e2 : u 7 n = nI d := hd.symm.trans p2
  have e3 : u 9 (ix (u 7 n)) = nI o := by rw [e2, ix_nI (by omega)]; exact p9
  refine ⟨hn, h5, Or.inr ⟨t, ?_, hd⟩, ?_⟩
  · rw [e3]; exact ht
  · unfold jc_up1
    rw [if_neg (by rw [e2]; exact nI_m1 (by omega)), e3, ix_nI (by omega)]
    exact hm.2.2.1
theorem jp_sn_c {u : js_S} (hP : jp_P u) (hA : jp_A u) {st : Int32} {n : Nat} (h : jp_sn u st n) : n = 0 ∨ ∃ m d t, m < 40 ∧ d < 40 ∧ jp_sn u st m ∧ je_top (jc_es u) (nI m) st t ∧ t.2.2.2.2 = nI d ∧ u 7 n = nI d ∧ ¬ u 8 d = 0 ∧ u 6 n = u 6 m + 1 ∧ (m = 0 ∨ ¬ u 6 m = 0) ∧ (u 12 d = nI n ∨ u 13 d = nI n) := by
  by_cases e : n = 0
  · exact Or.inl e
  · obtain ⟨d, o, hd, ho, p7, p8, p9, p6, pl⟩ := hP.2.2.2.1 n h.1 e h.2.1
    have h1 := h.2.2.1
    have h2 := h.2.2.2
    unfold jc_up1 at h2
    rw [p7, ix_nI (by omega), p9, if_neg (nI_m1 (by omega)), ix_nI (by omega)] at h2
    rw [p7] at h1
    rcases h1 with q | ⟨t, ht, q⟩
    · exact absurd q (nI_m1 (by omega))
    rw [ix_nI (by omega), p9] at ht
    obtain ⟨o', d', ho', hd', q1, q2, q8, q9, q6⟩ := hP.2.2.1 t ht.1
    have e1 : o' = o := jn_inj (by omega) (by omega) (q1.symm.trans ht.2.1)
    subst e1
    have a := hA.1 t ht.1
    rw [q1, ix_nI (by omega)] at a
    refine Or.inr ⟨o', d, t, ho, hd, ⟨ho, a, h2, ?_⟩, ht, q, p7, p8, p6, q6, pl⟩
    by_cases e3 : o' = 0
    · subst e3
      unfold jc_up1
      rw [if_pos hP.1.2.2]; exact Or.inl rfl
    · obtain ⟨d2, w, hd2, hw, r7, r8, r9, r6, -⟩ := hP.2.2.2.1 o' ho e3 a
      unfold jc_up1
      rw [r7, if_neg (nI_m1 (by omega)), ix_nI (by omega), r9, ix_nI (by omega)]
      obtain ⟨t2, ht2, e4⟩ := hA.2 d2 hd2 r8
      obtain ⟨w', d3, hw', hd3, s1, s2, s8, s9, s6⟩ := hP.2.2.1 t2 ht2
      have e5 : d3 = d2 := jn_inj (by omega) (by omega) (s2.symm.trans e4)
      subst e5
      have e6 : w' = w := jn_inj (by omega) (by omega) (s9.symm.trans r9)
      subst e6
      rcases jp_lv (hP.2.1 n h.1) (hP.2.1 o' ho) p6 with z | z
      · exact absurd z.1 (q6.resolve_left e3)
      · rcases jp_lv (hP.2.1 o' ho) (hP.2.1 w' hw) r6 with y | y
        · rcases s6 with rfl | s6
          · exact Or.inl hP.1.2.2
          · exact absurd y.1 s6
        · exact absurd (z.1.symm.trans y.2) (by decide)
/-! the reference's flags -/
theorem jm_pr_eq {v w : js_S} (h : ∀ f i, f = 4 ∨ f = 5 ∨ f = 9 ∨ f = 21 → w f i = v f i) {n : Int32} : ∀ k, jm_pr w n k = jm_pr v n k
  | 0 => rfl
  | k + 1 => by
    rw [jm_pr, jm_pr, jm_pr_eq h k, h 9 k (by decide), h 4 k (by decide), h 5 k (by decide), h 21 0 (by decide)]
theorem jm_po_eq {v w : js_S} (h : ∀ f i, f = 4 ∨ f = 5 ∨ f = 9 ∨ f = 21 → w f i = v f i) {n : Int32} : jm_presentOf w n = jm_presentOf v n := by
  unfold jm_presentOf
  rw [jm_pr_eq h 48]
theorem jm_show_mono {w : js_S} {d : Int32} {k : Nat} (h : ¬ w 17 k = 0) : ¬ jm_show w d 17 k = 0 := by
  have a : ¬ jm_sh1 w d 17 k = 0 := by
    unfold jm_sh1
    split
    · exact h
    · unfold js_up
      split
      · decide
      · exact h
  unfold jm_show jm_sh2
  split
  · exact a
  · unfold js_up
    split
    · decide
    · exact a
theorem jm_sh1_f {w : js_S} {d : Int32} {f k : Nat} (h : ¬ f = 17) : jm_sh1 w d f k = w f k := by
  unfold jm_sh1
  split
  · rfl
  · exact js_up_f h
theorem jm_show_set {w : js_S} {d : Int32} : (¬ w 13 (ix d) < 0 → ¬ jm_show w d 17 (ix (w 13 (ix d))) = 0) ∧ (¬ w 14 (ix d) < 0 → ¬ jm_show w d 17 (ix (w 14 (ix d))) = 0) := by
  constructor
  · intro h
    have a : ¬ jm_sh1 w d 17 (ix (w 13 (ix d))) = 0 := by
      unfold jm_sh1
      rw [if_neg h, js_up_s]; decide
    unfold jm_show jm_sh2
    split
    · exact a
    · unfold js_up
      split
      · decide
      · exact a
  · intro h
    unfold jm_show jm_sh2
    rw [jm_sh1_f (f := 14) (by decide), if_neg h, js_up_s]
    decide
theorem jm_show_or {w : js_S} {d : Int32} {k : Nat} (h : ¬ jm_show w d 17 k = 0) : ¬ w 17 k = 0 ∨ (¬ w 13 (ix d) < 0 ∧ k = ix (w 13 (ix d))) ∨ (¬ w 14 (ix d) < 0 ∧ k = ix (w 14 (ix d))) := by
  unfold jm_show jm_sh2 at h
  rw [jm_sh1_f (f := 14) (by decide)] at h
  have b : ¬ jm_sh1 w d 17 k = 0 → ¬ w 17 k = 0 ∨ (¬ w 13 (ix d) < 0 ∧ k = ix (w 13 (ix d))) := by
    intro h
    unfold jm_sh1 at h
    split at h
    · exact Or.inl h
    · rename_i hx
      by_cases e : k = ix (w 13 (ix d))
      · exact Or.inr ⟨hx, e⟩
      · rw [js_up_i e] at h; exact Or.inl h
  split at h
  · rcases b h with q | q
    · exact Or.inl q
    · exact Or.inr (Or.inl q)
  · rename_i hx
    by_cases e : k = ix (w 14 (ix d))
    · exact Or.inr (Or.inr ⟨hx, e⟩)
    · rw [js_up_i e] at h
      rcases b h with q | q
      · exact Or.inl q
      · exact Or.inr (Or.inl q)
theorem jm_m3_mono {w : js_S} {k : Nat} (h : ¬ w 17 k = 0) : ∀ j, ¬ jm_m3 w j 17 k = 0
  | 0 => h
  | j + 1 => by
    rw [jm_m3]
    split
    · exact jm_m3_mono h j
    · exact jm_show_mono (jm_m3_mono h j)
/-- the present entry of a shown navigable, in the reference -/
theorem jm_po_sn {u v w : js_S} (hP : jp_P u) (hB : jp_B u) (h0 : jp_z u) (hk : jp_k u) (hX : jp_X u v) (hst : 0 ≤ v 21 0) (hq : ∀ f i, ¬ f = 17 → w f i = v f i) {n : Nat} (hs : jp_sn u (v 21 0) n) : ∃ j t, j < 48 ∧ jm_presentOf w (nI n) = nI j ∧ jm_row v j = some t ∧ je_top (jc_es u) (nI n) (v 21 0) t := by
  obtain ⟨i, t, hi, e1, e2, e3⟩ := jp_sn_ent hP hB h0 hst hs
  rw [jm_po_eq (v := v) (w := w) (fun f i h => hq f i (by omega))]
  rcases jm_po_top (u := v) (n := nI n) (fun t ht => h0.2 t (hX.1.mem_iff.mp ht)) with ⟨-, h⟩ | ⟨j, t', hj, h1, h2, h3⟩
  · exact absurd e3.2.2.1 (h t (hX.1.mem_iff.mpr e3.1) e3.2.1)
  · exact ⟨j, t', hj, h1, h2, je_top_p hX.1 h3⟩
theorem jm_m3_sound {u v w : js_S} (hP : jp_P u) (hB : jp_B u) (h0 : jp_z u) (hk : jp_k u) (hS : jc_Sh u) (hX : jp_X u v) (hst : 0 ≤ v 21 0) (hq : ∀ f i, ¬ f = 17 → w f i = v f i) (hs : ∀ k, k < 48 → ¬ w 17 k = 0 → jp_sn u (v 21 0) k) : ∀ j, j ≤ 48 → ∀ k, k < 48 → ¬ jm_m3 w j 17 k = 0 → jp_sn u (v 21 0) k
  | 0, _ => hs
  | j + 1, hj => by
    have ih := jm_m3_sound hP hB h0 hk hS hX hst hq hs j (by omega)
    intro k hk2 h
    rw [jm_m3] at h
    split at h
    · exact ih k hk2 h
    · rename_i h17
      have hq2 : ∀ f i, ¬ f = 17 → jm_m3 w j f i = v f i := fun f i hf => (jm_m3_f hf j).trans (hq f i hf)
      have sj := ih j (by omega) h17
      obtain ⟨r, t, hr, e1, e2, e3⟩ := jm_po_sn hP hB h0 hk hX hst hq2 sj
      obtain ⟨o, d, ho, hd, p1, p2, p8, p9, -⟩ := hP.2.2.1 t e3.1
      have e4 : v 8 r = nI d := by
        have := (jm_row_some.mp e2).2
        rw [this] at p2; exact p2
      rw [e1, ix_nI (by omega), hq2 8 r (by decide), e4] at h
      rcases jm_show_or h with q | q
      · exact ih k hk2 q
      · rw [ix_nI (by omega), hq2 13 d (by decide), hq2 14 d (by decide)] at q
        have : ∃ x, (x = v 13 d ∨ x = v 14 d) ∧ ¬ x < 0 ∧ k = ix x := by
          rcases q with q | q
          · exact ⟨_, Or.inl rfl, q⟩
          · exact ⟨_, Or.inr rfl, q⟩
        obtain ⟨x, hx, hx0, rfl⟩ := this
        obtain ⟨n, hn, rfl, -, n5, n7⟩ := jp_link hP hS (jp_XR hX) hd p8 hx hx0
        rw [ix_nI (by omega)]
        exact jp_sn_s hP hn n5 sj e3 (p2.trans n7.symm)
theorem jm_m3_set {u v w : js_S} (hP : jp_P u) (hB : jp_B u) (h0 : jp_z u) (hk : jp_k u) (hX : jp_X u v) (hst : 0 ≤ v 21 0) (hq : ∀ f i, ¬ f = 17 → w f i = v f i) {n m d : Nat} {t : je_T} (hn : n < 40) (hm : m < 40) (hd : d < 40) (h8 : ¬ u 8 d = 0) (sm : jp_sn u (v 21 0) m) (ht : je_top (jc_es u) (nI m) (v 21 0) t) (h2 : t.2.2.2.2 = nI d) (hl : u 12 d = nI n ∨ u 13 d = nI n) (h17 : ¬ w 17 m = 0) : ∀ k, m < k → ¬ jm_m3 w k 17 n = 0
  | 0, h => by omega
  | k + 1, h => by
    rw [jm_m3]
    by_cases e : m = k
    · subst e
      have hq2 : ∀ f i, ¬ f = 17 → jm_m3 w m f i = v f i := fun f i hf => (jm_m3_f hf m).trans (hq f i hf)
      rw [if_neg (jm_m3_mono h17 m)]
      obtain ⟨r, t', hr, e1, e2, e3⟩ := jm_po_sn hP hB h0 hk hX hst hq2 sm
      have e5 := je_top_u hk ht e3
      subst e5
      have e4 : v 8 r = nI d := by
        have := (jm_row_some.mp e2).2
        rw [this] at h2; exact h2
      rw [e1, ix_nI (by omega), hq2 8 r (by decide), e4]
      have a := jm_show_set (w := jm_m3 w m) (d := nI d)
      have x := hX.2.2.1 d hd h8
      rw [ix_nI (by omega), hq2 13 d (by decide), hq2 14 d (by decide), x.2.2.1, x.2.2.2] at a
      rcases hl with hl | hl
      · have b := a.1 (by rw [hl]; exact nI_pos (by omega))
        rw [hl, ix_nI (by omega)] at b
        exact b
      · have b := a.2 (by rw [hl]; exact nI_pos (by omega))
        rw [hl, ix_nI (by omega)] at b
        exact b
    · have ih := jm_m3_set hP hB h0 hk hX hst hq hn hm hd h8 sm ht h2 hl h17 k (by omega)
      split
      · exact ih
      · exact jm_show_mono ih
theorem jm_B3 {u v : js_S} (hP : jp_P u) (hA : jp_A u) (hB : jp_B u) (h0 : jp_z u) (hk : jp_k u) (hS : jc_Sh u) (hX : jp_X u v) (hst : 0 ≤ v 21 0) (h17 : ∀ n, n < 48 → (¬ v 17 n = 0 ↔ n = 0)) {n : Nat} (hn : n < 48) : ¬ jm_mkB3 v 17 n = 0 ↔ jp_sn u (v 21 0) n := by
  have q0 : ∀ f i, ¬ f = 17 → v f i = v f i := fun _ _ _ => rfl
  have q1 : ∀ f i, ¬ f = 17 → jm_m3 v 48 f i = v f i := fun f i hf => jm_m3_f hf 48
  have q2 : ∀ f i, ¬ f = 17 → jm_m3 (jm_m3 v 48) 48 f i = v f i := fun f i hf => (jm_m3_f hf 48).trans (q1 f i hf)
  have s0 : ∀ k, k < 48 → ¬ v 17 k = 0 → jp_sn u (v 21 0) k := by
    intro k hk2 h
    rw [(h17 k hk2).mp h]
    exact jp_sn_0 hP
  have s1 := jm_m3_sound hP hB h0 hk hS hX hst q0 s0 48 (Nat.le_refl _)
  have s2 := jm_m3_sound hP hB h0 hk hS hX hst q1 s1 48 (Nat.le_refl _)
  have s3 := jm_m3_sound hP hB h0 hk hS hX hst q2 s2 48 (Nat.le_refl _)
  refine ⟨s3 n hn, fun h => ?_⟩
  have z : ¬ v 17 0 = 0 := (h17 0 (by omega)).mpr rfl
  have c0 : ∀ n, jp_sn u (v 21 0) n → u 6 n = 0 → n = 0 := by
    intro n h e
    rcases jp_sn_c hP hA h with q | ⟨m, d, t, hm, hd, sm, ht, hd2, h7, h8, h6, hm0, hl⟩
    · exact q
    · rcases jp_lv (hP.2.1 n h.1) (hP.2.1 m hm) h6 with q | q
      · exact absurd (e.symm.trans q.2) (by decide)
      · exact absurd (e.symm.trans q.2) (by decide)
  have c1 : ∀ n, jp_sn u (v 21 0) n → u 6 n = 1 → ¬ jm_m3 v 48 17 n = 0 := by
    intro n h e
    rcases jp_sn_c hP hA h with rfl | ⟨m, d, t, hm, hd, sm, ht, hd2, h7, h8, h6, hm0, hl⟩
    · exact jm_m3_mono z 48
    · rcases jp_lv (hP.2.1 n h.1) (hP.2.1 m hm) h6 with q | q
      · have e0 := c0 m sm q.1
        subst e0
        exact jm_m3_set hP hB h0 hk hX hst q0 h.1 hm hd h8 sm ht hd2 hl z 48 (by omega)
      · exact absurd (e.symm.trans q.2) (by decide)
  have c2 : ∀ n, jp_sn u (v 21 0) n → u 6 n = 2 → ¬ jm_m3 (jm_m3 v 48) 48 17 n = 0 := by
    intro n h e
    rcases jp_sn_c hP hA h with rfl | ⟨m, d, t, hm, hd, sm, ht, hd2, h7, h8, h6, hm0, hl⟩
    · exact jm_m3_mono (jm_m3_mono z 48) 48
    · rcases jp_lv (hP.2.1 n h.1) (hP.2.1 m hm) h6 with q | q
      · exact absurd (e.symm.trans q.2) (by decide)
      · exact jm_m3_set hP hB h0 hk hX hst q1 h.1 hm hd h8 sm ht hd2 hl (c1 m sm q.1) 48 (by omega)
  unfold jm_mkB3
  rcases hP.2.1 n h.1 with q | q | q
  · have e0 := c0 n h q
    subst e0
    exact jm_m3_mono (jm_m3_mono (jm_m3_mono z 48) 48) 48
  · exact jm_m3_mono (jm_m3_mono (c1 n h q) 48) 48
  · exact jm_m3_mono (c2 n h q) 48
theorem jp_X_eq {u v w : js_S} (hX : jp_X u v) (h : ∀ f i, 4 ≤ f → f ≤ 16 → w f i = v f i) : jp_X u w := by
  refine ⟨?_, fun d hd => ?_, fun d hd h8 => ?_, fun n hn => ?_, fun n hn h5 => ?_⟩
  · rw [jm_es_eq (fun f i h1 h2 => h f i h1 (by omega))]; exact hX.1
  · rw [h 10 d (by decide) (by decide)]; exact hX.2.1 d hd
  · rw [h 11 d (by decide) (by decide), h 12 d (by decide) (by decide), h 13 d (by decide) (by decide), h 14 d (by decide) (by decide)]; exact hX.2.2.1 d hd h8
  · rw [h 15 n (by decide) (by decide)]; exact hX.2.2.2.1 n hn
  · rw [h 16 n (by decide) (by decide)]; exact hX.2.2.2.2 n hn h5
theorem jm_mark_shown {u v : js_S} (hP : jp_P u) (hA : jp_A u) (hB : jp_B u) (h0 : jp_z u) (hk : jp_k u) (hS : jc_Sh u) (hX : jp_X u (jm_mark v)) (hst : 0 ≤ v 21 0) {n : Nat} (hn : n < 48) : ¬ jm_mark v 17 n = 0 ↔ jp_sn u (v 21 0) n := by
  have e21 : jm_m2 (jm_mkA3 (jm_m0 v 48)) 48 21 0 = v 21 0 :=
    (jm_m3f3 (w := jm_m2 (jm_mkA3 (jm_m0 v 48)) 48) (f := 21) (i := 0) (by decide)).symm.trans jm_mark_21
  have a := jm_B3 (v := jm_m2 (jm_mkA3 (jm_m0 v 48)) 48) hP hA hB h0 hk hS (jp_X_eq hX (fun f i h1 h2 => by unfold jm_mark; rw [jm_m3f3 (by omega)])) (by rw [e21]; exact hst) (fun n hn => by
    rw [jm_m2_f (by decide) (by decide) (by decide)]
    unfold jm_mkA3
    rw [jm_m1_f (by decide) (by decide), jm_m1_f (by decide) (by decide), jm_m1_f (by decide) (by decide), (jm_m0_19 48 hn).2.2]
    exact jm_k0_ne (by omega)) hn
  rw [e21] at a
  exact a
