/-! The relation of the two stores between calls, and the methods that only read. -/
def jz_ans (u v : js_S) : Prop := ∀ i, i < 32 → u 0 i = v 0 i ∧ (u 0 i = 0 → u 1 i = v 1 i ∧ u 2 i = v 2 i ∧ u 3 i = v 3 i) ∧ (u 0 i = 1 → u 4 i = v 1 i)
def jz_sc (u v : js_S) : Prop := u 21 0 = v 21 0 ∧ u 22 0 = v 23 0 ∧ u 23 0 = v 24 0 ∧ u 24 0 = v 22 0
def jz_sh (u v : js_S) : Prop := ∀ n, n < 48 → (¬ v 17 n = 0 ↔ jp_sn u (v 21 0) n)
def jz_I (K : Nat) (u : js_S) : Prop := jp_P u ∧ jp_A u ∧ jp_B u ∧ jp_z u ∧ jp_k u ∧ jc_Sh u ∧ (∀ t, t ∈ jc_es u → jq 256 t.2.2.1 ∧ ∃ s, s ≤ K ∧ t.2.1 = nI s) ∧ (∃ k, k ≤ K ∧ u 21 0 = nI k) ∧ (∃ t, t ∈ jc_es u ∧ t.2.1 = u 21 0)
def jz_S (K : Nat) (u v : js_S) : Prop := K < 2 ^ 31 ∧ jz_I K u ∧ jz_ans u v ∧ jp_X u v ∧ jz_sc u v ∧ jz_sh u v ∧ jm_Sh v
theorem jz_now {K : Nat} {u v : js_S} (h : jz_S K u v) : 0 ≤ u 21 0 := by
  obtain ⟨hK, hI, -⟩ := h
  obtain ⟨k, hk, e⟩ := hI.2.2.2.2.2.2.2.1
  rw [e]
  exact Int32.not_lt.mp (nI_pos (by omega))
theorem jm_isShown_ne {v : js_S} {n : Nat} (hn : n < 48) : ¬ jm_isShown v (nI n) = 0 ↔ ¬ v 17 n = 0 := by
  have b : ¬ jm_btw (nI n) 0 47 = 0 := by
    unfold jm_btw
    rw [if_neg (nI_pos (by omega)), if_neg]
    · decide
    · exact fun q => absurd ((nI_ltI (a := 47) (by decide) (by omega)).mp q) (by omega)
  unfold jm_isShown
  rw [if_neg b, ix_nI (by omega)]
  by_cases h : v 17 n = 0 <;> simp [h]
theorem jz_pick {K : Nat} {u v : js_S} (h : jz_S K u v) (n : Int32) : (jc_shownEntry u n (u 21 0) = -1 ∧ jm_isShown v n = 0) ∨ ∃ k i j t, k < 40 ∧ i < 40 ∧ j < 48 ∧ n = nI k ∧ jc_shownEntry u n (u 21 0) = nI i ∧ jc_row u i = some t ∧ ¬ jm_isShown v n = 0 ∧ jm_presentOf v n = nI j ∧ jm_row v j = some t ∧ jp_sn u (u 21 0) k ∧ je_top (jc_es u) n (u 21 0) t := by
  have h21 := jz_now h
  obtain ⟨hK, ⟨hP, hA, hB, h0, hk, hS, -⟩, hans, hX, hsc, hsh, hM⟩ := h
  by_cases hn : ∃ k, k < 48 ∧ n = nI k
  · obtain ⟨k, hk48, rfl⟩ := hn
    by_cases h40 : k < 40
    · rcases jc_se_sn hk h40 (st := u 21 0) with ⟨hs, e⟩ | ⟨hs, e⟩
      · obtain ⟨i, t, hi, e1, e2, e3⟩ := jp_sn_ent hP hB h0 h21 hs
        have hs' : jp_sn u (v 21 0) k := by rw [← hsc.1]; exact hs
        obtain ⟨j, t', hj, f1, f2, f3⟩ := jm_po_sn (w := v) hP hB h0 hk hX (by rw [← hsc.1]; exact h21) (fun _ _ _ => rfl) hs'
        rw [← hsc.1] at f3
        have e4 := je_top_u hk e3 f3
        subst e4
        exact Or.inr ⟨k, i, j, t, h40, hi, hj, rfl, e.trans e1, e2, (jm_isShown_ne hk48).mpr ((hsh k hk48).mpr hs'), f1, f2, hs, e3⟩
      · refine Or.inl ⟨e, Classical.byContradiction (fun q => hs ?_)⟩
        have := (hsh k hk48).mp ((jm_isShown_ne hk48).mp q)
        rw [← hsc.1] at this; exact this
    · refine Or.inl ⟨?_, Classical.byContradiction (fun q => h40 ((hsh k hk48).mp ((jm_isShown_ne hk48).mp q)).1)⟩
      unfold jc_shownEntry
      exact if_neg (fun q => q.2.1 ((nI_leI (a := 40) (by decide) (by omega)).mpr (by omega)))
  · refine Or.inl ⟨Classical.byContradiction (fun q => hn ?_), Classical.byContradiction (fun q => hn (jm_shown_ex q))⟩
    unfold jc_shownEntry at q
    split at q
    · rename_i c
      obtain ⟨k, hk2, e⟩ := js_in 40 (by decide) c.1 c.2.1
      exact ⟨k, by omega, e⟩
    · exact absurd rfl q
theorem jz_doc {K : Nat} {u v : js_S} (h : jz_S K u v) {i j : Nat} {t : je_T} (hi : i < 40) (h1 : jc_row u i = some t) (h2 : jm_row v j = some t) : ∃ d, d < 40 ∧ u 19 i = nI d ∧ v 8 j = nI d ∧ ¬ u 8 d = 0 ∧ v 11 d = u 10 d ∧ v 12 d = u 11 d ∧ v 13 d = u 12 d ∧ v 14 d = u 13 d := by
  obtain ⟨hK, ⟨hP, hA, hB, h0, hk, hS, -⟩, hans, hX, hsc, hsh, hM⟩ := h
  have a := jc_row_some.mp h1
  have b := jm_row_some.mp h2
  obtain ⟨o, d, ho, hd, p1, p2, p8, -⟩ := hP.2.2.1 t (jc_mem.mpr ⟨i, hi, a⟩)
  refine ⟨d, hd, ?_, ?_, p8, hX.2.2.1 d hd p8⟩
  · rw [a.2] at p2; exact p2
  · rw [b.2] at p2; exact p2
theorem jz_url {K : Nat} {u v : js_S} (h : jz_S K u v) (n : Int32) : jc_url u n = jm_url v n := by
  unfold jc_url jm_url
  rcases jz_pick h n with ⟨e1, e2⟩ | ⟨k, i, j, t, hk, hi, hj, -, e1, r1, e2, e3, r2, -⟩
  · rw [if_pos e1, if_pos e2]
  · rw [if_neg (by rw [e1]; exact nI_m1 (by omega)), if_neg e2, e1, e3, ix_nI (by omega), ix_nI (by omega)]
    have a := (jc_row_some.mp r1).2.symm.trans (jm_row_some.mp r2).2
    exact congrArg (fun t : je_T => t.2.2.1) a
theorem jz_state {K : Nat} {u v : js_S} (h : jz_S K u v) (n : Int32) : jc_state u n = jm_state v n := by
  unfold jc_state jm_state
  rcases jz_pick h n with ⟨e1, e2⟩ | ⟨k, i, j, t, hk, hi, hj, -, e1, r1, e2, e3, r2, -⟩
  · rw [if_pos e1, if_pos e2]
  · rw [if_neg (by rw [e1]; exact nI_m1 (by omega)), if_neg e2, e1, e3, ix_nI (by omega), ix_nI (by omega)]
    have a := (jc_row_some.mp r1).2.symm.trans (jm_row_some.mp r2).2
    exact congrArg (fun t : je_T => t.2.2.2.1.toInt64) a
theorem jz_step {K : Nat} {u v : js_S} (h : jz_S K u v) (n : Int32) : jc_step u n = jm_step v n := by
  unfold jc_step jm_step
  rcases jz_pick h n with ⟨e1, e2⟩ | ⟨k, i, j, t, hk, hi, hj, -, e1, r1, e2, e3, r2, -⟩
  · rw [if_pos e1, if_pos e2]
  · rw [if_neg (by rw [e1]; exact nI_m1 (by omega)), if_neg e2, e1, e3, ix_nI (by omega), ix_nI (by omega)]
    have a := (jc_row_some.mp r1).2.symm.trans (jm_row_some.mp r2).2
    exact congrArg (fun t : je_T => t.2.1) a
theorem jz_origin {K : Nat} {u v : js_S} (h : jz_S K u v) (n : Int32) : jc_origin u n = jm_origin v n := by
  unfold jc_origin jm_origin
  rcases jz_pick h n with ⟨e1, e2⟩ | ⟨k, i, j, t, hk, hi, hj, -, e1, r1, e2, e3, r2, -⟩
  · rw [if_pos e1, if_pos e2]
  · rw [if_neg (by rw [e1]; exact nI_m1 (by omega)), if_neg e2, e1, e3, ix_nI (by omega), ix_nI (by omega)]
    obtain ⟨d, hd, q1, q2, q8, q10, -⟩ := jz_doc h hi r1 r2
    rw [q1, q2, ix_nI (by omega), q10]
theorem jz_numOf {x : Int32} (h : jq 40 x) : jc_numOf x = if 0 ≤ x then x else -7 := by
  unfold jc_numOf
  rcases h with rfl | ⟨i, hi, rfl⟩
  · rfl
  · rw [if_neg (nI_m1 (by omega)), if_pos (Int32.not_lt.mp (nI_pos (by omega)))]
theorem jz_frame {K : Nat} {u v : js_S} (h : jz_S K u v) (n x : Int32) : jc_frame u n x = jm_frame v n x := by
  unfold jc_frame jm_frame
  rcases jz_pick h n with ⟨e1, e2⟩ | ⟨k, i, j, t, hk, hi, hj, -, e1, r1, e2, e3, r2, -⟩
  · rw [if_pos e1, if_pos e2]
  · rw [if_neg (by rw [e1]; exact nI_m1 (by omega)), if_neg e2, e1, e3, ix_nI (by omega), ix_nI (by omega)]
    obtain ⟨d, hd, q1, q2, q8, q10, q11, q12, q13⟩ := jz_doc h hi r1 r2
    have hS : jc_Sh u := h.2.1.2.2.2.2.2.1
    rw [q1, q2, ix_nI (by omega)]
    unfold jm_fr
    rw [ix_nI (by omega), q12, q13]
    by_cases x0 : x = 0
    · simp only [x0, if_true]
      exact jz_numOf (jc_S12 hS hd)
    · by_cases x1 : x = 1
      · simp only [x0, x1, if_false, if_true]
        exact jz_numOf (jc_S13 hS hd)
      · simp only [x0, x1, if_false]
        rfl
theorem jz_entries {K : Nat} {u v : js_S} (h : jz_S K u v) (n : Int32) : jc_entries u n = jm_entries v n := by
  unfold jc_entries jm_entries
  rcases jz_pick h n with ⟨e1, e2⟩ | ⟨k, i, j, t, hk, hi, hj, -, e1, r1, e2, e3, r2, -, e4⟩
  · rw [if_pos e1, if_pos e2]
  · rw [if_neg (by rw [e1]; exact nI_m1 (by omega)), if_neg e2, e1, ix_nI (by omega)]
    have a : u 15 i = n := by
      have := e4.2.1
      rw [(jc_row_some.mp r1).2] at this; exact this
    rw [a, jc_cntO_l, jm_cntO_l]
    exact congrArg nI (h.2.2.2.1.1.countP_eq _).symm
theorem cn_z {u : js_S} {f : Nat} {m : Nat} : ∀ k, (∀ i, m ≤ i → i < m + k → u f i = 0) → jm_cntF u f (m + k) = jm_cntF u f m
  | 0, _ => rfl
  | k + 1, h => by
    rw [← Nat.add_assoc, jm_cntF, cn_z k (fun i h1 h2 => h i h1 (by omega)), if_neg (fun q => q (h (m + k) (by omega) (by omega)))]
theorem jc_cntN_F {u : js_S} : ∀ k, jc_cntN u k = jm_cntF u 5 k
  | 0 => rfl
  | k + 1 => by rw [jc_cntN, jm_cntF, jc_cntN_F k]
theorem jz_cntS {K : Nat} {u v : js_S} (h : jz_S K u v) : ∀ k, k ≤ 40 → jc_cntS u (u 21 0) k = jm_cntF v 17 k
  | 0, _ => rfl
  | k + 1, hk => by
    rw [jc_cntS, jm_cntF, jz_cntS h k (by omega)]
    have e : jc_shownEntry u (nI k) (u 21 0) ≠ -1 ↔ v 17 k ≠ 0 := by
      have a := jm_isShown_ne (v := v) (n := k) (by omega)
      rcases jz_pick h (nI k) with ⟨e1, e2⟩ | ⟨k', i, j, t, hk', hi, hj, -, e1, r1, e2, -⟩
      · exact ⟨fun q => absurd e1 q, fun q => absurd e2 (a.mpr q)⟩
      · exact ⟨fun _ => a.mp e2, fun _ => by rw [e1]; exact nI_m1 (by omega)⟩
    by_cases q : v 17 k ≠ 0
    · rw [if_pos q, if_pos (e.mpr q)]
    · rw [if_neg q, if_neg (fun z => q (e.mp z))]
theorem jz_count {K : Nat} {u v : js_S} (h : jz_S K u v) (k : Int32) : jc_count u k = jm_count v k := by
  have hX := h.2.2.2.1
  have hsc := h.2.2.2.2.1
  have hsh := h.2.2.2.2.2.1
  have e0 : jc_cntS u (u 21 0) 40 = jm_cntF v 17 48 := by
    rw [jz_cntS h 40 (Nat.le_refl _)]
    exact (cn_z (m := 40) 8 (fun i h1 h2 => Classical.byContradiction (fun q => absurd ((hsh i (by omega)).mp q).1 (by omega)))).symm
  have e1 : jc_cntN u 40 = jm_cntF v 15 48 := by
    rw [jc_cntN_F, cn_congr (v := v) (g := 15) 40 (fun i hi => ?_)]
    · exact (cn_z (m := 40) 8 (fun i h1 h2 => Classical.byContradiction (fun q => absurd ((hX.2.2.2.1 i (by omega)).mp q).1 (by omega)))).symm
    · have a := hX.2.2.2.1 i (by omega)
      exact ⟨fun q => Classical.byContradiction (fun z => (a.mp z).2 q), fun q => Classical.byContradiction (fun z => a.mpr ⟨hi, z⟩ q)⟩
  have e2 : jc_cntE u 2147483647 40 = jm_cntF v 9 48 := by
    rw [jc_cntE_l, je_len_m]
    have p := hX.1.length_eq
    refine Eq.trans ?_ p.symm
    refine List.countP_eq_length.mpr (fun t _ => ?_)
    have := Int32.toInt_le (x := t.2.1)
    simp only [decide_eq_true_eq, Int32.not_lt, Int32.le_iff_toInt_le]
    exact this
  unfold jc_count jm_count
  rw [e0, e1, e2, hsc.2.1, hsc.2.2.1, hsc.2.2.2]
