/-! detach: the frame is taken out of its document on both sides. -/
theorem jy_take {K : Nat} {u v : js_S} (h : jz_T K u v) {n : Nat} (hn : n < 40) (h0 : ¬ n = 0) (h5 : ¬ u 5 n = 0) : jy_M K (jc_takeOut u (nI n)) (jm_tk v (nI n)) := by
  have h' := jz_T_y h
  obtain ⟨⟨a1, hP, hB, hz, hk, hU, hS, hb, hw, ha, hR, hsc, hM, hQ⟩, hA, hX⟩ := h'
  obtain ⟨d, o, hd, ho, p7, p8, p9, p6, pl⟩ := hP.2.2.2.1 n hn h0 h5
  have v16 : v 16 n = nI d := (hR.2.2 n hn h5).2.trans p7
  have hSo := jc_Sh_out hS (n := nI n) ⟨n, hn, rfl⟩
  have hMt : jm_Sh (jm_tk v (nI n)) := by
    unfold jm_tk
    rw [ix_nI (by omega), v16]
    exact jm_Sh_14 (jm_tk1_Sh hM ⟨d, by omega, rfl⟩) jq_m1
  have rd := hR.2.1 d hd p8
  have f5 : ∀ j, ¬ j = n → jc_takeOut u (nI n) 5 j = u 5 j := by
    intro j hj
    simp only [jc_takeOut]
    rw [ix_nI (by omega), p7, if_neg (nI_m1 (by omega)), js_up_i hj, js_up_f (by decide)]
    split
    · exact js_up_f (by decide)
    · rfl
  have f5n : jc_takeOut u (nI n) 5 n = 0 := by
    simp only [jc_takeOut]
    rw [ix_nI (by omega), p7, if_neg (nI_m1 (by omega)), js_up_s]
  have fo : ∀ g j : Nat, ¬ g = 5 → ¬ (g = 12 ∧ j = d) → ¬ (g = 13 ∧ j = d) → jc_takeOut u (nI n) g j = u g j := by
    intro g j g5 g12 g13
    simp only [jc_takeOut]
    rw [ix_nI (by omega), p7, if_neg (nI_m1 (by omega)), js_up_f g5, ix_nI (by omega)]
    unfold js_up
    rw [if_neg g13]
    split
    · exact if_neg g12
    · rfl
  have f12 : jc_takeOut u (nI n) 12 d = if u 12 d = nI n then u 13 d else u 12 d := by
    simp only [jc_takeOut]
    rw [ix_nI (by omega), p7, if_neg (nI_m1 (by omega)), js_up_f (by decide), ix_nI (by omega), js_up_f (by decide)]
    split
    · rw [js_up_s]
    · rfl
  have f13 : jc_takeOut u (nI n) 13 d = -1 := by
    simp only [jc_takeOut]
    rw [ix_nI (by omega), p7, if_neg (nI_m1 (by omega)), js_up_f (by decide), ix_nI (by omega), js_up_s]
  have m13 : jm_tk v (nI n) 13 d = if u 12 d = nI n then u 13 d else u 12 d := by
    unfold jm_tk jm_tk1
    rw [ix_nI (by omega), v16, ix_nI (by omega), js_up_f (by decide), rd.2.2.2.1, rd.2.2.2.2]
    split
    · rw [js_up_s]
    · exact rd.2.2.2.1
  have m14 : jm_tk v (nI n) 14 d = -1 := by
    unfold jm_tk
    rw [ix_nI (by omega), v16, ix_nI (by omega), js_up_s]
  have mo : ∀ g j : Nat, ¬ (g = 13 ∧ j = d) → ¬ (g = 14 ∧ j = d) → jm_tk v (nI n) g j = v g j := by
    intro g j g13 g14
    unfold jm_tk jm_tk1
    rw [ix_nI (by omega), v16, ix_nI (by omega)]
    unfold js_up
    rw [if_neg g14]
    split
    · exact if_neg g13
    · rfl
  generalize jc_takeOut u (nI n) = w at hSo f5 f5n fo f12 f13
  generalize jm_tk v (nI n) = x at hMt m13 m14 mo
  have es : jc_es w = jc_es u := jc_es_eq (fun g i h1 h2 => fo g i (by omega) (by omega) (by omega))
  have em : jm_es x = jm_es v := jm_es_eq (fun g i h1 h2 => mo g i (by omega) (by omega))
  have q5 : ∀ j, ¬ w 5 j = 0 → ¬ j = n ∧ ¬ u 5 j = 0 := by
    intro j hj
    have : ¬ j = n := fun q => hj (by rw [q]; exact f5n)
    rw [f5 j this] at hj
    exact ⟨this, hj⟩
  have g6 : ∀ j, w 6 j = u 6 j := fun j => fo 6 j (by decide) (by omega) (by omega)
  have g7 : ∀ j, w 7 j = u 7 j := fun j => fo 7 j (by decide) (by omega) (by omega)
  have g8 : ∀ j, w 8 j = u 8 j := fun j => fo 8 j (by decide) (by omega) (by omega)
  have g9 : ∀ j, w 9 j = u 9 j := fun j => fo 9 j (by decide) (by omega) (by omega)
  refine ⟨a1, ⟨⟨?_, ?_, ?_⟩, fun k hk2 => ?_, fun t ht => ?_, fun k hk2 k0 k5 => ?_, fun y hy h8 k hk2 hl => ?_⟩, fun k hk2 k0 k5 hd2 => ?_, ?_, ?_, fun y hy h8 k hk2 => ?_, hSo, fun t ht => hb t (by rw [← es]; exact ht), ?_, jz_ans_eq ha (fun g j hg => fo g j (by omega) (by omega) (by omega)) (fun g j hg => mo g j (by omega) (by omega)), ⟨?_, fun y hy h8 => ?_, fun k hk2 k5 => ?_⟩, ?_, hMt, fun i hi => ?_⟩
  · rw [f5 0 (fun q => h0 q.symm)]; exact hP.1.1
  · rw [g6]; exact hP.1.2.1
  · rw [g7]; exact hP.1.2.2
  · rw [g6]; exact hP.2.1 k hk2
  · rw [es] at ht
    obtain ⟨o', d', ho', hd', r1, r2, r8, r9, r6⟩ := hP.2.2.1 t ht
    exact ⟨o', d', ho', hd', r1, r2, by rw [g8]; exact r8, by rw [g9]; exact r9, by rw [g6]; exact r6⟩
  · obtain ⟨kn, k5'⟩ := q5 k k5
    obtain ⟨d', o', hd', ho', r7, r8, r9, r6, rl⟩ := hP.2.2.2.1 k hk2 k0 k5'
    refine ⟨d', o', hd', ho', by rw [g7]; exact r7, by rw [g8]; exact r8, by rw [g9]; exact r9, by rw [g6, g6]; exact r6, ?_⟩
    by_cases e : d' = d
    · subst e
      left
      rw [f12]
      by_cases c : u 12 d' = nI n
      · rw [if_pos c]
        rcases rl with rl | rl
        · exact absurd (jn_inj (by omega) (by omega) (rl.symm.trans c)) kn
        · exact rl
      · rw [if_neg c]
        rcases rl with rl | rl
        · exact rl
        · rcases pl with pl | pl
          · exact absurd pl c
          · exact absurd (jn_inj (by omega) (by omega) (rl.symm.trans pl)) kn
    · rw [fo 12 d' (by decide) (fun q => e q.2) (fun q => e q.2), fo 13 d' (by decide) (fun q => e q.2) (fun q => e q.2)]
      exact rl
  · rw [g8] at h8
    rw [g7]
    by_cases e : y = d
    · subst e
      rw [f12, f13] at hl
      rcases hl with hl | hl
      · by_cases c : u 12 y = nI n
        · rw [if_pos c] at hl
          have kn : ¬ k = n := fun q => hU y hy h8 n hn c (by rw [hl, q])
          rw [f5 k kn]
          exact hP.2.2.2.2 y hy h8 k hk2 (Or.inr hl)
        · rw [if_neg c] at hl
          have kn : ¬ k = n := fun q => c (by rw [hl, q])
          rw [f5 k kn]
          exact hP.2.2.2.2 y hy h8 k hk2 (Or.inl hl)
      · exact absurd hl.symm (nI_m1 (by omega))
    · rw [fo 12 y (by decide) (fun q => e q.2) (fun q => e q.2), fo 13 y (by decide) (fun q => e q.2) (fun q => e q.2)] at hl
      have r := hP.2.2.2.2 y hy h8 k hk2 hl
      have kn : ¬ k = n := fun q => e (jn_inj (by omega) (by omega) (by rw [← r.2.2, q, p7]))
      rw [f5 k kn]
      exact r
  · obtain ⟨kn, k5'⟩ := q5 k k5
    rw [es, g7] at hd2 ⊢
    exact hB k hk2 k0 k5' hd2
  · unfold jp_z
    rw [es]; exact hz
  · unfold jp_k
    rw [es]; exact hk
  · rw [g8] at h8
    by_cases e : y = d
    · subst e
      rw [f13]
      exact fun _ q => nI_m1 (by omega) q.symm
    · rw [fo 12 y (by decide) (fun q => e q.2) (fun q => e q.2), fo 13 y (by decide) (fun q => e q.2) (fun q => e q.2)]
      exact hU y hy h8 k hk2
  · rw [fo 21 0 (by decide) (by omega) (by omega)]; exact hw
  · rw [es, em]; exact hX.1
  · rw [g8] at h8
    have r := hR.2.1 y hy h8
    rw [mo 10 y (by omega) (by omega), mo 11 y (by omega) (by omega), mo 12 y (by omega) (by omega), fo 10 y (by decide) (by omega) (by omega), fo 11 y (by decide) (by omega) (by omega)]
    refine ⟨r.1, r.2.1, r.2.2.1, ?_⟩
    by_cases e : y = d
    · subst e
      rw [m13, m14, f12, f13]
      exact ⟨rfl, rfl⟩
    · rw [fo 12 y (by decide) (fun q => e q.2) (fun q => e q.2), fo 13 y (by decide) (fun q => e q.2) (fun q => e q.2), mo 13 y (fun q => e q.2) (fun q => e q.2), mo 14 y (fun q => e q.2) (fun q => e q.2)]
      exact r.2.2.2
  · obtain ⟨kn, k5'⟩ := q5 k k5
    rw [mo 15 k (by omega) (by omega), mo 16 k (by omega) (by omega), g7]
    exact hR.2.2 k hk2 k5'
  · unfold jz_sc
    rw [fo 21 0 (by decide) (by omega) (by omega), fo 22 0 (by decide) (by omega) (by omega), fo 23 0 (by decide) (by omega) (by omega), fo 24 0 (by decide) (by omega) (by omega), mo 21 0 (by omega) (by omega), mo 22 0 (by omega) (by omega), mo 23 0 (by omega) (by omega), mo 24 0 (by omega) (by omega)]
    exact hsc
  · rw [mo 6 i (by omega) (by omega)]; exact hQ i hi
theorem jz_detach {K : Nat} {u v : js_S} (h : jz_T K u v) (n : Int32) : (jc_detach u n).1 = (jm_detach v n).1 ∧ jz_T K (jc_detach u n).2 (jm_detach v n).2 ∧ (¬ n = 0 → ¬ jm_isShown v n = 0 → ∃ j, j < 48 ∧ v 16 (ix n) = nI j) := by
  unfold jc_detach jm_detach
  by_cases e0 : n = 0
  · rw [if_pos e0, if_pos e0]
    exact ⟨rfl, h, fun q => absurd e0 q⟩
  · rw [if_neg e0, if_neg e0]
    rcases jz_pick h.1 n with ⟨e1, e2⟩ | ⟨k, i, j, t, hk, hi, hj, rfl, e1, r1, e2, e3, r2, hs, e4⟩
    · rw [if_pos e1, if_pos e2]
      exact ⟨rfl, h, fun _ q => absurd e2 q⟩
    · have hP := h.1.2.1.1
      have k0 : ¬ k = 0 := by
        rintro rfl
        exact e0 rfl
      have a : u 15 i = nI k := by
        have := e4.2.1
        rw [(jc_row_some.mp r1).2] at this; exact this
      rw [if_neg (by rw [e1]; exact nI_m1 (by omega)), if_neg e2, e1, ix_nI (by omega), a]
      have y := jy_settle (jy_drop (jy_take h hk k0 hs.2.1))
      obtain ⟨d, o, hd, ho, p7, -⟩ := hP.2.2.2.1 k hk k0 hs.2.1
      have e21 := y.1.2.2.2.2.1.1
      generalize jc_settle (jc_gone (jc_takeOut u (nI k))) = w at y e21 ⊢
      generalize jm_settle (jm_mark (jm_tk v (nI k))) = x at y e21 ⊢
      refine ⟨e21, y, fun _ _ => ⟨d, by omega, ?_⟩⟩
      rw [ix_nI (by omega), h.1.2.2.2.1.2.2.2.2 k hk hs.2.1, p7]
