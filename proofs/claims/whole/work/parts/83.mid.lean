/-! The relation inside a call, ahead of the drop and after it; the close of a call. -/
def jy_U (u : js_S) : Prop := ∀ d, d < 40 → ¬ u 8 d = 0 → ∀ n, n < 40 → u 12 d = nI n → ¬ u 13 d = nI n
def jm_Q (v : js_S) : Prop := ∀ i, i < 48 → jq 256 (v 6 i)
def jy_b (K : Nat) (u : js_S) : Prop := ∀ t, t ∈ jc_es u → jq 256 t.2.2.1 ∧ ∃ s, s ≤ K ∧ t.2.1 = nI s
/-- birth, of the frames whose document is held -/
def jy_B (u : js_S) : Prop := ∀ n, n < 40 → ¬ n = 0 → ¬ u 5 n = 0 → (∃ t, t ∈ jc_es u ∧ t.2.2.2.2 = u 7 n) → ∃ t, t ∈ jc_es u ∧ t.1 = nI n ∧ ∀ t', t' ∈ jc_es u → t'.2.2.2.2 = u 7 n → t.2.1 ≤ t'.2.1
def jy_M (K : Nat) (u v : js_S) : Prop := K < 2 ^ 31 ∧ jp_P u ∧ jy_B u ∧ jp_z u ∧ jp_k u ∧ jy_U u ∧ jc_Sh u ∧ jy_b K u ∧ (∃ k, k ≤ K ∧ u 21 0 = nI k) ∧ jz_ans u v ∧ jp_R u v ∧ jz_sc u v ∧ jm_Sh v ∧ jm_Q v
def jy_S (K : Nat) (u v : js_S) : Prop := jy_M K u v ∧ jp_A u ∧ jp_X u v
def jz_T (K : Nat) (u v : js_S) : Prop := jz_S K u v ∧ jy_U u ∧ jm_Q v
theorem jz_T_y {K : Nat} {u v : js_S} (h : jz_T K u v) : jy_S K u v := by
  obtain ⟨⟨a1, ⟨b1, b2, b3, b4, b5, b6, b7, b8, b9⟩, a3, a4, a5, a6, a7⟩, hU, hQ⟩ := h
  exact ⟨⟨a1, b1, fun n h1 h2 h3 _ => b3 n h1 h2 h3, b4, b5, hU, b6, b7, b8, a3, jp_XR a4, a5, a7, hQ⟩, b2, a4⟩
theorem jy_B_full {u : js_S} (hP : jp_P u) (hA : jp_A u) (h : jy_B u) : jp_B u := by
  intro n hn h0 h5
  obtain ⟨d, o, hd, ho, p7, p8, -⟩ := hP.2.2.2.1 n hn h0 h5
  obtain ⟨t, ht, e⟩ := hA.2 d hd p8
  exact h n hn h0 h5 ⟨t, ht, e.trans p7.symm⟩
theorem jy_b8 {u : js_S} (hP : jp_P u) {d : Nat} (hd : d < 40) (h : ¬ jc_gone u 8 d = 0) : ¬ u 8 d = 0 := by
  obtain ⟨t, ht, ha, hd2⟩ := ((jc_gone_ok hP).2.1 d hd).mp h
  obtain ⟨o, d', ho, hd', p1, p2, p8, p9, p6⟩ := hP.2.2.1 t ht
  have e1 : d' = d := jn_inj (by omega) (by omega) (p2.symm.trans hd2)
  subst e1
  exact p8
theorem jy_b5 {u : js_S} (hP : jp_P u) {n : Nat} (hn : n < 40) (h : ¬ jc_gone u 5 n = 0) : ¬ u 5 n = 0 ∧ jp_al u n := by
  have a := ((jc_gone_ok hP).1 n hn).mp h
  rcases jp_al_c a with rfl | q
  · exact ⟨hP.1.1, a⟩
  · exact ⟨q.2.1, a⟩
theorem jy_drop {K : Nat} {u v : js_S} (h : jy_M K u v) : jy_S K (jc_gone u) (jm_mark v) := by
  obtain ⟨a1, hP, hB, hz, hk, hU, hS, hb, hw, ha, hR, hsc, hM, hQ⟩ := h
  have hX := jp_drop_X hP hS hR
  have mem := fun t => jc_gone_mem (t := t) hP
  have f : ∀ g i : Nat, ¬ g = 5 → ¬ g = 8 → ¬ g = 14 → jc_gone u g i = u g i := fun g i h1 h2 h3 => jc_gone_f h1 h2 h3 i
  have m : ∀ g i : Nat, ¬ g = 9 → ¬ g = 10 → ¬ g = 15 → ¬ g = 17 → ¬ g = 19 → ¬ g = 20 → jm_mark v g i = v g i := fun g i h1 h2 h3 h4 h5 h6 => jm_mark_f h1 h2 h3 h4 h5 h6
  refine ⟨⟨a1, jp_drop_P hP, fun n hn h0 h5 _ => ?_, ⟨?_, fun t ht => hz.2 t ((mem t).mp ht).1⟩, ?_, fun d hd h8 n hn => ?_, jc_Sh_gone hS, fun t ht => hb t ((mem t).mp ht).1, ?_, jz_ans_eq ha (fun g j hg => f g j (by omega) (by omega) (by omega)) (fun g j hg => m g j (by omega) (by omega) (by omega) (by omega) (by omega) (by omega)), jp_XR hX, ?_, jm_Sh_mark hM, fun i hi => ?_⟩, jp_drop_A hP, hX⟩
  · obtain ⟨n5, na⟩ := jy_b5 hP hn h5
    have hd : ∃ t, t ∈ jc_es u ∧ t.2.2.2.2 = u 7 n := by
      rcases jp_al_c na with q | ⟨-, -, t, ht, -, e⟩
      · exact absurd q h0
      · exact ⟨t, ht, e⟩
    obtain ⟨t, ht, h1, h2⟩ := hB n hn h0 n5 hd
    refine ⟨t, (mem t).mpr ⟨ht, by rw [h1, ix_nI (by omega)]; exact na⟩, h1, fun t' ht' hd => h2 t' ((mem t').mp ht').1 ?_⟩
    rw [f 7 n (by decide) (by decide) (by decide)] at hd
    exact hd
  · obtain ⟨t, ht, h1, h2⟩ := hz.1
    exact ⟨t, (mem t).mpr ⟨ht, by rw [h1, ix_nI (by omega)]; exact jp_al0⟩, h1, h2⟩
  · unfold jp_k
    rw [(jc_gone_ok hP).2.2]
    exact List.Pairwise.sublist (List.Sublist.map je_k List.filter_sublist) hk
  · rw [f 12 d (by decide) (by decide) (by decide), f 13 d (by decide) (by decide) (by decide)]
    exact hU d hd (jy_b8 hP hd h8) n hn
  · rw [f 21 0 (by decide) (by decide) (by decide)]; exact hw
  · unfold jz_sc
    rw [f 21 0 (by decide) (by decide) (by decide), f 22 0 (by decide) (by decide) (by decide), f 23 0 (by decide) (by decide) (by decide), f 24 0 (by decide) (by decide) (by decide), jm_mark_21, m 22 0 (by decide) (by decide) (by decide) (by decide) (by decide) (by decide), m 23 0 (by decide) (by decide) (by decide) (by decide) (by decide) (by decide), m 24 0 (by decide) (by decide) (by decide) (by decide) (by decide) (by decide)]
    exact hsc
  · rw [m 6 i (by decide) (by decide) (by decide) (by decide) (by decide) (by decide)]; exact hQ i hi
theorem jy_close {K : Nat} {u w : js_S} (h : jy_S K u w) (hu : ∃ t, t ∈ jc_es u ∧ t.2.1 = u 21 0) : jz_T K u (jm_mark w) := by
  obtain ⟨⟨a1, hP, hB, hz, hk, hU, hS, hb, hn, ha, hR, hsc, hM, hQ⟩, hA, hX⟩ := h
  have hB := jy_B_full hP hA hB
  have X1 := jp_still hP hA hS hX
  have m : ∀ g i : Nat, ¬ g = 9 → ¬ g = 10 → ¬ g = 15 → ¬ g = 17 → ¬ g = 19 → ¬ g = 20 → jm_mark w g i = w g i := fun g i h1 h2 h3 h4 h5 h6 => jm_mark_f h1 h2 h3 h4 h5 h6
  refine ⟨⟨a1, ⟨hP, hA, hB, hz, hk, hS, hb, hn, hu⟩, jz_ans_eq ha (fun _ _ _ => rfl) (fun g j hg => m g j (by omega) (by omega) (by omega) (by omega) (by omega) (by omega)), X1, ?_, fun n hn2 => ?_, jm_Sh_mark hM⟩, hU, fun i hi => ?_⟩
  · unfold jz_sc
    rw [jm_mark_21, m 22 0 (by decide) (by decide) (by decide) (by decide) (by decide) (by decide), m 23 0 (by decide) (by decide) (by decide) (by decide) (by decide) (by decide), m 24 0 (by decide) (by decide) (by decide) (by decide) (by decide) (by decide)]
    exact hsc
  · rw [jm_mark_21]
    refine jm_mark_shown hP hA hB hz hk hS X1 ?_ hn2
    obtain ⟨k, hk2, e⟩ := hn
    rw [← hsc.1, e]
    exact Int32.not_lt.mp (nI_pos (by omega))
  · rw [m 6 i (by decide) (by decide) (by decide) (by decide) (by decide) (by decide)]; exact hQ i hi
theorem jy_S_eq {K L : Nat} {u v w x : js_S} (h : jy_S K u v) (hu : ∀ f j, f ≤ 19 → w f j = u f j) (hv : ∀ f j, f ≤ 16 → x f j = v f j) (hL : K ≤ L) (hL2 : L < 2 ^ 31) (hn : ∃ k, k ≤ L ∧ w 21 0 = nI k) (hsc : jz_sc w x) : jy_S L w x := by
  obtain ⟨⟨a1, hP, hB, hz, hk, hU, hS, hb, -, ha, hR, -, hM, hQ⟩, hA, hX⟩ := h
  have es : jc_es w = jc_es u := jc_es_eq (fun f i h1 h2 => hu f i h2)
  have hS' : jc_Sh w := jc_Sh_eq hS (fun i => hu 0 i (by decide)) (fun i => hu 4 i (by decide)) (fun i => hu 1 i (by decide)) (fun i => hu 2 i (by decide)) (fun i => hu 7 i (by decide)) (fun i => hu 9 i (by decide)) (fun i => hu 12 i (by decide)) (fun i => hu 13 i (by decide)) (fun i => hu 15 i (by decide)) (fun i => hu 19 i (by decide)) (fun i => hu 14 i (by decide))
  have hM' : jm_Sh x := jm_Sh_eq hM (fun i => hv 4 i (by decide)) (fun i => hv 8 i (by decide)) (fun i => hv 13 i (by decide)) (fun i => hv 14 i (by decide)) (fun i => hv 16 i (by decide)) (fun i => hv 0 i (by decide)) (fun i => hv 1 i (by decide)) (fun i => hv 2 i (by decide))
  have hX' : jp_X w x := jp_X_equ (jp_X_eq hX (fun f i _ h2 => hv f i h2)) (fun f j _ h2 => hu f j h2)
  have e5 : ∀ j, w 5 j = u 5 j := fun j => hu 5 j (by decide)
  have e6 : ∀ j, w 6 j = u 6 j := fun j => hu 6 j (by decide)
  have e7 : ∀ j, w 7 j = u 7 j := fun j => hu 7 j (by decide)
  have e8 : ∀ j, w 8 j = u 8 j := fun j => hu 8 j (by decide)
  have e9 : ∀ j, w 9 j = u 9 j := fun j => hu 9 j (by decide)
  have e12 : ∀ j, w 12 j = u 12 j := fun j => hu 12 j (by decide)
  have e13 : ∀ j, w 13 j = u 13 j := fun j => hu 13 j (by decide)
  refine ⟨⟨hL2, ?_, ?_, ?_, ?_, ?_, hS', fun t ht => ?_, hn, jz_ans_eq ha (fun f j h => hu f j (by omega)) (fun f j h => hv f j (by omega)), jp_XR hX', hsc, hM', fun i hi => by rw [hv 6 i (by decide)]; exact hQ i hi⟩, ?_, hX'⟩
  · unfold jp_P jp_W jp_L jp_E jp_N jp_D at hP ⊢
    simp only [es, e5, e6, e7, e8, e9, e12, e13]; exact hP
  · unfold jy_B at hB ⊢
    simp only [es, e5, e7]; exact hB
  · unfold jp_z at hz ⊢
    simp only [es]; exact hz
  · unfold jp_k at hk ⊢
    simp only [es]; exact hk
  · unfold jy_U at hU ⊢
    simp only [e8, e12, e13]; exact hU
  · rw [es] at ht
    obtain ⟨q1, s, q2, q3⟩ := hb t ht
    exact ⟨q1, s, by omega, q3⟩
  · unfold jp_A at hA ⊢
    simp only [es, e5, e8]; exact hA
theorem jy_settle {K : Nat} {u v : js_S} (h : jy_S K u v) : jz_T K (jc_settle u) (jm_settle v) := by
  have h' := h
  obtain ⟨⟨a1, hP, hB, hz, hk, hU, hS, hb, ⟨k, hk2, e⟩, ha, hR, hsc, hM, hQ⟩, hA, hX⟩ := h'
  have ev : v 21 0 = nI k := hsc.1.symm.trans e
  obtain ⟨r, hr, e1, e2, t, ht, e3⟩ := jz_settle (K := K) (k := k) hX.1 hz (fun t ht => (hb t ht).2) a1 (by omega) e ev
  have st := (jm_st_ok k (v := v) (by omega) ev).1
  have e4 : ix (v 21 0) = k := by rw [ev, ix_nI (by omega)]
  unfold jc_settle jm_settle
  rw [e1]
  rw [e4] at e2 ⊢
  have y : jy_S K (js_up u 21 0 (nI r)) (jm_st v k) := by
    refine jy_S_eq h (fun f j hf => js_up_f (by omega)) (fun f j hf => st f j (by omega)) (Nat.le_refl _) a1 ⟨r, by omega, js_up_s _ _ _ _⟩ ⟨?_, ?_, ?_, ?_⟩
    · rw [js_up_s, e2]
    · rw [js_up_f (by decide), st 23 0 (by decide)]; exact hsc.2.1
    · rw [js_up_f (by decide), st 24 0 (by decide)]; exact hsc.2.2.1
    · rw [js_up_f (by decide), st 22 0 (by decide)]; exact hsc.2.2.2
  refine jy_close y ⟨t, ?_, ?_⟩
  · rw [jc_es_eq (u := u) (fun f i h1 h2 => js_up_f (by omega))]; exact ht
  · rw [js_up_s]; exact e3
/-! cutting off the later entries -/
theorem jy_cut {K : Nat} {u v : js_S} (h : jz_T K u v) : jy_M K (jc_dl u 40) (jm_co v 48) := by
  have h' := jz_T_y h
  obtain ⟨⟨a1, hP, hB, hz, hk, hU, hS, hb, hw, ha, hR, hsc, hM, hQ⟩, hA, hX⟩ := h'
  have c : ∀ g i : Nat, ¬ g = 14 → jc_dl u 40 g i = u g i := fun g i hg => jc_dl_f hg i 40
  have d : ∀ g i : Nat, ¬ g = 9 → jm_co v 48 g i = v g i := fun g i hg => jm_co_f hg 48
  have es := jc_dl_es (u := u)
  have mem : ∀ t, t ∈ jc_es (jc_dl u 40) ↔ t ∈ jc_es u ∧ t.2.1 ≤ u 21 0 := by
    intro t
    rw [es, List.mem_filter]
    simp
  have n0 : 0 ≤ u 21 0 := jz_now h.1
  refine ⟨a1, ⟨?_, fun n hn => ?_, fun t ht => ?_, fun n hn h0 h5 => ?_, fun x hx h8 n hn hl => ?_⟩, fun n hn h0 h5 hd => ?_, ⟨?_, fun t ht => hz.2 t ((mem t).mp ht).1⟩, ?_, fun x hx h8 n hn => ?_, jc_Sh_dl hS 40, fun t ht => hb t ((mem t).mp ht).1, ?_, jz_ans_eq ha (fun g j hg => c g j (by omega)) (fun g j hg => d g j (by omega)), ⟨?_, fun x hx h8 => ?_, fun n hn h5 => ?_⟩, ?_, jm_Sh_co hM 48, fun i hi => ?_⟩
  · unfold jp_W
    rw [c 5 0 (by decide), c 6 0 (by decide), c 7 0 (by decide)]; exact hP.1
  · rw [c 6 n (by decide)]; exact hP.2.1 n hn
  · obtain ⟨o, x, ho, hx, p1, p2, p8, p9, p6⟩ := hP.2.2.1 t ((mem t).mp ht).1
    refine ⟨o, x, ho, hx, p1, p2, ?_, ?_, ?_⟩
    · rw [c 8 x (by decide)]; exact p8
    · rw [c 9 x (by decide)]; exact p9
    · rw [c 6 o (by decide)]; exact p6
  · rw [c 5 n (by decide)] at h5
    obtain ⟨x, o, hx, ho, p7, p8, p9, p6, pl⟩ := hP.2.2.2.1 n hn h0 h5
    refine ⟨x, o, hx, ho, ?_, ?_, ?_, ?_, ?_⟩
    · rw [c 7 n (by decide)]; exact p7
    · rw [c 8 x (by decide)]; exact p8
    · rw [c 9 x (by decide)]; exact p9
    · rw [c 6 n (by decide), c 6 o (by decide)]; exact p6
    · rw [c 12 x (by decide), c 13 x (by decide)]; exact pl
  · rw [c 8 x (by decide)] at h8
    rw [c 12 x (by decide), c 13 x (by decide)] at hl
    rw [c 5 n (by decide), c 7 n (by decide)]
    exact hP.2.2.2.2 x hx h8 n hn hl
  · rw [c 5 n (by decide)] at h5
    rw [c 7 n (by decide)] at hd ⊢
    obtain ⟨t0, ht0, hd0⟩ := hd
    have q0 := (mem t0).mp ht0
    obtain ⟨t, ht, h1, h2⟩ := hB n hn h0 h5 ⟨t0, q0.1, hd0⟩
    exact ⟨t, (mem t).mpr ⟨ht, Int32.le_trans (h2 t0 q0.1 hd0) q0.2⟩, h1, fun t' ht' e => h2 t' ((mem t').mp ht').1 e⟩
  · obtain ⟨t, ht, h1, h2⟩ := hz.1
    exact ⟨t, (mem t).mpr ⟨ht, by rw [h2]; exact n0⟩, h1, h2⟩
  · unfold jp_k
    rw [es]
    exact List.Pairwise.sublist (List.Sublist.map je_k List.filter_sublist) hk
  · rw [c 8 x (by decide)] at h8
    rw [c 12 x (by decide), c 13 x (by decide)]
    exact hU x hx h8 n hn
  · rw [c 21 0 (by decide)]; exact hw
  · rw [es, jm_co_es, ← hsc.1]
    exact hX.1.filter _
  · rw [c 8 x (by decide)] at h8
    rw [d 10 x (by decide), d 11 x (by decide), d 12 x (by decide), d 13 x (by decide), d 14 x (by decide), c 10 x (by decide), c 11 x (by decide), c 12 x (by decide), c 13 x (by decide)]
    exact hR.2.1 x hx h8
  · rw [c 5 n (by decide)] at h5
    rw [d 15 n (by decide), d 16 n (by decide), c 7 n (by decide)]
    exact hR.2.2 n hn h5
  · unfold jz_sc
    rw [c 21 0 (by decide), c 22 0 (by decide), c 23 0 (by decide), c 24 0 (by decide), d 21 0 (by decide), d 22 0 (by decide), d 23 0 (by decide), d 24 0 (by decide)]
    exact hsc
  · rw [d 6 i (by decide)]; exact hQ i hi
/-- what is shown is alive also when only the entries up to the present step stay -/
theorem jy_sn_al {u w : js_S} (hP : jp_P u) (hA : jp_A u) {st : Int32} (h5 : ∀ n, w 5 n = u 5 n) (h7 : ∀ n, w 7 n = u 7 n) (hm : ∀ t, t ∈ jc_es u → t.2.1 ≤ st → t ∈ jc_es w) {n : Nat} (hs : jp_sn u st n) : jp_al w n := by
  have stp : ∀ n, jp_sn u st n → n = 0 ∨ ∃ m, m < 40 ∧ jp_sn u st m ∧ u 6 n = u 6 m + 1 ∧ (jp_al w m → jp_al w n) := by
    intro n hs
    rcases jp_sn_c hP hA hs with q | ⟨m, d, t, hm2, hd, sm, ht, hd2, e7, h8, h6, hm0, hl⟩
    · exact Or.inl q
    · refine Or.inr ⟨m, hm2, sm, h6, fun ha => jp_als hs.1 (by rw [h5]; exact hs.2.1) (hm t ht.1 ht.2.2.1) ?_ ?_⟩
      · rw [ht.2.1, ix_nI (by omega)]; exact ha
      · rw [h7, hd2, e7]
  rcases stp n hs with rfl | ⟨m, hm1, sm, l1, a1⟩
  · exact jp_al0
  apply a1
  rcases stp m sm with rfl | ⟨m2, hm2, sm2, l2, a2⟩
  · exact jp_al0
  apply a2
  rcases stp m2 sm2 with rfl | ⟨m3, hm3, sm3, l3, a3⟩
  · exact jp_al0
  exfalso
  rcases jp_lv (hP.2.1 n hs.1) (hP.2.1 m hm1) l1 with q | q
  · rcases jp_lv (hP.2.1 m hm1) (hP.2.1 m2 hm2) l2 with r | r
    · exact absurd (q.1.symm.trans r.2) (by decide)
    · exact absurd (q.1.symm.trans r.2) (by decide)
  · rcases jp_lv (hP.2.1 m hm1) (hP.2.1 m2 hm2) l2 with r | r
    · rcases jp_lv (hP.2.1 m2 hm2) (hP.2.1 m3 hm3) l3 with z | z
      · exact absurd (r.1.symm.trans z.2) (by decide)
      · exact absurd (r.1.symm.trans z.2) (by decide)
    · exact absurd (q.1.symm.trans r.2) (by decide)
/-- after the cut: the relation; no later entry; the shown entry is still there -/
theorem jy_later {K : Nat} {u v : js_S} (h : jz_T K u v) : jy_S K (jc_dropLater u) (jm_cutOff v) ∧ (∀ t, t ∈ jc_es (jc_dropLater u) → t.2.1 ≤ u 21 0) ∧ ∀ n t, jp_sn u (u 21 0) n → je_top (jc_es u) (nI n) (u 21 0) t → t ∈ jc_es (jc_dropLater u) := by
  have c := jy_cut h
  have hP := h.1.2.1.1
  have hA := h.1.2.1.2.1
  have mem : ∀ t, t ∈ jc_es (jc_dl u 40) ↔ t ∈ jc_es u ∧ t.2.1 ≤ u 21 0 := by
    intro t
    rw [jc_dl_es, List.mem_filter]
    simp
  refine ⟨jy_drop c, fun t ht => ((mem t).mp ((jc_gone_mem c.2.1).mp ht).1).2, fun n t hs ht => (jc_gone_mem c.2.1).mpr ⟨(mem t).mpr ⟨ht.1, ht.2.2.1⟩, ?_⟩⟩
  rw [ht.2.1, ix_nI (by have := hs.1; omega)]
  exact jy_sn_al hP hA (fun n => jc_dl_f (by decide) n 40) (fun n => jc_dl_f (by decide) n 40) (fun t h1 h2 => (mem t).mpr ⟨h1, h2⟩) hs
