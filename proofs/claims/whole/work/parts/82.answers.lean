/-! content, detour, fault: only the answers change. -/
theorem jz_S_an {K : Nat} {u v w x : js_S} (h : jz_S K u v) (hu : ∀ f j, 4 < f → w f j = u f j) (hv : ∀ f j, 3 < f → x f j = v f j) (ha : jz_ans w x) (hS : jc_Sh w) (hM : jm_Sh x) : jz_S K w x := by
  obtain ⟨a1, a2, a3, a4, a5, a6, a7⟩ := h
  refine ⟨a1, jz_I_eq a2 (fun f j h1 _ => hu f j (by omega)) (hu 21 0 (by decide)) hS, ha, jp_X_equ (jp_X_eq a4 (fun f i h1 _ => hv f i (by omega))) (fun f j h1 _ => hu f j (by omega)), ?_, fun n hn => ?_, hM⟩
  · unfold jz_sc
    rw [hu 21 0 (by decide), hu 22 0 (by decide), hu 23 0 (by decide), hu 24 0 (by decide), hv 21 0 (by decide), hv 22 0 (by decide), hv 23 0 (by decide), hv 24 0 (by decide)]
    exact a5
  · rw [hv 17 n (by decide), hv 21 0 (by decide), jp_sn_eq (u := u) (fun f j h1 _ => hu f j (by omega))]
    exact a6 n hn
theorem jm_btw_i {x a b : Int32} : jm_btw x a b = 0 ↔ ¬ (a.toInt ≤ x.toInt ∧ x.toInt ≤ b.toInt) := by
  unfold jm_btw
  by_cases h : x < a
  · rw [if_pos h]
    have := Int32.lt_iff_toInt_lt.mp h
    exact ⟨fun _ => by omega, fun _ => rfl⟩
  · rw [if_neg h]
    have h1 : ¬ x.toInt < a.toInt := fun q => h (Int32.lt_iff_toInt_lt.mpr q)
    by_cases h2 : b < x
    · rw [if_pos h2]
      have := Int32.lt_iff_toInt_lt.mp h2
      exact ⟨fun _ => by omega, fun _ => rfl⟩
    · rw [if_neg h2]
      have h3 : ¬ b.toInt < x.toInt := fun q => h2 (Int32.lt_iff_toInt_lt.mpr q)
      exact ⟨fun q => absurd q (by decide), fun q => absurd ⟨by omega, by omega⟩ q⟩
theorem jz_page {x : Int32} : jc_isPage x = 0 ↔ jm_btw x 0 31 = 0 := by
  have e : jc_isPage x = jm_btw x 0 31 := by
    unfold jc_isPage jm_btw
    have : (32 : Int32) ≤ x ↔ (31 : Int32) < x := by
      rw [Int32.le_iff_toInt_le, Int32.lt_iff_toInt_lt]
      have a : (32 : Int32).toInt = 32 := by decide
      have b : (31 : Int32).toInt = 31 := by decide
      omega
    simp only [this]
  rw [e]
theorem jz_isUrl {x : Int32} : jc_isUrl x = 0 ↔ jm_btw x 0 255 = 0 := by
  have e : jc_isUrl x = jm_btw x 0 255 := by
    unfold jc_isUrl jm_btw
    have : (256 : Int32) ≤ x ↔ (255 : Int32) < x := by
      rw [Int32.le_iff_toInt_le, Int32.lt_iff_toInt_lt]
      have a : (256 : Int32).toInt = 256 := by decide
      have b : (255 : Int32).toInt = 255 := by decide
      omega
    simp only [this]
  rw [e]
theorem jz_isUB {x : Int32} : jc_isUB x = 0 ↔ jm_btw x (-1) 255 = 0 := by
  have a : (0 : Int32).toInt = 0 := by decide
  have b : (-1 : Int32).toInt = -1 := by decide
  unfold jc_isUB
  by_cases h : x = -1
  · rw [if_pos h, h]
    decide
  · rw [if_neg h]
    have h1 : ¬ x.toInt = -1 := fun q => h (Int32.toInt_inj.mp (q.trans b.symm))
    have e : jm_btw x 0 255 = 0 ↔ jm_btw x (-1) 255 = 0 := by
      rw [jm_btw_i, jm_btw_i, a, b]
      omega
    by_cases h2 : jc_isUrl x = 0
    · rw [if_pos h2]
      exact ⟨fun _ => e.mp (jz_isUrl.mp h2), fun _ => rfl⟩
    · rw [if_neg h2]
      exact ⟨fun q => absurd q (by decide), fun q => absurd (jz_isUrl.mpr (e.mpr q)) h2⟩
theorem jz_isFC {x : Int32} : jc_isFC x = 0 ↔ jm_btw x (-2) 255 = 0 := by
  have a : (-2 : Int32).toInt = -2 := by decide
  have b : (-1 : Int32).toInt = -1 := by decide
  unfold jc_isFC
  by_cases h : x = -2
  · rw [if_pos h, h]
    decide
  · rw [if_neg h]
    have h1 : ¬ x.toInt = -2 := fun q => h (Int32.toInt_inj.mp (q.trans a.symm))
    have e : jm_btw x (-1) 255 = 0 ↔ jm_btw x (-2) 255 = 0 := by
      rw [jm_btw_i, jm_btw_i, a, b]
      omega
    by_cases h2 : jc_isUB x = 0
    · rw [if_pos h2]
      exact ⟨fun _ => e.mp (jz_isUB.mp h2), fun _ => rfl⟩
    · rw [if_neg h2]
      exact ⟨fun q => absurd q (by decide), fun q => absurd (jz_isUB.mpr (e.mpr q)) h2⟩
theorem jz_fc {x : Int32} (h : ¬ jm_btw x (-2) 255 = 0) : x = -2 ∨ jq 256 x := by
  have a : (-2 : Int32).toInt = -2 := by decide
  have b : (-1 : Int32).toInt = -1 := by decide
  by_cases e : x = -2
  · exact Or.inl e
  · refine Or.inr (jm_btw_ub (fun q => h ?_))
    have h1 : ¬ x.toInt = -2 := fun q => e (Int32.toInt_inj.mp (q.trans a.symm))
    rw [jm_btw_i, b] at q
    rw [jm_btw_i, a]
    omega
theorem jm_Sh_ans {v x : js_S} (h : jm_Sh v) (he : ∀ f j, 3 < f → x f j = v f j) (ha : ∀ i, i < 32 → (x 0 i = 1 → ∃ j, j < 256 ∧ x 1 i = nI j) ∧ (x 1 i = -2 ∨ jq 256 (x 1 i)) ∧ (x 2 i = -2 ∨ jq 256 (x 2 i))) : jm_Sh x := by
  refine ⟨fun i hi => ?_, ha⟩
  rw [he 4 i (by decide), he 8 i (by decide), he 13 i (by decide), he 14 i (by decide), he 16 i (by decide)]
  exact h.1 i hi
theorem jz_content {K : Nat} {u v : js_S} (h : jz_S K u v) (page a b strict : Int32) : (jc_content u page a b strict).1 = (jm_content v page a b strict).1 ∧ jz_S K (jc_content u page a b strict).2 (jm_content v page a b strict).2 := by
  have c : (jc_isPage page = 0 ∨ jc_isFC a = 0 ∨ jc_isFC b = 0) ↔ (jm_btw page 0 31 = 0 ∨ jm_btw a (-2) 255 = 0 ∨ jm_btw b (-2) 255 = 0) := by
    rw [jz_page, jz_isFC, jz_isFC]
  unfold jc_content jm_content
  by_cases q : (jm_btw page 0 31 = 0 ∨ jm_btw a (-2) 255 = 0 ∨ jm_btw b (-2) 255 = 0)
  · rw [if_pos q, if_pos (c.mpr q)]
    exact ⟨rfl, h⟩
  · rw [if_neg q, if_neg (fun z => q (c.mp z))]
    refine ⟨rfl, ?_⟩
    dsimp only
    obtain ⟨p, hp, rfl⟩ := jm_btw_31 (fun z => q (Or.inl z))
    have fa := jz_fc (fun z => q (Or.inr (Or.inl z)))
    have fb := jz_fc (fun z => q (Or.inr (Or.inr z)))
    rw [ix_nI (by omega)]
    have hS := h.2.1.2.2.2.2.2.1
    have hM := h.2.2.2.2.2.2
    refine jz_S_an h (fun f j hf => ?_) (fun f j hf => ?_) (fun i hi => ?_) (jc_Sh_3 (jc_Sh_2 (jc_Sh_1 (jc_Sh_0 hS (by decide)) fa) fb)) (jm_Sh_ans hM (fun f j hf => ?_) (fun i hi => ?_))
    · rw [js_up_f (by omega), js_up_f (by omega), js_up_f (by omega), js_up_f (by omega)]
    · rw [js_up_f (by omega), js_up_f (by omega), js_up_f (by omega), js_up_f (by omega)]
    · by_cases e : i = p
      · subst e
        simp [js_up, show nI 0 = (0 : Int32) from rfl]
      · simp only [js_up_i e]
        exact h.2.2.1 i hi
    · rw [js_up_f (by omega), js_up_f (by omega), js_up_f (by omega), js_up_f (by omega)]
    · by_cases e : i = p
      · subst e
        simp [js_up]
        exact ⟨fa, fb⟩
      · simp only [js_up_i e]
        exact hM.2 i hi
theorem jz_detour {K : Nat} {u v : js_S} (h : jz_S K u v) (page url : Int32) : (jc_detour u page url).1 = (jm_detour v page url).1 ∧ jz_S K (jc_detour u page url).2 (jm_detour v page url).2 := by
  have c : (jc_isPage page = 0 ∨ jc_isUrl url = 0) ↔ (jm_btw page 0 31 = 0 ∨ jm_btw url 0 255 = 0) := by
    rw [jz_page, jz_isUrl]
  unfold jc_detour jm_detour
  by_cases q : (jm_btw page 0 31 = 0 ∨ jm_btw url 0 255 = 0)
  · rw [if_pos q, if_pos (c.mpr q)]
    exact ⟨rfl, h⟩
  · rw [if_neg q, if_neg (fun z => q (c.mp z))]
    refine ⟨rfl, ?_⟩
    dsimp only
    obtain ⟨p, hp, rfl⟩ := jm_btw_31 (fun z => q (Or.inl z))
    obtain ⟨j, hj, rfl⟩ := jm_btw_ex 255 (by decide) (fun z => q (Or.inr z))
    rw [ix_nI (by omega)]
    have hS := h.2.1.2.2.2.2.2.1
    have hM := h.2.2.2.2.2.2
    refine jz_S_an h (fun f j hf => ?_) (fun f j hf => ?_) (fun i hi => ?_) (jc_Sh_4 (jc_Sh_0 hS (by decide)) hj) (jm_Sh_ans hM (fun f j hf => ?_) (fun i hi => ?_))
    · rw [js_up_f (by omega), js_up_f (by omega)]
    · rw [js_up_f (by omega), js_up_f (by omega)]
    · by_cases e : i = p
      · subst e
        simp [js_up, show nI 1 = (1 : Int32) from rfl]
      · simp only [js_up_i e]
        exact h.2.2.1 i hi
    · rw [js_up_f (by omega), js_up_f (by omega)]
    · by_cases e : i = p
      · subst e
        have := hM.2 i hi
        simp [js_up]
        exact ⟨⟨j, by omega, rfl⟩, Or.inr (jq_nI (by omega)), this.2.2⟩
      · simp only [js_up_i e]
        exact hM.2 i hi
theorem jz_fault {K : Nat} {u v : js_S} (h : jz_S K u v) (page : Int32) : (jc_fault u page).1 = (jm_fault v page).1 ∧ jz_S K (jc_fault u page).2 (jm_fault v page).2 := by
  unfold jc_fault jm_fault
  by_cases q : jm_btw page 0 31 = 0
  · rw [if_pos q, if_pos (jz_page.mpr q)]
    exact ⟨rfl, h⟩
  · rw [if_neg q, if_neg (fun z => q (jz_page.mp z))]
    refine ⟨rfl, ?_⟩
    dsimp only
    obtain ⟨p, hp, rfl⟩ := jm_btw_31 q
    rw [ix_nI (by omega)]
    have hS := h.2.1.2.2.2.2.2.1
    have hM := h.2.2.2.2.2.2
    refine jz_S_an h (fun f j hf => ?_) (fun f j hf => ?_) (fun i hi => ?_) (jc_Sh_0 hS (by decide)) (jm_Sh_ans hM (fun f j hf => ?_) (fun i hi => ?_))
    · rw [js_up_f (by omega)]
    · rw [js_up_f (by omega)]
    · by_cases e : i = p
      · subst e
        simp [js_up, show nI 2 = (2 : Int32) from rfl]
      · simp only [js_up_i e]
        exact h.2.2.1 i hi
    · rw [js_up_f (by omega)]
    · by_cases e : i = p
      · subst e
        have := hM.2 i hi
        simp [js_up]
        exact this.2
      · simp only [js_up_i e]
        exact hM.2 i hi
