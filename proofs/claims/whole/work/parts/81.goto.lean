/-! go: the present step is set, and the moves are counted. -/
theorem jm_mark_9 {u v : js_S} (hP : jp_P u) (hS : jc_Sh u) (hR : jp_R u v) {i : Nat} (hi : i < 48) (h9 : ¬ v 9 i = 0) : ¬ jm_mark v 9 i = 0 ↔ jp_al u (ix (v 4 i)) := by
  obtain ⟨q3, k20, k19⟩ := jp_keep hP hS hR
  have m := jm_row_in hR hi h9
  have hl : ix (v 4 i) < 40 := jp_ix hP m
  unfold jm_mark
  rw [jm_m3f3 (by decide), (jm_m2_all 48).2.2, q3 9 i (by decide) (by decide) (by decide), q3 4 i (by decide) (by decide) (by decide), k20 _ (by omega)]
  exact ⟨fun q => q.2 hi, fun q => ⟨h9, fun _ => q⟩⟩
theorem jm_mark_row {u v : js_S} (hP : jp_P u) (hA : jp_A u) (hS : jc_Sh u) (hX : jp_X u v) {i : Nat} {t : je_T} (hi : i < 48) (h : jm_row v i = some t) : jm_row (jm_mark v) i = some t := by
  have q := jm_row_some.mp h
  have m := jm_row_in (jp_XR hX) hi q.1
  refine jm_row_some.mpr ⟨(jm_mark_9 hP hS (jp_XR hX) hi q.1).mpr ?_, ?_⟩
  · exact jp_all hP hA (jp_ix hP m) (hA.1 _ m)
  · rw [q.2, jm_mark_f (by decide) (by decide) (by decide) (by decide) (by decide) (by decide), jm_mark_f (by decide) (by decide) (by decide) (by decide) (by decide) (by decide), jm_mark_f (by decide) (by decide) (by decide) (by decide) (by decide) (by decide), jm_mark_f (by decide) (by decide) (by decide) (by decide) (by decide) (by decide), jm_mark_f (by decide) (by decide) (by decide) (by decide) (by decide) (by decide)]
theorem jm_g1_f {v : js_S} {f i : Nat} (hf : ¬ f = 18) : ∀ k, jm_g1 v k f i = v f i
  | 0 => rfl
  | k + 1 => by rw [jm_g1, js_up_f hf, jm_g1_f hf k]
theorem jm_g1_v {v : js_S} {i : Nat} : ∀ k, i < k → jm_g1 v k 18 i = if v 17 i = 0 then -1 else jm_presentOf v (nI i)
  | 0, h => by omega
  | k + 1, h => by
    rw [jm_g1]
    by_cases e : i = k
    · subst e
      rw [js_up_s, jm_g1_f (by decide), jm_po_eq (v := v) (fun f j hf => jm_g1_f (by omega) i)]
    · rw [js_up_i e]; exact jm_g1_v k (by omega)
theorem jz_goto {K r : Nat} {u v w : js_S} (h : jz_S K u v) (hr : r ≤ K) (hu : ∃ t, t ∈ jc_es u ∧ t.2.1 = nI r) (hw : ∀ f i, ¬ f = 18 → w f i = v f i) (hSw : jm_Sh w) : jz_S K (js_up u 21 0 (nI r)) (jm_mark (js_up w 21 0 (nI r))) := by
  obtain ⟨a1, a2, a3, a4, a5, a6, a7⟩ := h
  have he : ∀ f j, 5 ≤ f → f ≤ 19 → js_up u 21 0 (nI r) f j = u f j := fun f j _ _ => js_up_f (by omega)
  have es : jc_es (js_up u 21 0 (nI r)) = jc_es u := jc_es_eq (fun f i h1 h2 => he f i (by omega) h2)
  obtain ⟨b1, b2, b3, b4, b5, b6, b7, b8, b9⟩ := a2
  have hX0 : jp_X u (js_up w 21 0 (nI r)) := jp_X_eq a4 (fun f i _ _ => (js_up_f (by omega)).trans (hw f i (by omega)))
  have hX1 := jp_still b1 b2 b6 hX0
  have hX2 := jp_X_equ hX1 he
  have hI : jz_I K (js_up u 21 0 (nI r)) := by
    have := jz_I_eq (K := K) (u := js_up u 21 0 (u 21 0)) (w := js_up u 21 0 (u 21 0)) (jz_I_eq (w := js_up u 21 0 (u 21 0)) ⟨b1, b2, b3, b4, b5, b6, b7, b8, b9⟩ (fun f j _ _ => js_up_f (by omega)) (js_up_s _ _ _ _) (jc_Sh_21 b6)) (fun _ _ _ _ => rfl) rfl (jc_Sh_21 b6)
    obtain ⟨c1, c2, c3, c4, c5, c6, c7, -, -⟩ := this
    have e2 : ∀ f j, 5 ≤ f → f ≤ 19 → js_up u 21 0 (nI r) f j = js_up u 21 0 (u 21 0) f j := fun f j _ _ => by rw [js_up_f (by omega), js_up_f (by omega)]
    have es2 : jc_es (js_up u 21 0 (nI r)) = jc_es (js_up u 21 0 (u 21 0)) := jc_es_eq (fun f i h1 h2 => e2 f i (by omega) h2)
    refine ⟨?_, ?_, ?_, ?_, ?_, jc_Sh_21 b6, ?_, ⟨r, hr, js_up_s _ _ _ _⟩, ?_⟩
    · unfold jp_P jp_W jp_L jp_E jp_N jp_D at b1 ⊢
      simp only [es, he 5 _ (by decide) (by decide), he 6 _ (by decide) (by decide), he 7 _ (by decide) (by decide), he 8 _ (by decide) (by decide), he 9 _ (by decide) (by decide), he 12 _ (by decide) (by decide), he 13 _ (by decide) (by decide)]; exact b1
    · unfold jp_A at b2 ⊢
      simp only [es, he 5 _ (by decide) (by decide), he 8 _ (by decide) (by decide)]; exact b2
    · unfold jp_B at b3 ⊢
      simp only [es, he 5 _ (by decide) (by decide), he 7 _ (by decide) (by decide)]; exact b3
    · unfold jp_z at b4 ⊢
      simp only [es]; exact b4
    · unfold jp_k at b5 ⊢
      simp only [es]; exact b5
    · simp only [es]; exact b7
    · simp only [es, js_up_s]; exact hu
  have h21 : jm_mark (js_up w 21 0 (nI r)) 21 0 = nI r := by rw [jm_mark_21, js_up_s]
  refine ⟨a1, hI, jz_ans_eq a3 (fun f j _ => js_up_f (by omega)) (fun f j _ => ?_), hX2, ?_, fun n hn => ?_, jm_Sh_mark (jm_Sh_21 hSw)⟩
  · rw [jm_mark_f (by omega) (by omega) (by omega) (by omega) (by omega) (by omega), js_up_f (by omega), hw f j (by omega)]
  · refine ⟨?_, ?_, ?_, ?_⟩
    · rw [js_up_s, h21]
    · rw [js_up_f (by decide), jm_mark_f (by decide) (by decide) (by decide) (by decide) (by decide) (by decide), js_up_f (by decide), hw 23 0 (by decide)]; exact a5.2.1
    · rw [js_up_f (by decide), jm_mark_f (by decide) (by decide) (by decide) (by decide) (by decide) (by decide), js_up_f (by decide), hw 24 0 (by decide)]; exact a5.2.2.1
    · rw [js_up_f (by decide), jm_mark_f (by decide) (by decide) (by decide) (by decide) (by decide) (by decide), js_up_f (by decide), hw 22 0 (by decide)]; exact a5.2.2.2
  · rw [h21, jp_sn_eq he, jm_mark_shown b1 b2 b3 b4 b5 b6 hX1 (by rw [js_up_s]; exact Int32.not_lt.mp (nI_pos (by omega))) hn, js_up_s]
/-- only the counters of moves differ -/
theorem jz_S_ph {K : Nat} {u v w x : js_S} (h : jz_S K u v) (hu : ∀ f j, ¬ f = 22 → ¬ f = 23 → w f j = u f j) (hv : ∀ f j, ¬ f = 23 → ¬ f = 24 → x f j = v f j) (e1 : w 22 0 = x 23 0) (e2 : w 23 0 = x 24 0) (hS : jc_Sh w) (hM : jm_Sh x) : jz_S K w x := by
  obtain ⟨a1, a2, a3, a4, a5, a6, a7⟩ := h
  refine ⟨a1, jz_I_eq a2 (fun f j _ _ => hu f j (by omega) (by omega)) (hu 21 0 (by decide) (by decide)) hS, jz_ans_eq a3 (fun f j _ => hu f j (by omega) (by omega)) (fun f j _ => hv f j (by omega) (by omega)), jp_X_equ (jp_X_eq a4 (fun f i _ _ => hv f i (by omega) (by omega))) (fun f j _ _ => hu f j (by omega) (by omega)), ⟨?_, e1, e2, ?_⟩, fun n hn => ?_, hM⟩
  · rw [hu 21 0 (by decide) (by decide), hv 21 0 (by decide) (by decide)]; exact a5.1
  · rw [hu 24 0 (by decide) (by decide), hv 22 0 (by decide) (by decide)]; exact a5.2.2.2
  · rw [hv 17 n (by decide) (by decide), hv 21 0 (by decide) (by decide), jp_sn_eq (u := u) (fun f j _ _ => hu f j (by omega) (by omega))]
    exact a6 n hn
theorem jg_r_eq {u w : js_S} {x : Int32} {a : Option je_T} (h : jg_r u x a) (he : ∀ f i, 14 ≤ f → f ≤ 19 → w f i = u f i) : jg_r w x a := by
  rcases h with h | ⟨i, t, hi, e, r, q⟩
  · exact Or.inl h
  · exact Or.inr ⟨i, t, hi, e, by rw [jc_row_eq (fun f h1 h2 => he f i h1 h2)]; exact r, q⟩
theorem jg_m_eq {u w : js_S} {x : Int32} {a : Option je_T} (h : jg_m u x a) (he : ∀ f i, 4 ≤ f → f ≤ 9 → w f i = u f i) : jg_m w x a := by
  rcases h with h | ⟨i, t, hi, e, r, q⟩
  · exact Or.inl h
  · exact Or.inr ⟨i, t, hi, e, by rw [jm_row_eq (fun f h1 h2 => he f i h1 h2)]; exact r, q⟩
/-- what is shown of one navigable, on both sides -/
theorem jz_rows {K : Nat} {u v : js_S} (h : jz_S K u v) {n : Nat} (hn : n < 40) : ∃ a, jg_r u (jc_shownEntry u (nI n) (u 21 0)) a ∧ jg_m v (if v 17 n = 0 then -1 else jm_presentOf v (nI n)) a := by
  have e0 := jm_isShown_ne (v := v) (n := n) (by omega)
  rcases jz_pick h (nI n) with ⟨e1, e2⟩ | ⟨k', i, j, t, hk', hi, hj, -, e1, r1, e2, e3, r2, -⟩
  · refine ⟨none, Or.inl ⟨e1, rfl⟩, Or.inl ⟨if_pos ?_, rfl⟩⟩
    exact Classical.byContradiction (fun q => e0.mpr q e2)
  · refine ⟨some t, Or.inr ⟨i, t, hi, e1, r1, rfl⟩, Or.inr ⟨j, t, hj, ?_, r2, rfl⟩⟩
    rw [if_neg (e0.mp e2)]; exact e3
theorem jz_moves {K : Nat} {u v w : js_S} {r : Nat} (h : jz_S K u v) (hr : jz_S K (js_up u 21 0 (nI r)) w) (hwr : ∀ i t, i < 48 → jm_row v i = some t → jm_row w i = some t) (h18 : ∀ n, n < 48 → w 18 n = if v 17 n = 0 then -1 else jm_presentOf v (nI n)) (hp : w 23 0 = v 23 0) (hh : w 24 0 = v 24 0) : ∀ k, k ≤ 40 → (jc_mv u (nI r) k 22 0, jc_mv u (nI r) k 23 0) = (jm_g2 w k 23 0, jm_g2 w k 24 0)
  | 0, _ => by
    show (u 22 0, u 23 0) = (w 23 0, w 24 0)
    rw [hp, hh, h.2.2.2.2.1.2.1, h.2.2.2.2.1.2.2.1]
  | k + 1, hk => by
    have ih := jz_moves h hr hwr h18 hp hh k (by omega)
    have f1 : ∀ f j, 5 ≤ f → f ≤ 19 → jc_mv u (nI r) k f j = u f j := fun f j _ _ => jc_mv_f (by omega) (by omega) k
    have f2 : ∀ f i, ¬ f = 23 → ¬ f = 24 → jm_g2 w k f i = w f i := fun f i h1 h2 => jm_g2_f h1 h2 k
    have f3 : ∀ f j, 5 ≤ f → f ≤ 19 → js_up u 21 0 (nI r) f j = u f j := fun f j _ _ => js_up_f (by omega)
    obtain ⟨a, ra, ma⟩ := jz_rows h (n := k) (by omega)
    obtain ⟨b, rb, mb⟩ := jz_rows hr (n := k) (by omega)
    rw [js_up_s, jc_se_eq f3] at rb
    have hkU : jp_k (jc_mv u (nI r) k) := by
      unfold jp_k
      rw [jc_es_eq (u := u) (fun f i h1 h2 => f1 f i (by omega) h2)]
      exact h.2.1.2.2.2.2.1
    have hkW : ((jm_es (jm_g2 w k)).map je_k).Nodup := by
      rw [jm_es_eq (u := w) (fun f i h1 h2 => f2 f i (by omega) (by omega))]
      exact ((hr.2.2.2.1.1.map je_k).nodup_iff).mpr hr.2.1.2.2.2.2.1
    rw [jc_mv, jm_g2, jc_mv_f (f := 21) (by decide) (by decide), jc_se_eq f1, jc_se_eq f1]
    rw [jc_move_p hkU (jg_r_eq ra (fun f i h1 h2 => f1 f i (by omega) h2)) (jg_r_eq (jg_r_eq rb (fun f i h1 h2 => (f3 f i (by omega) h2).symm)) (fun f i h1 h2 => f1 f i (by omega) h2))]
    have e1 : jm_ge (jm_g2 w k) k = if w 17 k = 0 then -1 else jm_presentOf w (nI k) := by
      unfold jm_ge
      rw [f2 17 k (by decide) (by decide), jm_po_eq (v := w) (fun f i hf => f2 f i (by omega) (by omega))]
    have mb' : jg_m (jm_g2 w k) (jm_ge (jm_g2 w k) k) b := by
      rw [e1]
      exact jg_m_eq mb (fun f i h1 h2 => f2 f i (by omega) (by omega))
    have ma' : jg_m (jm_g2 w k) (jm_g2 w k 18 k) a := by
      rw [f2 18 k (by decide) (by decide), h18 k (by omega)]
      rcases ma with q | ⟨i, t, hi, q1, q2, q3⟩
      · exact Or.inl q
      · exact Or.inr ⟨i, t, hi, q1, by rw [jm_row_eq (u := w) (fun f h1 h2 => f2 f i (by omega) (by omega))]; exact hwr i t hi q2, q3⟩
    rw [jm_gm_p hkW mb' ma', ih]
theorem jm_g2_rest {w : js_S} (h : ∀ n, 40 ≤ n → n < 48 → w 17 n = 0) : ∀ k, k ≤ 8 → jm_g2 w (40 + k) = jm_g2 w 40
  | 0, _ => rfl
  | k + 1, hk => by
    rw [← Nat.add_assoc, jm_g2, jm_g2_rest h k (by omega)]
    have e : jm_ge (jm_g2 w 40) (40 + k) = -1 := by
      unfold jm_ge
      rw [jm_g2_f (by decide) (by decide), if_pos (h (40 + k) (by omega) (by omega))]
    rw [e]
    unfold jm_gm
    rw [if_pos (by decide)]
theorem jz_go2 {K r : Nat} {u v : js_S} (h : jz_S K u v) (hr : r ≤ K) (hu : ∃ t, t ∈ jc_es u ∧ t.2.1 = nI r) : jz_S K (jc_go2 u (nI r)) (jm_go2 v (nI r)) := by
  have h1 := jz_goto (w := jm_g1 v 48) h hr hu (fun f i hf => jm_g1_f hf 48) (jm_g1_Sh h.2.2.2.2.2.2 48)
  have hb := h.2.1
  have hX0 : jp_X u (js_up (jm_g1 v 48) 21 0 (nI r)) := jp_X_eq h.2.2.2.1 (fun f i _ _ => (js_up_f (by omega)).trans (jm_g1_f (by omega) 48))
  have mf : ∀ f i, ¬ f = 9 → ¬ f = 10 → ¬ f = 15 → ¬ f = 17 → ¬ f = 19 → ¬ f = 20 → ¬ f = 21 → jm_mark (js_up (jm_g1 v 48) 21 0 (nI r)) f i = jm_g1 v 48 f i := fun f i q1 q2 q3 q4 q5 q6 q7 => (jm_mark_f q1 q2 q3 q4 q5 q6).trans (js_up_f q7)
  have mv := jz_moves h h1 (fun i t hi q => jm_mark_row hb.1 hb.2.1 hb.2.2.2.2.2.1 hX0 hi (by
    rw [jm_row_eq (u := v) (fun f h1 h2 => (js_up_f (by omega)).trans (jm_g1_f (by omega) 48))]; exact q)) (fun n hn => by
    rw [mf 18 n (by decide) (by decide) (by decide) (by decide) (by decide) (by decide) (by decide)]
    exact jm_g1_v 48 hn) (by rw [mf 23 0 (by decide) (by decide) (by decide) (by decide) (by decide) (by decide) (by decide)]; exact jm_g1_f (by decide) 48) (by rw [mf 24 0 (by decide) (by decide) (by decide) (by decide) (by decide) (by decide) (by decide)]; exact jm_g1_f (by decide) 48) 40 (Nat.le_refl _)
  have rest : jm_g2 (jm_mark (js_up (jm_g1 v 48) 21 0 (nI r))) 48 = jm_g2 (jm_mark (js_up (jm_g1 v 48) 21 0 (nI r))) 40 := jm_g2_rest (fun n h2 h3 => Classical.byContradiction (fun q => absurd ((h1.2.2.2.2.2.1 n h3).mp q).1 (by omega))) 8 (Nat.le_refl _)
  unfold jc_go2 jm_go2
  rw [rest]
  obtain ⟨p1, p2⟩ := Prod.mk.inj mv
  refine jz_S_ph h1 (fun f j q1 q2 => ?_) (fun f j q1 q2 => jm_g2_f q1 q2 40) ?_ ?_ (jc_Sh_21 (jc_Sh_mv hb.2.2.2.2.2.1 40)) (jm_g2_Sh h1.2.2.2.2.2.2 40)
  · by_cases e : f = 21 ∧ j = 0
    · rw [e.1, e.2, js_up_s, js_up_s]
    · unfold js_up
      rw [if_neg e, if_neg e]
      exact jc_mv_f q1 q2 40
  · rw [js_up_f (by decide)]; exact p1
  · rw [js_up_f (by decide)]; exact p2
theorem jz_go1 {K n : Nat} {u v w : js_S} (h : jz_S K u v) (h1 : jz_S K w v) (hK : K ≤ 600) (delta : Int32) (en : jm_enum v (fun a => ix (w 20 a)) n 601) (eA : ∀ a, a < n → w 20 a = nI (ix (w 20 a))) (c1 : ∀ f j, ¬ f = 20 → w f j = u f j) (c2 : jc_up w n) (c3 : ∀ x, (∃ a, a < n ∧ w 20 a = x) ↔ ∃ t, t ∈ jc_es u ∧ t.2.1 = x) (hle : n ≤ 40) : (jc_go1 w n delta).1 = (jm_go v delta).1 ∧ jz_S K (jc_go1 w n delta).2 (jm_go v delta).2 ∧ 0 < n := by
  obtain ⟨p, hp, e1⟩ := (c3 (u 21 0)).mpr h.2.1.2.2.2.2.2.2.2.2
  have e21 : w 21 0 = u 21 0 := c1 21 0 (by decide)
  have pl : jc_place w (n - 1) 0 = p := jc_place_ok c2 hp (by rw [e1, e21]) _ _ (by omega) (by omega)
  have ai : jc_aim w n delta = lN p + delta.toInt64 := by
    unfold jc_aim
    rw [pl, nI_to64 (by omega)]
  have ci : jm_cu v (ix (v 21 0)) = p := by
    rw [← h.2.2.2.2.1.1, ← e1]
    exact jm_cu_at en hp
  have sa := jm_sa_ok en (by omega) (x := lN p + delta.toInt64) 601 0 rfl
  have z : jm_cu v 0 = 0 := rfl
  rw [z] at sa
  have goal2 : ((jc_go1 w n delta).1 = (jm_go v delta).1 ∧ jz_S K (jc_go1 w n delta).2 (jm_go v delta).2) := by
    unfold jc_go1 jm_go jm_go1 jm_stepAt
    rw [ai, ci]
    by_cases q1 : lg_cmp (lN p + delta.toInt64) 0 < 0
    · rw [if_pos q1, sa.2 (fun a _ _ e => by
        rw [← e, lg_cmp_lt] at q1
        exact absurd ((lN_lt (by omega) (b := 0) (by decide)).mp q1) (by omega)), if_neg (by decide)]
      exact ⟨rfl, h1⟩
    · rw [if_neg q1]
      by_cases q2 : lg_cmp (lN p + delta.toInt64) (nI n).toInt64 < 0
      · obtain ⟨a, ha, g1, g2⟩ := jz_aim hle q1 q2
        obtain ⟨t, ht, g5⟩ := (c3 _).mp ⟨a, ha, rfl⟩
        obtain ⟨s, hs, g6⟩ := (h.2.1.2.2.2.2.2.2.1 t ht).2
        have g7 : w 20 a = nI s := g5.symm.trans g6
        have g8 : jm_sa v (lN p + delta.toInt64) 601 0 0 = nI s := by
          rw [sa.1 a (by omega) ha g1.symm, ← eA a ha, g7]
        rw [if_pos q2, g2, ix_nI (by omega), g8, g7, if_pos (Int32.not_lt.mp (nI_pos (by omega)))]
        have g10 : jz_S K (jc_go2 w (nI s)) (jm_go2 v (nI s)) := jz_go2 h1 hs ⟨t, by rw [jc_es_eq (u := u) (fun f i h1 h2 => c1 f i (by omega))]; exact ht, g6⟩
        have g9 : jm_go2 v (nI s) 21 0 = nI s := by
          unfold jm_go2
          rw [jm_g2_f (by decide) (by decide), jm_mark_21, js_up_s]
        generalize jc_go2 w (nI s) = U at g10 ⊢
        generalize jm_go2 v (nI s) = V at g9 g10 ⊢
        exact ⟨g9.symm, g10⟩
      · rw [if_neg q2, sa.2 (fun a _ ha e => q2 (by
          rw [← e, lg_cmp_lt, nI_to64 (by omega)]
          exact (lN_lt (by omega) (by omega)).mpr ha)), if_neg (by decide)]
        exact ⟨rfl, h1⟩
  exact ⟨goal2.1, goal2.2, by omega⟩
theorem jz_go {K : Nat} {u v : js_S} (h : jz_S K u v) (hK : K ≤ 600) (delta : Int32) : (jc_go u delta).1 = (jm_go v delta).1 ∧ jz_S K (jc_go u delta).2 (jm_go v delta).2 ∧ 0 < (jc_cu u 40).2 := by
  obtain ⟨en, eA⟩ := jz_enum h hK
  obtain ⟨c1, c2, c3⟩ := jc_cu_ok (u := u) 40
  exact jz_go1 h (jz_length_S h) hK delta en eA c1 c2 c3 (jc_cu_le (u := u) 40)
