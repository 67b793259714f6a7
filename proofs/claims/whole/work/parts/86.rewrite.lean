/-! Full room; putting an entry with the document that is shown; rewrite. -/
theorem jz_T_mono {K L : Nat} {u v : js_S} (h : jz_T K u v) (hL : K ≤ L) (h2 : L < 2 ^ 31) : jz_T L u v := ⟨jz_S_mono h.1 hL h2, h.2⟩
theorem jy_mono {K L : Nat} {u v : js_S} (h : jy_S K u v) (hL : K ≤ L) (h2 : L < 2 ^ 31) : jy_S L u v := by
  have h' := h
  obtain ⟨⟨a1, hP, hB, hz, hk, hU, hS, hb, ⟨k, hk2, e⟩, ha, hR, hsc, hM, hQ⟩, hA, hX⟩ := h'
  exact jy_S_eq h (fun _ _ _ => rfl) (fun _ _ _ => rfl) hL h2 ⟨k, by omega, e⟩ hsc
theorem jy_still {K : Nat} {u v : js_S} (h : jy_S K u v) : jy_S K u (jm_mark v) := by
  obtain ⟨⟨a1, hP, hB, hz, hk, hU, hS, hb, hw, ha, hR, hsc, hM, hQ⟩, hA, hX⟩ := h
  have X1 := jp_still hP hA hS hX
  have m : ∀ g i : Nat, ¬ g = 9 → ¬ g = 10 → ¬ g = 15 → ¬ g = 17 → ¬ g = 19 → ¬ g = 20 → jm_mark v g i = v g i := fun g i h1 h2 h3 h4 h5 h6 => jm_mark_f h1 h2 h3 h4 h5 h6
  refine ⟨⟨a1, hP, hB, hz, hk, hU, hS, hb, hw, jz_ans_eq ha (fun _ _ _ => rfl) (fun g j hg => m g j (by omega) (by omega) (by omega) (by omega) (by omega) (by omega)), jp_XR X1, ?_, jm_Sh_mark hM, fun i hi => ?_⟩, hA, X1⟩
  · unfold jz_sc
    rw [jm_mark_21, m 22 0 (by decide) (by decide) (by decide) (by decide) (by decide) (by decide), m 23 0 (by decide) (by decide) (by decide) (by decide) (by decide) (by decide), m 24 0 (by decide) (by decide) (by decide) (by decide) (by decide) (by decide)]
    exact hsc
  · rw [m 6 i (by decide) (by decide) (by decide) (by decide) (by decide) (by decide)]; exact hQ i hi
theorem jy_end {K : Nat} {u v : js_S} (h : jy_S K u v) (hu : ∃ t, t ∈ jc_es u ∧ t.2.1 = u 21 0) : jz_T K u (jm_settle (jm_mark v)) := by
  have a := jy_settle (jy_still h)
  have n0 : 0 ≤ u 21 0 := by
    obtain ⟨k, hk, e⟩ := h.1.2.2.2.2.2.2.2.2.1
    have := h.1.1
    rw [e]
    exact Int32.not_lt.mp (nI_pos (by omega))
  obtain ⟨c0, c1, c2⟩ := jc_lt_ok n0 40
  obtain ⟨t, ht, e⟩ := hu
  have l1 := c2 t ht (by rw [e]; exact Int32.le_refl _)
  have l2 : jc_lt u 40 ≤ u 21 0 := by
    rcases c1 with q | ⟨t', -, q1, q2⟩
    · rw [q]; exact n0
    · rw [← q1]; exact q2
  have e2 : jc_settle u = u := by
    unfold jc_settle
    rw [e] at l1
    rw [Int32.le_antisymm l2 l1]
    funext f j
    unfold js_up
    split
    · rename_i q
      rw [q.1, q.2]
    · rfl
  rw [e2] at a
  exact a
theorem jz_cnt {K : Nat} {u v : js_S} (h : jz_S K u v) (push : Int32) : jc_cntE u (if push = 0 then 2147483647 else u 21 0) 40 = jm_fu v push 48 := by
  rw [jc_cntE_l, jm_fu_l]
  refine Eq.trans ?_ (h.2.2.2.1.1.countP_eq _).symm
  refine List.countP_congr (fun t _ => ?_)
  rw [← h.2.2.2.2.1.1]
  by_cases e : push = 0
  · have := Int32.toInt_le (x := t.2.1)
    simp only [e, if_true, decide_eq_true_eq, Int32.not_lt, Int32.le_iff_toInt_le, true_or, iff_true]
    exact this
  · simp [e]
theorem jz_full {K : Nat} {u v : js_S} (h : jz_S K u v) (push : Int32) : jc_full u push = jm_full v push := by
  unfold jc_full jm_full
  rw [jz_cnt h]
theorem jc_full_lt {u : js_S} {push : Int32} (h : jc_full u push = 0) : (jc_es u).countP (fun t => decide (¬ (if push = 0 then 2147483647 else u 21 0) < t.2.1)) < 36 := by
  have e := jc_cntE_l (u := u) (st := if push = 0 then 2147483647 else u 21 0) 40
  have e2 : (jc_es u).countP (fun t => decide (¬ (if push = 0 then 2147483647 else u 21 0) < t.2.1)) ≤ (jc_es u).length := List.countP_le_length
  have e3 : jm_cntF u 14 40 = (jc_es u).length := je_len_c 40
  have e4 := cn_le (u := u) (f := 14) 40
  have e5 : (je_l (jc_row u) 40).countP (fun t => decide (¬ (if push = 0 then 2147483647 else u 21 0) < t.2.1)) = (jc_es u).countP (fun t => decide (¬ (if push = 0 then 2147483647 else u 21 0) < t.2.1)) := rfl
  unfold jc_full at h
  rw [e, e5] at h
  generalize (jc_es u).countP (fun t => decide (¬ (if push = 0 then 2147483647 else u 21 0) < t.2.1)) = c at e2 h ⊢
  by_cases q : nI c < 36
  · exact (nI_ltI (b := 36) (by omega) (by decide)).mp q
  · rw [if_neg q] at h
    exact absurd h (by decide)
theorem jz_room0 {u : js_S} (h : jc_full u 0 = 0) : (jc_es u).length ≤ 35 := by
  have a := jc_full_lt h
  have e : (jc_es u).countP (fun t => decide (¬ (if (0 : Int32) = 0 then 2147483647 else u 21 0) < t.2.1)) = (jc_es u).length := by
    refine List.countP_eq_length.mpr (fun t _ => ?_)
    have := Int32.toInt_le (x := t.2.1)
    simp only [if_true, decide_eq_true_eq, Int32.not_lt, Int32.le_iff_toInt_le]
    exact this
  omega
theorem jz_room1 {K : Nat} {u v : js_S} (h : jz_T K u v) {push : Int32} (hp : ¬ push = 0) (hf : jc_full u push = 0) : (jc_es (jc_dropLater u)).length ≤ 35 := by
  have a := jc_full_lt hf
  rw [if_neg hp] at a
  have c := jy_cut h
  have e1 : (jc_es (jc_dropLater u)).length ≤ (jc_es (jc_dl u 40)).length := by
    unfold jc_dropLater
    rw [(jc_gone_ok c.2.1).2.2]
    exact List.length_filter_le _ _
  have e2 : (jc_es (jc_dl u 40)).length = (jc_es u).countP (fun t => decide (¬ u 21 0 < t.2.1)) := by
    rw [jc_dl_es, ← List.countP_eq_length_filter]
    refine List.countP_congr (fun t _ => ?_)
    simp
  omega
theorem jz_free14 {u : js_S} (h : (jc_es u).length ≤ 35) : u 14 (js_free u 14 39 0) = 0 := by
  have e3 : jm_cntF u 14 40 = (jc_es u).length := je_len_c 40
  exact js_f39z (by omega)
theorem jz_put {K : Nat} {u v : js_S} (h : jz_T K u v) (hK : K + 1 < 2 ^ 31) {k i j : Nat} {t : je_T} {url state push : Int32} (hk : k < 40) (hi : i < 40) (hj : j < 48) (r1 : jc_row u i = some t) (e3 : jm_presentOf v (nI k) = nI j) (r2 : jm_row v j = some t) (hs : jp_sn u (u 21 0) k) (ht : je_top (jc_es u) (nI k) (u 21 0) t) (hu : jq 256 url) (hf : jc_full u push = 0) : jz_T (K + 1) (jc_putEntry (if push = 0 then u else jc_dropLater u) (nI i) url state (u 19 i) push) (jm_enter v (nI k) url state push (v 8 j)) := by
  have hP := h.1.2.1.1
  have a := jc_row_some.mp r1
  have b := jm_row_some.mp r2
  obtain ⟨o, d, ho, hd, p1, p2, p8, p9, -⟩ := hP.2.2.1 t ht.1
  have e1 : o = k := jn_inj (by omega) (by omega) (p1.symm.trans ht.2.1)
  subst e1
  have ud : u 19 i = nI d := by
    rw [a.2] at p2; exact p2
  have vd : v 8 j = nI d := by
    rw [b.2] at p2; exact p2
  have uo : u 15 i = nI o := by
    have := ht.2.1
    rw [a.2] at this; exact this
  rw [ud, vd]
  unfold jm_enter jm_en1
  by_cases q : push = 0
  · subst q
    have c1 := jy_repl (i := i) (j := j) (url := url) (state := state) (jy_S_L (jz_T_y h) ht.1 p2 (Int32.le_refl _)) ho hd hs.2.1 p8 p9 hi hj r1 r2 p1 hu
    have c2 := jy_settle (jy_drop c1)
    rw [if_pos rfl, if_pos rfl, if_pos (Int32.not_lt.mp (nI_pos (by omega)))]
    unfold jm_en2 jc_putEntry
    rw [if_pos rfl, if_neg (fun z => z rfl), ix_nI (by omega)]
    unfold jm_fin
    rw [e3, ix_nI (by omega)]
    exact jz_T_mono c2 (by omega) hK
  · rw [if_neg q, if_neg q, if_pos (Int32.not_lt.mp (nI_pos (by omega)))]
    obtain ⟨y1, y2, y3⟩ := jy_later h
    have m := y3 o t hs ht
    obtain ⟨k0, hk0, ek⟩ := h.1.2.1.2.2.2.2.2.2.2.1
    have eu : jc_dropLater u 21 0 = nI k0 := (jc_later_f (by decide) (by decide) (by decide) 0).trans ek
    have ev : jm_cutOff v 21 0 = nI k0 := jm_cut_21.trans (h.1.2.2.2.2.1.1.symm.trans ek)
    have uo2 : jc_dropLater u 15 i = nI o := (jc_later_f (by decide) (by decide) (by decide) i).trans uo
    obtain ⟨o', d', ho', hd', q1, q2, q8, q9, -⟩ := y1.1.2.1.2.2.1 t m
    have z1 : o' = o := jn_inj (by omega) (by omega) (q1.symm.trans p1)
    have z2 : d' = d := jn_inj (by omega) (by omega) (q2.symm.trans p2)
    subst z1 z2
    have s5 := y1.2.1.1 t m
    rw [p1, ix_nI (by omega)] at s5
    have hKk := h.1.1
    have le1 : nI k0 ≤ nI (k0 + 1) := (nI_leI (by omega) (by omega)).mpr (by omega)
    have c1 := jy_push (url := url) (state := state) (jy_S_L (s := nI (k0 + 1)) (jy_mono y1 (L := K + 1) (by omega) hK) m p2 (Int32.le_trans (by rw [← ek]; exact y2 t m) le1)) (by omega) eu ho hd s5 q8 q9 hu (fun t' ht' _ => by rw [← ek]; exact y2 t' ht') (jz_free14 (jz_room1 h q hf))
    have c2 := jy_end c1.1 c1.2
    have g1 : jc_putEntry (jc_dropLater u) (nI i) url state (nI d') push = jy_pu (jc_dropLater u) o' (k0 + 1) d' url state := by
      unfold jc_putEntry jy_pu
      rw [if_pos q]
      simp only []
      rw [ix_nI (by omega), js_up_f (by decide), uo2, js_up_s, eu, nI_1]
    have g2 : jm_en2 (jm_cutOff v) (nI o') (jm_presentOf (jm_cutOff v) (nI o')) url state (nI d') push = jm_settle (jm_mark (jy_pv (jm_cutOff v) o' (k0 + 1) d' url state)) := by
      unfold jm_en2
      rw [if_neg q]
      unfold jm_en3 jm_fin jy_pv
      have fr : js_free (js_up (jm_cutOff v) 21 0 (nI (k0 + 1))) 9 47 0 = js_free (jm_cutOff v) 9 47 0 := js_free_f (fun i => js_up_f (by decide)) 47 0
      have lt : js_free (jm_cutOff v) 9 47 0 < 48 := js_f47
      rw [ev, nI_1, js_up_s, fr, ix_nI (by omega)]
    rw [g1, g2]
    exact c2
theorem jz_forb {old url : Int32} : (url ≠ -1 ∧ jc_mayR old url = 0) ↔ ¬ jm_forb old url = 0 := by
  unfold jc_mayR jm_forb
  by_cases h1 : url = -1
  · simp [h1]
  · by_cases h2 : old = -1
    · simp [h1, h2]
    · by_cases h3 : old / 64 = url / 64
      · by_cases h4 : old / 64 = 3
        · by_cases h5 : old / 8 = url / 8
          · simp only [h1, h2, h3, h5, if_true, if_false]
            rw [← h3]
            simp [h4]
          · simp only [h1, h2, h3, h5, if_true, if_false]
            rw [← h3]
            simp [h4, h1]
        · have h4' : ¬ url / 64 = 3 := by rw [← h3]; exact h4
          simp [h1, h2, h3, h4']
      · simp [h1, h2, h3]
theorem jz_rewrite {K : Nat} {u v : js_S} (h : jz_T K u v) (hK : K + 1 < 2 ^ 31) (n url state push : Int32) : (jc_rewrite u n url state push).1 = (jm_rewrite v n url state push).1 ∧ jz_T (K + 1) (jc_rewrite u n url state push).2 (jm_rewrite v n url state push).2 := by
  have h1 := jz_T_mono h (L := K + 1) (by omega) hK
  unfold jc_rewrite jm_rewrite
  by_cases b : jm_btw url (-1) 255 = 0
  · rw [if_pos b, if_pos (jz_isUB.mpr b)]
    exact ⟨rfl, h1⟩
  rw [if_neg b, if_neg (fun q => b (jz_isUB.mp q))]
  rcases jz_pick h.1 n with ⟨e1, e2⟩ | ⟨k, i, j, t, hk, hi, hj, rfl, e1, r1, e2, e3, r2, hs, e4⟩
  · rw [if_pos e1, if_pos e2]
    exact ⟨rfl, h1⟩
  rw [if_neg (by rw [e1]; exact nI_m1 (by omega)), if_neg e2, e1, e3, ix_nI (by omega), ix_nI (by omega)]
  have a := jc_row_some.mp r1
  have b2 := jm_row_some.mp r2
  have eu : u 17 i = v 6 j := by
    have := a.2.symm.trans b2.2
    exact congrArg (fun t : je_T => t.2.2.1) this
  have hold : jq 256 (u 17 i) := by
    have := (h.1.2.1.2.2.2.2.2.2.1 t e4.1).1
    rw [a.2] at this; exact this
  by_cases c : jm_forb (v 6 j) url = 0
  · rw [if_neg (fun q => jz_forb.mp q (by rw [eu]; exact c)), if_pos c, ← jz_full h.1 push]
    by_cases f : jc_full u push = 0
    · have hu : jq 256 (if url = -1 then u 17 i else url) := jm_rwq (jm_btw_ub b) hold
      have p := jz_put (url := if url = -1 then u 17 i else url) (state := state) h hK hk hi hj r1 e3 r2 hs e4 hu f
      rw [if_neg (fun q => q f), if_pos f]
      unfold jc_rew jm_rew
      rw [ix_nI (by omega), ix_nI (by omega), ← eu]
      by_cases q : push = 0
      · rw [if_neg (fun z => z q)]
        rw [if_pos q] at p
        exact ⟨p.1.2.2.2.2.1.1, p⟩
      · rw [if_pos q]
        rw [if_neg q] at p
        rw [jc_later_f (f := 17) (by decide) (by decide) (by decide), jc_later_f (f := 19) (by decide) (by decide) (by decide)]
        exact ⟨p.1.2.2.2.2.1.1, p⟩
    · rw [if_pos f, if_neg f]
      exact ⟨rfl, h1⟩
  · rw [if_pos (jz_forb.mpr (by rw [eu]; exact c)), if_neg c]
    exact ⟨rfl, h1⟩
