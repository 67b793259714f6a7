/-! An entry is put: pushed behind the present step, or in the place of the one that is shown. -/
theorem js_up_comm {s : js_S} {f g i j : Nat} {a b : Int32} (h : ¬ f = g) : js_up (js_up s f i a) g j b = js_up (js_up s g j b) f i a := by
  funext k l
  unfold js_up
  by_cases e : k = g ∧ l = j
  · rw [if_pos e, if_neg (fun q => h (q.1.symm.trans e.1)), if_pos e]
  · rw [if_neg e, if_neg e]
theorem jc_dl_23 {u : js_S} {x : Int32} : ∀ k, jc_dl (js_up u 23 0 x) k = js_up (jc_dl u k) 23 0 x
  | 0 => rfl
  | k + 1 => by
    rw [jc_dl, jc_dl, jc_dl_23 k, js_up_f (by decide), js_up_f (by decide)]
    split
    · exact js_up_comm (by decide)
    · rfl
theorem jc_kd1_23 {u : js_S} {x : Int32} : ∀ k, jc_kd1 (js_up u 23 0 x) k = js_up (jc_kd1 u k) 23 0 x
  | 0 => rfl
  | k + 1 => by rw [jc_kd1, jc_kd1, jc_kd1_23 k]; exact js_up_comm (by decide)
theorem jc_kd2_23 {u : js_S} {x : Int32} : ∀ k, jc_kd2 (js_up u 23 0 x) k = js_up (jc_kd2 u k) 23 0 x
  | 0 => rfl
  | k + 1 => by
    rw [jc_kd2, jc_kd2, jc_kd2_23 k, js_up_f (f := 23) (g := 14) (by decide), js_up_f (f := 23) (g := 19) (by decide)]
    split
    · exact js_up_comm (by decide)
    · rfl
theorem jc_df_23 {u : js_S} {x : Int32} : ∀ k, jc_df (js_up u 23 0 x) k = js_up (jc_df u k) 23 0 x
  | 0 => rfl
  | k + 1 => by
    rw [jc_df, jc_df, jc_df_23 k, js_up_f (f := 23) (g := 7) (by decide), js_up_f (f := 23) (g := 8) (by decide)]
    split
    · exact js_up_comm (by decide)
    · rfl
theorem jc_de_23 {u : js_S} {x : Int32} : ∀ k, jc_de (js_up u 23 0 x) k = js_up (jc_de u k) 23 0 x
  | 0 => rfl
  | k + 1 => by
    rw [jc_de, jc_de, jc_de_23 k, js_up_f (f := 23) (g := 14) (by decide), js_up_f (f := 23) (g := 15) (by decide), js_up_f (f := 23) (g := 5) (by decide)]
    split
    · exact js_up_comm (by decide)
    · rfl
theorem jc_round_23 {u : js_S} {x : Int32} : jc_round (js_up u 23 0 x) = js_up (jc_round u) 23 0 x := by
  unfold jc_round jc_keepDocs
  rw [jc_kd1_23, jc_kd2_23, jc_df_23, jc_de_23]
theorem jc_later_23 {u : js_S} {x : Int32} : jc_dropLater (js_up u 23 0 x) = js_up (jc_dropLater u) 23 0 x := by
  unfold jc_dropLater jc_gone
  rw [jc_dl_23, jc_round_23, jc_round_23, jc_round_23]
/-- a store in which a document d is there, perhaps not held yet, whose frames are born not later than the step s -/
def jy_L (K : Nat) (u v : js_S) (d : Nat) (s : Int32) : Prop := jy_M K u v ∧ (∀ t, t ∈ jc_es u → ¬ u 5 (ix t.1) = 0) ∧ (∀ x, x < 40 → ¬ u 8 x = 0 → x = d ∨ ∃ t, t ∈ jc_es u ∧ t.2.2.2.2 = nI x) ∧ jp_X u v ∧ (∀ n, n < 40 → ¬ n = 0 → ¬ u 5 n = 0 → u 7 n = nI d → ∃ t, t ∈ jc_es u ∧ t.1 = nI n ∧ t.2.1 ≤ s ∧ ∀ t', t' ∈ jc_es u → t'.2.2.2.2 = nI d → t.2.1 ≤ t'.2.1)
theorem jy_S_L {K : Nat} {u v : js_S} (h : jy_S K u v) {t : je_T} {d : Nat} {s : Int32} (ht : t ∈ jc_es u) (hd : t.2.2.2.2 = nI d) (hs : t.2.1 ≤ s) : jy_L K u v d s := by
  refine ⟨h.1, h.2.1.1, fun x hx h8 => Or.inr (h.2.1.2 x hx h8), h.2.2, fun n hn h0 h5 h7 => ?_⟩
  obtain ⟨b, hb, h1, h2⟩ := jy_B_full h.1.2.1 h.2.1 h.1.2.2.1 n hn h0 h5
  rw [h7] at h2
  exact ⟨b, hb, h1, Int32.le_trans (h2 t ht hd) hs, h2⟩
theorem jp_lev {u : js_S} (hP : jp_P u) {o : Nat} (ho : o < 40) (h5 : ¬ u 5 o = 0) : o = 0 ∨ ¬ u 6 o = 0 := by
  by_cases e : o = 0
  · exact Or.inl e
  · obtain ⟨d, w, hd, hw, -, -, -, p6, -⟩ := hP.2.2.2.1 o ho e h5
    refine Or.inr (fun q => ?_)
    rcases jp_lv (hP.2.1 o ho) (hP.2.1 w hw) p6 with z | z
    · exact absurd (q.symm.trans z.2) (by decide)
    · exact absurd (q.symm.trans z.2) (by decide)
def jy_pu (u : js_S) (o k d : Nat) (url state : Int32) : js_S := jc_addEntry (js_up u 21 0 (nI k)) (nI o) (nI k) url state (nI d)
def jy_pv (v : js_S) (o k d : Nat) (url state : Int32) : js_S := js_up (js_up (js_up (jm_write (js_up v 21 0 (nI k)) (nI o) (nI k) url (nI d)) 6 (js_free v 9 47 0) url) 7 (js_free v 9 47 0) state) 8 (js_free v 9 47 0) (nI d)
theorem js_free_f {s t : js_S} {f : Nat} (h : ∀ i, t f i = s f i) : ∀ k i, js_free t f k i = js_free s f k i
  | 0, i => rfl
  | k + 1, i => by rw [js_free, js_free, h i, js_free_f h k]
theorem jm_room9 {u v : js_S} (hp : (jm_es v).Perm (jc_es u)) : v 9 (js_free v 9 47 0) = 0 := by
  have e1 : jm_cntF v 9 48 = (jm_es v).length := je_len_m 48
  have e2 : jm_cntF u 14 40 = (jc_es u).length := je_len_c 40
  have e3 := cn_le (u := u) (f := 14) 40
  have e4 := hp.length_eq
  obtain ⟨i, hi, e⟩ := cn_ex (u := v) (f := 9) 48 (by omega)
  exact js_free_z 47 0 ⟨i, by omega, by omega, e⟩
theorem jy_push {K k o d : Nat} {u v : js_S} {url state : Int32} (h : jy_L K u v d (nI (k + 1))) (hk : k + 1 ≤ K) (he : u 21 0 = nI k) (ho : o < 40) (hd : d < 40) (h5 : ¬ u 5 o = 0) (h8 : ¬ u 8 d = 0) (h9 : u 9 d = nI o) (hu : jq 256 url) (hs : ∀ t, t ∈ jc_es u → t.1 = nI o → t.2.1 ≤ nI k) (hr : u 14 (js_free u 14 39 0) = 0) : jy_S K (jy_pu u o (k + 1) d url state) (jy_pv v o (k + 1) d url state) ∧ ∃ t, t ∈ jc_es (jy_pu u o (k + 1) d url state) ∧ t.2.1 = jy_pu u o (k + 1) d url state 21 0 := by
  obtain ⟨⟨a1, hP, hB, hz, hk2, hU, hS, hb, hw, ha, hR, hsc, hM, hQ⟩, hA1, hA2, hX, hF⟩ := h
  have fr : js_free (js_up u 21 0 (nI (k + 1))) 14 39 0 = js_free u 14 39 0 := js_free_f (fun i => js_up_f (by decide)) 39 0
  have frv : js_free (js_up v 21 0 (nI (k + 1))) 9 47 0 = js_free v 9 47 0 := js_free_f (fun i => js_up_f (by decide)) 47 0
  have r9 := jm_room9 hX.1
  have fu : ∀ g j : Nat, ¬ g = 21 → g < 14 ∨ 19 < g → jy_pu u o (k + 1) d url state g j = u g j := by
    intro g j h1 h2
    unfold jy_pu
    rw [jc_add_f (by omega), js_up_f h1]
  have fu21 : jy_pu u o (k + 1) d url state 21 0 = nI (k + 1) := by
    unfold jy_pu
    rw [jc_add_f (by omega), js_up_s]
  have fv : ∀ g j : Nat, ¬ g = 21 → g < 4 ∨ 9 < g ∨ ¬ j = js_free v 9 47 0 → jy_pv v o (k + 1) d url state g j = v g j := by
    intro g j h1 h2
    unfold jy_pv jm_write
    rw [frv]
    rcases h2 with h2 | h2 | h2
    · rw [js_up_f (by omega), js_up_f (by omega), js_up_f (by omega), jm_wr_f (by omega), js_up_f h1]
    · rw [js_up_f (by omega), js_up_f (by omega), js_up_f (by omega), jm_wr_f (by omega), js_up_f h1]
    · rw [js_up_i h2, js_up_i h2, js_up_i h2, jm_wr_f (by omega), js_up_f h1]
  have fv21 : jy_pv v o (k + 1) d url state 21 0 = nI (k + 1) := by
    unfold jy_pv jm_write
    rw [js_up_f (by decide), js_up_f (by decide), js_up_f (by decide), jm_wr_f (by omega), js_up_s]
  have eu : (jc_es (jy_pu u o (k + 1) d url state)).Perm ((nI o, nI (k + 1), url, state, nI d) :: jc_es u) := by
    unfold jy_pu
    have a := jc_add_es (u := js_up u 21 0 (nI (k + 1))) (o := nI o) (s := nI (k + 1)) (url := url) (st := state) (d := nI d) (by rw [fr, js_up_f (by decide)]; exact hr)
    rw [jc_es_eq (u := u) (v := js_up u 21 0 (nI (k + 1))) (fun f i h1 h2 => js_up_f (by omega))] at a
    exact a
  have ev : (jm_es (jy_pv v o (k + 1) d url state)).Perm ((nI o, nI (k + 1), url, state, nI d) :: jm_es v) := by
    refine je_add (i := js_free v 9 47 0) js_f47 ?_ (jm_row_some.mpr ⟨?_, ?_⟩) (fun j _ hj => jm_row_eq (fun f _ _ => fv f j (by omega) (Or.inr (Or.inr hj))))
    · unfold jm_row; rw [if_pos r9]
    · unfold jy_pv jm_write
      rw [frv]
      simp [jm_wr, js_up]
    · unfold jy_pv jm_write
      rw [frv]
      simp [jm_wr, js_up]
  have hSn : jc_Sh (jy_pu u o (k + 1) d url state) := jc_Sh_add (jc_Sh_21 hS) ho hd
  have hMn : jm_Sh (jy_pv v o (k + 1) d url state) := jm_Sh_8 (jm_Sh_7 (jm_Sh_6 (jm_Sh_wr (jm_Sh_21 hM) ⟨o, by omega, rfl⟩ ⟨d, by omega, rfl⟩))) ⟨d, by omega, rfl⟩
  have qv : ∀ i, i < 48 → jq 256 (jy_pv v o (k + 1) d url state 6 i) := by
    intro i hi
    by_cases e : i = js_free v 9 47 0
    · subst e
      have : jy_pv v o (k + 1) d url state 6 (js_free v 9 47 0) = url := by
        unfold jy_pv
        rw [js_up_f (by decide), js_up_f (by decide), js_up_s]
      rw [this]; exact hu
    · rw [fv 6 i (by decide) (Or.inr (Or.inr e))]; exact hQ i hi
  generalize jy_pu u o (k + 1) d url state = w at fu fu21 eu hSn
  generalize jy_pv v o (k + 1) d url state = x at fv fv21 ev hMn qv
  have mem : ∀ t, t ∈ jc_es w ↔ t = (nI o, nI (k + 1), url, state, nI d) ∨ t ∈ jc_es u := by
    intro t
    rw [eu.mem_iff, List.mem_cons]
  have hlt : ∀ t, t ∈ jc_es u → t.1 = nI o → ¬ t.2.1 = nI (k + 1) := by
    intro t ht h1 h2
    have a := hs t ht h1
    rw [h2] at a
    have := (nI_leI (by omega) (by omega)).mp a
    omega
  have g5 : ∀ j, w 5 j = u 5 j := fun j => fu 5 j (by decide) (by omega)
  have g6 : ∀ j, w 6 j = u 6 j := fun j => fu 6 j (by decide) (by omega)
  have g7 : ∀ j, w 7 j = u 7 j := fun j => fu 7 j (by decide) (by omega)
  have g8 : ∀ j, w 8 j = u 8 j := fun j => fu 8 j (by decide) (by omega)
  have g9 : ∀ j, w 9 j = u 9 j := fun j => fu 9 j (by decide) (by omega)
  have hX2 : jp_X w x := by
    refine ⟨ev.trans ((hX.1.cons _).trans eu.symm), fun y hy => ?_, fun y hy h8 => ?_, fun y hy => ?_, fun y hy h5 => ?_⟩
    · rw [fv 10 y (by decide) (by omega), g8]; exact hX.2.1 y hy
    · rw [g8] at h8
      rw [fv 11 y (by decide) (by omega), fv 12 y (by decide) (by omega), fv 13 y (by decide) (by omega), fv 14 y (by decide) (by omega), fu 10 y (by decide) (by omega), fu 11 y (by decide) (by omega), fu 12 y (by decide) (by omega), fu 13 y (by decide) (by omega)]
      exact hX.2.2.1 y hy h8
    · rw [fv 15 y (by decide) (by omega), g5]; exact hX.2.2.2.1 y hy
    · rw [g5] at h5
      rw [fv 16 y (by decide) (by omega), g7]; exact hX.2.2.2.2 y hy h5
  refine ⟨⟨⟨a1, ⟨⟨?_, ?_, ?_⟩, fun n hn => ?_, fun t ht => ?_, fun n hn h0 n5 => ?_, fun y hy y8 n hn hl => ?_⟩, fun n hn h0 n5 hd2 => ?_, ⟨?_, fun t ht => ?_⟩, ?_, fun y hy y8 n hn => ?_, hSn, fun t ht => ?_, ⟨k + 1, by omega, fu21⟩, jz_ans_eq ha (fun g j hg => fu g j (by omega) (by omega)) (fun g j hg => fv g j (by omega) (by omega)), jp_XR hX2, ⟨?_, ?_, ?_, ?_⟩, hMn, qv⟩, ⟨fun t ht => ?_, fun y hy y8 => ?_⟩, hX2⟩, ⟨(nI o, nI (k + 1), url, state, nI d), (mem _).mpr (Or.inl rfl), fu21.symm⟩⟩
  · rw [g5]; exact hP.1.1
  · rw [g6]; exact hP.1.2.1
  · rw [g7]; exact hP.1.2.2
  · rw [g6]; exact hP.2.1 n hn
  · rcases (mem t).mp ht with rfl | ht
    · exact ⟨o, d, ho, hd, rfl, rfl, by rw [g8]; exact h8, by rw [g9]; exact h9, by rw [g6]; exact jp_lev hP ho h5⟩
    · obtain ⟨o', d', ho', hd', r1, r2, r8, r9, r6⟩ := hP.2.2.1 t ht
      exact ⟨o', d', ho', hd', r1, r2, by rw [g8]; exact r8, by rw [g9]; exact r9, by rw [g6]; exact r6⟩
  · rw [g5] at n5
    obtain ⟨d', o', hd', ho', r7, r8, r9, r6, rl⟩ := hP.2.2.2.1 n hn h0 n5
    exact ⟨d', o', hd', ho', by rw [g7]; exact r7, by rw [g8]; exact r8, by rw [g9]; exact r9, by rw [g6, g6]; exact r6, by rw [fu 12 d' (by decide) (by omega), fu 13 d' (by decide) (by omega)]; exact rl⟩
  · rw [g8] at y8
    rw [fu 12 y (by decide) (by omega), fu 13 y (by decide) (by omega)] at hl
    rw [g5, g7]
    exact hP.2.2.2.2 y hy y8 n hn hl
  · rw [g5] at n5
    rw [g7] at hd2 ⊢
    by_cases e : u 7 n = nI d
    · obtain ⟨t, ht, q1, q2, q3⟩ := hF n hn h0 n5 e
      refine ⟨t, (mem t).mpr (Or.inr ht), q1, fun t' ht' e2 => ?_⟩
      rcases (mem t').mp ht' with rfl | ht'
      · exact q2
      · exact q3 t' ht' (e2.trans e)
    · obtain ⟨t0, ht0, e0⟩ := hd2
      have m0 : t0 ∈ jc_es u := by
        rcases (mem t0).mp ht0 with rfl | q
        · exact absurd e0.symm e
        · exact q
      obtain ⟨t, ht, q1, q2⟩ := hB n hn h0 n5 ⟨t0, m0, e0⟩
      refine ⟨t, (mem t).mpr (Or.inr ht), q1, fun t' ht' e2 => ?_⟩
      rcases (mem t').mp ht' with rfl | ht'
      · exact absurd e2.symm e
      · exact q2 t' ht' e2
  · obtain ⟨t, ht, q⟩ := hz.1
    exact ⟨t, (mem t).mpr (Or.inr ht), q⟩
  · rcases (mem t).mp ht with rfl | ht
    · exact Int32.not_lt.mp (nI_pos (by omega))
    · exact hz.2 t ht
  · unfold jp_k
    refine ((eu.map je_k).nodup_iff).mpr ?_
    rw [List.map_cons, List.nodup_cons]
    refine ⟨fun q => ?_, hk2⟩
    obtain ⟨t, ht, e⟩ := List.mem_map.mp q
    exact hlt t ht (congrArg Prod.fst e) (congrArg Prod.snd e)
  · rw [g8] at y8
    rw [fu 12 y (by decide) (by omega), fu 13 y (by decide) (by omega)]
    exact hU y hy y8 n hn
  · rcases (mem t).mp ht with rfl | ht
    · exact ⟨hu, k + 1, by omega, rfl⟩
    · obtain ⟨q1, s, q2, q3⟩ := hb t ht
      exact ⟨q1, s, by omega, q3⟩
  · rw [fu21, fv21]
  · rw [fu 22 0 (by decide) (by omega), fv 23 0 (by decide) (by omega)]; exact hsc.2.1
  · rw [fu 23 0 (by decide) (by omega), fv 24 0 (by decide) (by omega)]; exact hsc.2.2.1
  · rw [fu 24 0 (by decide) (by omega), fv 22 0 (by decide) (by omega)]; exact hsc.2.2.2
  · rw [g5]
    rcases (mem t).mp ht with rfl | ht
    · show ¬ u 5 (ix (nI o)) = 0
      rw [ix_nI (by omega)]; exact h5
    · exact hA1 t ht
  · rw [g8] at y8
    rcases hA2 y hy y8 with rfl | ⟨t, ht, e⟩
    · exact ⟨_, (mem _).mpr (Or.inl rfl), rfl⟩
    · exact ⟨t, (mem t).mpr (Or.inr ht), e⟩
/-- in the place of the row i, in the reference j -/
theorem jy_repl {K i j o d : Nat} {u v : js_S} {t : je_T} {url state : Int32} (h : jy_L K u v d t.2.1) (ho : o < 40) (hd : d < 40) (h5 : ¬ u 5 o = 0) (h8 : ¬ u 8 d = 0) (h9 : u 9 d = nI o) (hi : i < 40) (hj : j < 48) (r1 : jc_row u i = some t) (r2 : jm_row v j = some t) (h1 : t.1 = nI o) (hu : jq 256 url) : jy_M K (js_up (js_up (js_up u 17 i url) 18 i state) 19 i (nI d)) (js_up (js_up (js_up v 6 j url) 7 j state) 8 j (nI d)) := by
  obtain ⟨⟨a1, hP, hB, hz, hk2, hU, hS, hb, hw, ha, hR, hsc, hM, hQ⟩, hA1, hA2, hX, hF⟩ := h
  obtain ⟨L, L1, L2⟩ := jc_set_es (a := url) (b := state) (c := nI d) hi r1
  obtain ⟨G, G1, G2⟩ := jm_set_es (a := url) (b := state) (c := nI d) hj r2
  have GL : G.Perm L := (G1.symm.trans (hX.1.trans L1)).cons_inv
  have fu : ∀ g k : Nat, ¬ g = 17 → ¬ g = 18 → ¬ g = 19 → js_up (js_up (js_up u 17 i url) 18 i state) 19 i (nI d) g k = u g k := fun g k q1 q2 q3 => by rw [js_up_f q3, js_up_f q2, js_up_f q1]
  have fv : ∀ g k : Nat, ¬ g = 6 → ¬ g = 7 → ¬ g = 8 → js_up (js_up (js_up v 6 j url) 7 j state) 8 j (nI d) g k = v g k := fun g k q1 q2 q3 => by rw [js_up_f q3, js_up_f q2, js_up_f q1]
  have hSn : jc_Sh (js_up (js_up (js_up u 17 i url) 18 i state) 19 i (nI d)) := jc_Sh_19 (jc_Sh_18 (jc_Sh_17 hS)) hd
  have hMn : jm_Sh (js_up (js_up (js_up v 6 j url) 7 j state) 8 j (nI d)) := jm_Sh_8 (jm_Sh_7 (jm_Sh_6 hM)) ⟨d, by omega, rfl⟩
  have qv : ∀ k, k < 48 → jq 256 (js_up (js_up (js_up v 6 j url) 7 j state) 8 j (nI d) 6 k) := by
    intro k hk
    rw [js_up_f (by decide), js_up_f (by decide)]
    by_cases e : k = j
    · subst e; rw [js_up_s]; exact hu
    · rw [js_up_i e]; exact hQ k hk
  generalize js_up (js_up (js_up u 17 i url) 18 i state) 19 i (nI d) = w at L2 fu hSn
  generalize js_up (js_up (js_up v 6 j url) 7 j state) 8 j (nI d) = x at G2 fv hMn qv
  have mem : ∀ t', t' ∈ jc_es w ↔ t' = (t.1, t.2.1, url, state, nI d) ∨ t' ∈ L := by
    intro t'
    rw [L2.mem_iff, List.mem_cons]
  have memu : ∀ t', t' ∈ jc_es u ↔ t' = t ∨ t' ∈ L := by
    intro t'
    rw [L1.mem_iff, List.mem_cons]
  have bt := hb t ((memu t).mpr (Or.inl rfl))
  have zt := hz.2 t ((memu t).mpr (Or.inl rfl))
  /- an entry that was there, with the same owner and step -/
  have kp : ∀ t', t' ∈ jc_es u → ∃ t2, t2 ∈ jc_es w ∧ t2.1 = t'.1 ∧ t2.2.1 = t'.2.1 := by
    intro t' ht'
    rcases (memu t').mp ht' with rfl | q
    · exact ⟨_, (mem _).mpr (Or.inl rfl), rfl, rfl⟩
    · exact ⟨t', (mem _).mpr (Or.inr q), rfl, rfl⟩
  have g5 : ∀ k, w 5 k = u 5 k := fun k => fu 5 k (by decide) (by decide) (by decide)
  have g6 : ∀ k, w 6 k = u 6 k := fun k => fu 6 k (by decide) (by decide) (by decide)
  have g7 : ∀ k, w 7 k = u 7 k := fun k => fu 7 k (by decide) (by decide) (by decide)
  have g8 : ∀ k, w 8 k = u 8 k := fun k => fu 8 k (by decide) (by decide) (by decide)
  have g9 : ∀ k, w 9 k = u 9 k := fun k => fu 9 k (by decide) (by decide) (by decide)
  have g12 : ∀ k, w 12 k = u 12 k := fun k => fu 12 k (by decide) (by decide) (by decide)
  have g13 : ∀ k, w 13 k = u 13 k := fun k => fu 13 k (by decide) (by decide) (by decide)
  refine ⟨a1, ⟨⟨?_, ?_, ?_⟩, fun n hn => ?_, fun t' ht => ?_, fun n hn h0 n5 => ?_, fun y hy y8 n hn hl => ?_⟩, fun n hn h0 n5 hd2 => ?_, ⟨?_, fun t' ht => ?_⟩, ?_, fun y hy y8 n hn => ?_, hSn, fun t' ht => ?_, ?_, jz_ans_eq ha (fun g k hg => fu g k (by omega) (by omega) (by omega)) (fun g k hg => fv g k (by omega) (by omega) (by omega)), ⟨?_, fun y hy y8 => ?_, fun n hn n5 => ?_⟩, ⟨?_, ?_, ?_, ?_⟩, hMn, qv⟩
  · rw [g5]; exact hP.1.1
  · rw [g6]; exact hP.1.2.1
  · rw [g7]; exact hP.1.2.2
  · rw [g6]; exact hP.2.1 n hn
  · rcases (mem t').mp ht with rfl | q
    · exact ⟨o, d, ho, hd, h1, rfl, by rw [g8]; exact h8, by rw [g9]; exact h9, by rw [g6]; exact jp_lev hP ho h5⟩
    · obtain ⟨o', d', ho', hd', r1, r2, r8, r9, r6⟩ := hP.2.2.1 t' ((memu t').mpr (Or.inr q))
      exact ⟨o', d', ho', hd', r1, r2, by rw [g8]; exact r8, by rw [g9]; exact r9, by rw [g6]; exact r6⟩
  · rw [g5] at n5
    obtain ⟨d', o', hd', ho', r7, r8, r9, r6, rl⟩ := hP.2.2.2.1 n hn h0 n5
    exact ⟨d', o', hd', ho', by rw [g7]; exact r7, by rw [g8]; exact r8, by rw [g9]; exact r9, by rw [g6, g6]; exact r6, by rw [g12, g13]; exact rl⟩
  · rw [g8] at y8
    rw [g12, g13] at hl
    rw [g5, g7]
    exact hP.2.2.2.2 y hy y8 n hn hl
  · rw [g5] at n5
    rw [g7] at hd2 ⊢
    by_cases e : u 7 n = nI d
    · obtain ⟨b, hb, q1, q2, q3⟩ := hF n hn h0 n5 e
      obtain ⟨b2, m2, e1, e2⟩ := kp b hb
      refine ⟨b2, m2, e1.trans q1, fun t' ht' e3 => ?_⟩
      rw [e2]
      rcases (mem t').mp ht' with rfl | z
      · exact q2
      · exact q3 t' ((memu t').mpr (Or.inr z)) (e3.trans e)
    · obtain ⟨t0, ht0, e0⟩ := hd2
      have m0 : t0 ∈ jc_es u := by
        rcases (mem t0).mp ht0 with rfl | q
        · exact absurd e0.symm e
        · exact (memu t0).mpr (Or.inr q)
      obtain ⟨b, hb, q1, q2⟩ := hB n hn h0 n5 ⟨t0, m0, e0⟩
      obtain ⟨b2, m2, e1, e2⟩ := kp b hb
      refine ⟨b2, m2, e1.trans q1, fun t' ht' e3 => ?_⟩
      rw [e2]
      rcases (mem t').mp ht' with rfl | z
      · exact absurd e3.symm e
      · exact q2 t' ((memu t').mpr (Or.inr z)) e3
  · obtain ⟨b, hb, q1, q2⟩ := hz.1
    obtain ⟨b2, m2, e1, e2⟩ := kp b hb
    exact ⟨b2, m2, e1.trans q1, e2.trans q2⟩
  · rcases (mem t').mp ht with rfl | q
    · exact zt
    · exact hz.2 t' ((memu t').mpr (Or.inr q))
  · unfold jp_k
    refine ((L2.map je_k).nodup_iff).mpr ?_
    exact ((L1.map je_k).nodup_iff).mp hk2
  · rw [g8] at y8
    rw [g12, g13]
    exact hU y hy y8 n hn
  · rcases (mem t').mp ht with rfl | q
    · exact ⟨hu, bt.2⟩
    · exact hb t' ((memu t').mpr (Or.inr q))
  · rw [fu 21 0 (by decide) (by decide) (by decide)]; exact hw
  · exact G2.trans ((GL.cons _).trans L2.symm)
  · rw [g8] at y8
    rw [fv 10 y (by decide) (by decide) (by decide), fv 11 y (by decide) (by decide) (by decide), fv 12 y (by decide) (by decide) (by decide), fv 13 y (by decide) (by decide) (by decide), fv 14 y (by decide) (by decide) (by decide), fu 10 y (by decide) (by decide) (by decide), fu 11 y (by decide) (by decide) (by decide), g12, g13]
    exact hR.2.1 y hy y8
  · rw [g5] at n5
    rw [fv 15 n (by decide) (by decide) (by decide), fv 16 n (by decide) (by decide) (by decide), g7]
    exact hR.2.2 n hn n5
  · rw [fu 21 0 (by decide) (by decide) (by decide), fv 21 0 (by decide) (by decide) (by decide)]; exact hsc.1
  · rw [fu 22 0 (by decide) (by decide) (by decide), fv 23 0 (by decide) (by decide) (by decide)]; exact hsc.2.1
  · rw [fu 23 0 (by decide) (by decide) (by decide), fv 24 0 (by decide) (by decide) (by decide)]; exact hsc.2.2.1
  · rw [fu 24 0 (by decide) (by decide) (by decide), fv 22 0 (by decide) (by decide) (by decide)]; exact hsc.2.2.2
