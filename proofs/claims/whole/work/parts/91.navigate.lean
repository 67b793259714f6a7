/-! navigate. -/
theorem cn_pig {u : js_S} {f : Nat} : ∀ (k : Nat) (L : List Int32), k ≤ 40 → (∀ i, i < k → ¬ u f i = 0 → nI i ∈ L) → jm_cntF u f k ≤ L.length
  | 0, _, _, _ => Nat.zero_le _
  | k + 1, L, hk, h => by
    rw [jm_cntF]
    by_cases q : u f k ≠ 0
    · rw [if_pos q]
      have m := h k (by omega) q
      have ih := cn_pig (u := u) (f := f) k (L.erase (nI k)) (by omega) (fun i hi h0 => (List.mem_erase_of_ne (fun e => by
        have := jn_inj (by omega) (by omega) e
        omega)).mpr (h i (by omega) h0))
      have e1 := List.length_erase_of_mem m
      have e2 := List.length_pos_of_mem m
      omega
    · rw [if_neg q]
      exact cn_pig k L (by omega) (fun i hi => h i (by omega))
theorem jz_cap {K : Nat} {u v : js_S} (h : jy_S K u v) (hl : (jc_es u).length ≤ 35) : jm_cntF u 5 40 ≤ 35 ∧ jm_cntF u 8 40 ≤ 35 ∧ jm_cntF u 14 40 ≤ 35 := by
  have hB := jy_B_full h.1.2.1 h.2.1 h.1.2.2.1
  have c5 := cn_pig (u := u) (f := 5) 40 ((jc_es u).map (fun t => t.1)) (Nat.le_refl _) (fun i hi h5 => by
    by_cases e : i = 0
    · subst e
      obtain ⟨t, ht, q, -⟩ := h.1.2.2.2.1.1
      exact List.mem_map.mpr ⟨t, ht, q⟩
    · obtain ⟨t, ht, q, -⟩ := hB i hi e h5
      exact List.mem_map.mpr ⟨t, ht, q⟩)
  have c8 := cn_pig (u := u) (f := 8) 40 ((jc_es u).map (fun t => t.2.2.2.2)) (Nat.le_refl _) (fun i hi h8 => by
    obtain ⟨t, ht, q⟩ := h.2.1.2 i hi h8
    exact List.mem_map.mpr ⟨t, ht, q⟩)
  rw [List.length_map] at c5 c8
  have e : jm_cntF u 14 40 = (jc_es u).length := je_len_c 40
  exact ⟨by omega, by omega, by omega⟩
theorem jz_lv {K : Nat} {u v : js_S} (h : jy_S K u v) (hl : (jc_es u).length ≤ 35) {o : Nat} (ho : o < 40) (o5 : ¬ u 5 o = 0) : jc_Lv u (nI o) := by
  obtain ⟨c1, c2, c3⟩ := jz_cap h hl
  have w := h.1.2.1.1.1
  rcases h.1.2.1.2.1 o ho with q | q | q
  · exact ⟨2, by omega, ⟨o, ho, rfl, o5, q⟩, w, by show _ + 4 ≤ 40; omega, by show _ + 5 ≤ 40; omega, by show _ + 4 ≤ 40; omega⟩
  · exact ⟨1, by omega, ⟨o, ho, rfl, o5, q⟩, w, by show _ + 1 ≤ 40; omega, by show _ + 2 ≤ 40; omega, by show _ + 1 ≤ 40; omega⟩
  · exact ⟨0, by omega, ⟨o, ho, rfl, o5, q⟩, w, by show _ + 0 ≤ 40; omega, by show _ + 1 ≤ 40; omega, by show _ + 0 ≤ 40; omega⟩
theorem jz_isFM {old url : Int32} : jc_isFM old url = jm_within old url := by
  unfold jc_isFM jm_within
  by_cases h1 : old = -1
  · by_cases h2 : url = -1
    · simp [h1, h2]
    · simp [h1, h2]
  · by_cases h2 : url = -1
    · simp [h1, h2]
    · rw [if_neg h1, if_neg h2, if_neg h2]
      have e : jc_frag url = jm_frag url := rfl
      rw [e]
      by_cases h3 : jm_frag url = 0
      · rw [if_pos h3, if_pos h3]
      · rw [if_neg h3, if_neg h3, if_neg h1]
theorem jc_full_23 {u : js_S} {x b : Int32} : jc_full (js_up u 23 0 x) b = jc_full u b := by
  have e : ∀ st k, jc_cntE (js_up u 23 0 x) st k = jc_cntE u st k := by
    intro st k
    induction k with
    | zero => rfl
    | succ k ih => rw [jc_cntE, jc_cntE, ih, js_up_f (by decide), js_up_f (by decide)]
  unfold jc_full
  rw [e, js_up_f (by decide)]
theorem jz_T_h {K : Nat} {u v : js_S} (h : jz_T K u v) : jz_T K (js_up u 23 0 (u 23 0 + 1)) (js_up v 24 0 (v 24 0 + 1)) := by
  refine ⟨jz_S_ph h.1 (fun f j _ h2 => js_up_f h2) (fun f j _ h2 => js_up_f h2) ?_ ?_ (jc_Sh_23 h.1.2.1.2.2.2.2.2.1) (jm_Sh_24 h.1.2.2.2.2.2.2), fun d hd h8 n hn => ?_, fun i hi => ?_⟩
  · rw [js_up_f (by decide), js_up_f (by decide)]; exact h.1.2.2.2.2.1.2.1
  · rw [js_up_s, js_up_s, h.1.2.2.2.2.1.2.2.1]
  · rw [js_up_f (by decide)] at h8
    rw [js_up_f (by decide), js_up_f (by decide)]
    exact h.2.1 d hd h8 n hn
  · rw [js_up_f (by decide)]; exact h.2.2 i hi
/-- a fragment of the document that is shown -/
theorem jz_hash {K : Nat} {u v : js_S} (h : jz_T K u v) (hK : K + 1 < 2 ^ 31) {k i j : Nat} {t : je_T} {url b : Int32} (hk : k < 40) (hi : i < 40) (hj : j < 48) (r1 : jc_row u i = some t) (e3 : jm_presentOf v (nI k) = nI j) (r2 : jm_row v j = some t) (hs : jp_sn u (u 21 0) k) (ht : je_top (jc_es u) (nI k) (u 21 0) t) (hu : jq 256 url) (hf : jc_full u b = 0) {w : Int32} (hw : ¬ w = 0) : jz_T (K + 1) (jc_nv1 (if url = (if b = 0 then u else jc_dropLater u) 17 i then (if b = 0 then u else jc_dropLater u) else js_up (if b = 0 then u else jc_dropLater u) 23 0 ((if b = 0 then u else jc_dropLater u) 23 0 + 1)) (nI i) url b) (jm_nav (jm_nh v url (v 6 j) w) (nI k) url (nI j) b w) := by
  have a := jc_row_some.mp r1
  have b2 := jm_row_some.mp r2
  have eu : u 17 i = v 6 j := congrArg (fun t : je_T => t.2.2.1) (a.2.symm.trans b2.2)
  have sF : ∀ f j : Nat, ¬ f = 5 → ¬ f = 8 → ¬ f = 14 → (if b = 0 then u else jc_dropLater u) f j = u f j := by
    intro f j h1 h2 h3
    split
    · rfl
    · exact jc_later_f h1 h2 h3 j
  rw [sF 17 i (by decide) (by decide) (by decide), sF 23 0 (by decide) (by decide) (by decide), eu]
  unfold jm_nh jm_nav jm_nd jc_nv1
  rw [if_neg hw, if_neg hw, ix_nI (by omega), ix_nI (by omega)]
  by_cases q : url = v 6 j
  · rw [if_pos q, if_pos q, sF 19 i (by decide) (by decide) (by decide)]
    exact jz_put h hK hk hi hj r1 e3 r2 hs ht hu hf
  · rw [if_neg q, if_neg q, js_up_f (by decide), js_up_f (by decide), sF 19 i (by decide) (by decide) (by decide)]
    have h' := jz_T_h h
    have es : jc_es (js_up u 23 0 (u 23 0 + 1)) = jc_es u := jc_es_eq (fun f i h1 h2 => js_up_f (by omega))
    have p := jz_put (push := b) (url := url) (state := 0) h' hK hk hi hj (by rw [jc_row_eq (u := u) (fun f h1 h2 => js_up_f (by omega))]; exact r1) (by rw [jm_po_eq (v := v) (fun f i hf => js_up_f (by omega))]; exact e3) (by rw [jm_row_eq (u := v) (fun f h1 h2 => js_up_f (by omega))]; exact r2) (by rw [js_up_f (by decide), jp_sn_eq (u := u) (fun f j h1 h2 => js_up_f (by omega))]; exact hs) (by rw [js_up_f (by decide), es]; exact ht) hu (by rw [jc_full_23]; exact hf)
    rw [js_up_f (by decide), js_up_f (by decide)] at p
    by_cases q2 : b = 0
    · rw [if_pos q2] at p ⊢
      exact p
    · rw [if_neg q2, jc_later_23] at p
      rw [if_neg q2]
      exact p
theorem jc_round_14 {u : js_S} {i : Nat} (h : ¬ jc_round u 14 i = 0) : ¬ u 14 i = 0 := by
  unfold jc_round at h
  rw [jc_de_14] at h
  split at h
  · exact absurd rfl h
  · rw [jc_df_f (by decide)] at h
    unfold jc_keepDocs at h
    rw [jc_kd2_f (by decide), jc_kd1_f (by decide)] at h
    exact h
theorem jc_later_14 {u : js_S} {i : Nat} (h : ¬ jc_dropLater u 14 i = 0) : ¬ u 14 i = 0 := by
  unfold jc_dropLater jc_gone at h
  have h1 := jc_round_14 (jc_round_14 (jc_round_14 h))
  rw [jc_dl_14] at h1
  split at h1
  · exact absurd rfl h1
  · exact h1
theorem jy_row {u : js_S} {i : Nat} {t : je_T} (hi : i < 40) (r1 : jc_row u i = some t) (hk : jp_k u) (m : t ∈ jc_es (jc_dropLater u)) : jc_row (jc_dropLater u) i = some t := by
  obtain ⟨i3, hi3, z3, e5⟩ := jc_mem.mp m
  have f : ∀ g, 15 ≤ g → g ≤ 19 → jc_dropLater u g i3 = u g i3 := fun g h1 h2 => jc_later_f (by omega) (by omega) (by omega) i3
  have r3 : jc_row u i3 = some t := by
    refine jc_row_some.mpr ⟨jc_later_14 z3, ?_⟩
    rw [← f 15 (by decide) (by decide), ← f 16 (by decide) (by decide), ← f 17 (by decide) (by decide), ← f 18 (by decide) (by decide), ← f 19 (by decide) (by decide)]
    exact e5
  have e : i3 = i := je_inj hk hi3 hi r3 r1 rfl
  subst e
  exact jc_row_some.mpr ⟨z3, e5⟩
/-- a new document -/
theorem jz_new {K : Nat} {u v : js_S} (h : jz_T K u v) (hK : K + 1 < 2 ^ 31) {k i j : Nat} {t : je_T} {url b : Int32} (hk : k < 40) (hi : i < 40) (hj : j < 48) (r1 : jc_row u i = some t) (e3 : jm_presentOf v (nI k) = nI j) (r2 : jm_row v j = some t) (hs : jp_sn u (u 21 0) k) (ht : je_top (jc_es u) (nI k) (u 21 0) t) (hu : jq 256 url) (hf : jc_full u b = 0) : jz_T (K + 1) (jc_nv2 (if b = 0 then u else jc_dropLater u) (nI i) url b) (jm_enter v (nI k) url 0 b (-1)) := by
  have hP := h.1.2.1.1
  have a := jc_row_some.mp r1
  have b2 := jm_row_some.mp r2
  have uo : u 15 i = nI k := by
    have := ht.2.1
    rw [a.2] at this; exact this
  unfold jm_enter jm_en1
  by_cases q : b = 0
  · subst q
    obtain ⟨sn, hsn, est⟩ := (h.1.2.1.2.2.2.2.2.2.1 t ht.1).2
    have us : u 16 i = nI sn := by rw [a.2] at est; exact est
    have vs : v 5 j = nI sn := by rw [b2.2] at est; exact est
    have y := jz_T_y h
    obtain ⟨c1, c2, c3⟩ := jz_cap y (jz_room0 hf)
    obtain ⟨d0, w, x, hd0, ed, fv, ew, ex, L, w8, w9, w5, x25, G, N⟩ := jl_load (url := url) y hk hs.2.1 ⟨by omega, by omega, by omega⟩ hu (Nat.le_refl K) h.1.1 hsn
    have rw1 : jc_row w i = some t := by
      obtain ⟨g1, g2, g3, g4, g5, g6⟩ := G.2.2.1 i hi a.1
      refine jc_row_some.mpr ⟨g1, ?_⟩
      rw [g2, g3, g4, g5, g6]; exact a.2
    have rx : jm_row x j = some t := (N.2 j b2.1).trans r2
    have hr : jq 256 (jc_fd u 4 url) := jc_fd_ok h.1.2.1.2.2.2.2.2.1 4 hu
    have m := jy_repl (i := i) (j := j) (url := jc_fd u 4 url) (state := 0) (by rw [est]; exact L) hk hd0 w5 w8 w9 hi hj rw1 rx ht.2.1 hr
    have c := jz_T_mono (jy_settle (jy_drop m)) (L := K + 1) (by omega) hK
    rw [if_pos rfl, if_pos rfl, if_neg (by decide)]
    unfold jc_nv2 jm_en2 jm_stp jc_stp
    rw [if_pos rfl, if_pos rfl, if_pos rfl, ix_nI (by omega), e3, ix_nI (by omega), uo, us, vs, fv, ← ew, ← ex, x25, ← ed]
    unfold jc_putEntry jm_fin
    rw [if_neg (fun z => z rfl), ix_nI (by omega), ix_nI (by omega)]
    exact c
  · obtain ⟨y1, y2, y3⟩ := jy_later h
    have m := y3 k t hs ht
    obtain ⟨k0, hk0, ek⟩ := h.1.2.1.2.2.2.2.2.2.2.1
    have eu : jc_dropLater u 21 0 = nI k0 := (jc_later_f (by decide) (by decide) (by decide) 0).trans ek
    have ev : jm_cutOff v 21 0 = nI k0 := jm_cut_21.trans (h.1.2.2.2.2.1.1.symm.trans ek)
    have uo2 : jc_dropLater u 15 i = nI k := (jc_later_f (by decide) (by decide) (by decide) i).trans uo
    have s5 := y1.2.1.1 t m
    rw [ht.2.1, ix_nI (by omega)] at s5
    obtain ⟨c1, c2, c3⟩ := jz_cap y1 (jz_room1 h q hf)
    obtain ⟨d0, w, x, hd0, ed, fv, ew, ex, L, w8, w9, w5, x25, G, N⟩ := jl_load (sn := k0 + 1) (L := K + 1) (url := url) y1 hk s5 ⟨by omega, by omega, by omega⟩ hu (by omega) hK (by omega)
    have hr : jq 256 (jc_fd (jc_dropLater u) 4 url) := jc_fd_ok y1.1.2.2.2.2.2.2.1 4 hu
    have w21 : w 21 0 = nI k0 := G.2.2.2.2.1.1.trans eu
    have x21 : x 21 0 = nI k0 := by rw [ex, jm_load_21]; exact ev
    have rS := jy_row hi r1 h.1.2.1.2.2.2.2.1 m
    have w15 : w 15 i = nI k := ((G.2.2.1 i hi (jc_row_some.mp rS).1).2.1).trans uo2
    have nw : ∀ t', t' ∈ jc_es w → t'.1 = nI k → t'.2.1 ≤ nI k0 := by
      intro t' ht' e
      rcases N.1 t' (L.2.2.2.1.1.mem_iff.mpr ht') with z | ⟨-, -, -, z⟩
      · rw [← ek]
        exact y2 t' (y1.2.2.1.mem_iff.mp z)
      · rw [e, ix_nI (by omega)] at z
        exact absurd z s5
    have w14 : w 14 (js_free w 14 39 0) = 0 := js_f39z (by have := G.2.2.2.2.2.2.2; omega)
    have c1 := jy_push (url := jc_fd (jc_dropLater u) 4 url) (state := 0) L (by omega) w21 hk hd0 w5 w8 w9 hr nw w14
    have c2 := jy_end c1.1 c1.2
    have g1 : jc_nv2 (jc_dropLater u) (nI i) url b = jy_pu w k (k0 + 1) d0 (jc_fd (jc_dropLater u) 4 url) 0 := by
      unfold jc_nv2 jc_stp
      rw [if_neg q, ix_nI (by omega), uo2, eu, nI_1, ← ew, ← ed]
      unfold jc_putEntry jy_pu
      rw [if_pos q]
      simp only []
      rw [ix_nI (by omega), js_up_f (by decide), w15, js_up_s, w21, nI_1]
    have g2 : jm_en2 (jm_load (jm_cutOff v) (nI k) url (jm_stp (jm_cutOff v) (jm_presentOf (jm_cutOff v) (nI k)) b)) (nI k) (jm_presentOf (jm_cutOff v) (nI k)) (jm_load (jm_cutOff v) (nI k) url (jm_stp (jm_cutOff v) (jm_presentOf (jm_cutOff v) (nI k)) b) 25 0) 0 (nI (js_free (jm_cutOff v) 10 47 0)) b = jm_settle (jm_mark (jy_pv x k (k0 + 1) d0 (jc_fd (jc_dropLater u) 4 url) 0)) := by
      unfold jm_stp
      rw [if_neg q, ev, nI_1, ← ex, x25, fv]
      unfold jm_en2
      rw [if_neg q]
      unfold jm_en3 jm_fin jy_pv
      have fr : js_free (js_up x 21 0 (nI (k0 + 1))) 9 47 0 = js_free x 9 47 0 := js_free_f (fun i => js_up_f (by decide)) 47 0
      have lt : js_free x 9 47 0 < 48 := js_f47
      rw [x21, nI_1, js_up_s, fr, ix_nI (by omega)]
    rw [if_neg q, if_neg q, if_neg (by decide), g1, g2]
    exact c2
theorem jz_navigate {K : Nat} {u v : js_S} (h : jz_T K u v) (hK : K + 1 < 2 ^ 31) (n url rep : Int32) : (jc_navigate u n url rep).1 = (jm_navigate v n url rep).1 ∧ jz_T (K + 1) (jc_navigate u n url rep).2 (jm_navigate v n url rep).2 := by
  have h1 := jz_T_mono h (L := K + 1) (by omega) hK
  unfold jc_navigate jm_navigate
  by_cases b : jm_btw url (-1) 255 = 0
  · rw [if_pos b, if_pos (jz_isUB.mpr b)]
    exact ⟨rfl, h1⟩
  rw [if_neg b, if_neg (fun q => b (jz_isUB.mp q))]
  rcases jz_pick h.1 n with ⟨e1, e2⟩ | ⟨k, i, j, t, hk, hi, hj, rfl, e1, r1, e2, e3, r2, hs, e4⟩
  · rw [if_pos e1, if_pos e2]
    exact ⟨rfl, h1⟩
  rw [if_neg (by rw [e1]; exact nI_m1 (by omega)), if_neg e2, e1, e3, ix_nI (by omega), ix_nI (by omega)]
  have a := jc_row_some.mp r1
  have b2 := jm_row_some.mp r2
  have eu : u 17 i = v 6 j := congrArg (fun t : je_T => t.2.2.1) (a.2.symm.trans b2.2)
  have hu := jm_btw_ub b
  have epb : jc_push rep url (u 17 i) = jm_push rep url (v 6 j) := by rw [eu]; rfl
  rw [epb]
  generalize jm_push rep url (v 6 j) = pb
  unfold jc_nvF jm_navF
  rw [← jz_full h.1 pb, ix_nI (by omega)]
  by_cases f : jc_full u pb = 0
  · rw [if_pos f, if_pos f]
    have key : jz_T (K + 1) (jc_nav (if pb = 0 then u else jc_dropLater u) (nI i) url pb) (jm_nav (jm_nh v url (v 6 j) (jm_within (v 6 j) url)) (nI k) url (nI j) pb (jm_within (v 6 j) url)) := by
      have sF : (if pb = 0 then u else jc_dropLater u) 17 i = u 17 i := by
        split
        · rfl
        · exact jc_later_f (by decide) (by decide) (by decide) i
      unfold jc_nav
      rw [ix_nI (by omega), sF, eu, jz_isFM]
      by_cases w : jm_within (v 6 j) url = 0
      · rw [if_pos w, w]
        unfold jm_nh jm_nav jm_nd
        rw [if_pos rfl, if_pos rfl]
        exact jz_new h hK hk hi hj r1 e3 r2 hs e4 hu f
      · rw [if_neg w]
        have p := jz_hash h hK hk hi hj r1 e3 r2 hs e4 hu f w
        rw [sF, eu] at p
        exact p
    have k21 := key.1.2.2.2.2.1.1
    generalize jm_nav (jm_nh v url (v 6 j) (jm_within (v 6 j) url)) (nI k) url (nI j) pb (jm_within (v 6 j) url) = y at key k21 ⊢
    by_cases q : pb = 0
    · rw [if_pos q]
      rw [if_pos q] at key k21
      generalize jc_nav u (nI i) url pb = w at key k21 ⊢
      exact ⟨k21, key⟩
    · rw [if_neg q]
      rw [if_neg q] at key k21
      generalize jc_nav (jc_dropLater u) (nI i) url pb = w at key k21 ⊢
      exact ⟨k21, key⟩
  · rw [if_neg f, if_neg f]
    exact ⟨rfl, h1⟩
theorem jz_hLo {K : Nat} {u v : js_S} (h : jz_T K u v) (n url rep : Int32) : ¬ jc_isUB url = 0 → ¬ jc_shownEntry u n (u 21 0) = -1 → jc_full u (jc_push rep url (u 17 (ix (jc_shownEntry u n (u 21 0))))) = 0 → ((jc_push rep url (u 17 (ix (jc_shownEntry u n (u 21 0))))) = 0 → jc_Lv u (u 15 (ix (jc_shownEntry u n (u 21 0))))) ∧ (¬ (jc_push rep url (u 17 (ix (jc_shownEntry u n (u 21 0))))) = 0 → jc_Lv (jc_dropLater u) (jc_dropLater u 15 (ix (jc_shownEntry u n (u 21 0))))) := by
  intro _ hsn hf
  rcases jz_pick h.1 n with ⟨e1, e2⟩ | ⟨k, i, j, t, hk, hi, hj, rfl, e1, r1, e2, e3, r2, hs, e4⟩
  · exact absurd e1 hsn
  have a := jc_row_some.mp r1
  have uo : u 15 i = nI k := by
    have := e4.2.1
    rw [a.2] at this; exact this
  rw [e1, ix_nI (by omega)] at hf ⊢
  generalize jc_push rep url (u 17 i) = pb at hf ⊢
  constructor
  · intro q
    rw [q] at hf
    rw [uo]
    exact jz_lv (jz_T_y h) (jz_room0 hf) hk hs.2.1
  · intro q
    obtain ⟨y1, y2, y3⟩ := jy_later h
    have m := y3 k t hs e4
    have s5 := y1.2.1.1 t m
    rw [e4.2.1, ix_nI (by omega)] at s5
    rw [jc_later_f (by decide) (by decide) (by decide), uo]
    exact jz_lv y1 (jz_room1 h q hf) hk s5
