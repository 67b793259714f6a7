/-! The window's frames; loading as a whole. -/
theorem jl_in2 {u v : js_S} {pe : List je_T} {pl : Nat → Option Nat} {X Y : Nat → Prop} {x o : Nat} {r s : Int32} (hR : jl_R u v pe pl) (hP : jl_P u v X Y) (hC : jl_C u 4 4 4) (hpe : pe.length ≤ 4) (hx : x < 40) (x8 : ¬ u 8 x = 0) (hpl : pl x = none) (x12 : u 12 x = -1) (x13 : u 13 x = -1) (ho : o < 40) (x9 : u 9 x = nI o) (o5 : ¬ u 5 o = 0) (o6 : u 6 o = 0) (hr : jq 256 r) (hs : ∀ t, t ∈ jm_es v → t.2.2.2.2 = nI x → s ≤ t.2.1) : ∃ w y, w = jl_in (jc_load 1) u x r s ∧ y = jm_lw (jm_lw v (nI x) r s 0) (nI x) r s 1 ∧ jl_R w y pe pl ∧ jl_P w y X Y ∧ jl_Nw u v y s ∧ jc_Gr u w x 4 4 4 := by
  refine ⟨_, _, rfl, rfl, ?_⟩
  have rf : jl_R u v pe pl ∧ jl_P u v X Y ∧ jl_Nw u v v s ∧ jc_Gr u u x 4 4 4 := ⟨hR, hP, jl_Nw_rf, jc_Gr_le jc_Gr_rf (by omega) (by omega) (by omega)⟩
  have skip : ∀ (z : js_S) (k : Int32), jm_wanted z r k 2 = -2 → jm_lw z (nI x) r s k = z := by
    intro z k h
    unfold jm_lw
    rw [if_neg (fun q => q h)]
  have doit : ∀ (z : js_S) (k a : Int32), jm_wanted z r k 2 = a → ¬ a = -2 → jm_lw z (nI x) r s k = jm_lwi (jm_frameFor z (nI x) a s) (nI (js_free z 15 46 1)) s := by
    intro z k a h h2
    unfold jm_lw
    rw [h, if_pos h2]
  have h14 : v 14 x = -1 := (jl_links hR hx x8 hpl).2.trans x13
  by_cases h1 : r = -1
  · have w0 : ∀ z k, jm_wanted z r k 2 = -2 := by
      intro z k
      unfold jm_wanted
      rw [if_pos (Or.inl h1)]
    rw [skip v 0 (w0 v 0), skip v 1 (w0 v 1)]
    unfold jl_in
    rw [if_neg (fun q => q.1 h1)]
    exact rf
  obtain ⟨p, hp, ep⟩ := js_pg hr h1
  have a := hR.2.2.2.1 p hp
  have ixp : ix (r / 8) = p := by rw [ep, ix_nI (by omega)]
  by_cases h2 : u 0 p = nI 0
  · have h2' : u 0 p = 0 := h2
    have a2 := a.2.1 h2'
    have wn0 : ∀ z : js_S, z 0 p = 0 → jm_wanted z r 0 2 = if z 1 p = -2 then z 2 p else z 1 p := by
      intro z hz
      unfold jm_wanted
      have nc : ¬ (r = -1 ∨ z 0 p ≠ 0 ∨ ¬ (0 : Int32) < 2) := by
        rintro (q | q | q)
        · exact h1 q
        · exact q hz
        · exact q (by decide)
      rw [ixp, if_neg nc, if_pos rfl]
    have wn1 : ∀ z : js_S, z 0 p = 0 → jm_wanted z r 1 2 = if z 1 p = -2 then -2 else z 2 p := by
      intro z hz
      unfold jm_wanted
      have nc : ¬ (r = -1 ∨ z 0 p ≠ 0 ∨ ¬ (1 : Int32) < 2) := by
        rintro (q | q | q)
        · exact h1 q
        · exact q hz
        · exact q (by decide)
      rw [ixp, if_neg nc, if_neg (by decide)]
    have v0 : v 0 p = 0 := by rw [← a.1]; exact h2'
    have room : jc_room u (nI x) = 2 := by
      unfold jc_room
      rw [ix_nI (by omega), x9, ix_nI (by omega), o6]
      decide
    have sl : jl_sl u x = 12 := by
      unfold jl_sl
      rw [if_pos x12]
    have e : jl_in (jc_load 1) u x r s = jc_mkFrames (jc_load 1) u (nI x) (r / 8) s := by
      unfold jl_in
      rw [ixp, if_pos ⟨h1, h2⟩]
    rw [e]
    unfold jc_mkFrames
    rw [room, if_neg (by decide), ixp]
    by_cases h3 : u 1 p = -2
    · have v1 : v 1 p = -2 := by rw [← a2.1]; exact h3
      rw [if_pos h3]
      unfold jc_mfB
      rw [if_neg (by decide), ixp]
      by_cases h4 : u 2 p = -2
      · have v2 : v 2 p = -2 := by rw [← a2.2.1]; exact h4
        rw [if_pos h4, skip v 0 (by rw [wn0 v v0, if_pos v1]; exact v2), skip v 1 (by rw [wn1 v v0, if_pos v1])]
        exact rf
      · rw [if_neg h4]
        have hu : jq 256 (u 2 p) := ((hR.1.1 p hp).2.2.2).resolve_left h4
        obtain ⟨q1, q2, q3, q4⟩ := jl_F1 hR hP ⟨by have := hC.1; omega, by have := hC.2.1; omega, by have := hC.2.2; omega⟩ hpe hx x8 hpl h14 ho x9 o5 o6 hu hs
        rw [sl] at q1 q2
        have e12 : jc_mkFrame (jc_load 1) u (nI x) (u 2 p) s 12 x = -1 := (((q4.2.1 x hx x8).2.2.2.2 (by omega)).1).trans x12
        rw [doit v 0 (u 2 p) (by rw [wn0 v v0, if_pos v1, a2.2.1]) h4]
        have g : jc_Gr u (js_up (jc_mkFrame (jc_load 1) u (nI x) (u 2 p) s) 12 x (nI (js_free u 5 38 1))) x 2 2 2 := jc_Gr_12 (jc_Gr_x q4)
        unfold jc_mf2
        rw [ixp, ix_nI (show x < 2 ^ 31 by omega), if_pos e12]
        generalize jm_lwi (jm_frameFor v (nI x) (u 2 p) s) (nI (js_free v 15 46 1)) s = y at q1 q2 q3
        have b := q1.2.2.2.1 p hp
        have U0 : js_up (jc_mkFrame (jc_load 1) u (nI x) (u 2 p) s) 12 x (nI (js_free u 5 38 1)) 0 p = 0 := ((g.2.2.2.1 p).1).trans h2'
        have y0 : y 0 p = 0 := by rw [← b.1]; exact U0
        have y1 : y 1 p = -2 := by
          rw [← (b.2.1 U0).1]
          exact ((g.2.2.2.1 p).2.1).trans h3
        rw [skip y 1 (by rw [wn1 y y0, if_pos y1])]
        exact ⟨q1, q2, q3, jc_Gr_le g (by omega) (by omega) (by omega)⟩
    · have v1 : ¬ v 1 p = -2 := by rw [← a2.1]; exact h3
      rw [if_neg h3]
      have hu : jq 256 (u 1 p) := ((hR.1.1 p hp).2.2.1).resolve_left h3
      obtain ⟨q1, q2, q3, q4⟩ := jl_F1 hR hP ⟨by have := hC.1; omega, by have := hC.2.1; omega, by have := hC.2.2; omega⟩ hpe hx x8 hpl h14 ho x9 o5 o6 hu hs
      rw [sl] at q1 q2
      rw [doit v 0 (u 1 p) (by rw [wn0 v v0, if_neg v1, a2.1]) h3]
      have g : jc_Gr u (js_up (jc_mkFrame (jc_load 1) u (nI x) (u 1 p) s) 12 x (nI (js_free u 5 38 1))) x 2 2 2 := jc_Gr_12 (jc_Gr_x q4)
      have n40 : js_free u 5 38 1 < 40 := js_f38
      have U12 : js_up (jc_mkFrame (jc_load 1) u (nI x) (u 1 p) s) 12 x (nI (js_free u 5 38 1)) 12 x = nI (js_free u 5 38 1) := js_up_s _ _ _ _
      have U13 : js_up (jc_mkFrame (jc_load 1) u (nI x) (u 1 p) s) 12 x (nI (js_free u 5 38 1)) 13 x = -1 := by
        rw [js_up_f (by decide)]
        exact (((q4.2.1 x hx x8).2.2.2.2 (by omega)).2).trans x13
      unfold jc_mf1
      rw [ixp, ix_nI (show x < 2 ^ 31 by omega)]
      generalize jm_lwi (jm_frameFor v (nI x) (u 1 p) s) (nI (js_free v 15 46 1)) s = y at q1 q2 q3
      generalize js_up (jc_mkFrame (jc_load 1) u (nI x) (u 1 p) s) 12 x (nI (js_free u 5 38 1)) = w at q1 q2 g U12 U13
      generalize js_free u 5 38 1 = n at n40 U12
      have b := q1.2.2.2.1 p hp
      have U0 : w 0 p = 0 := ((g.2.2.2.1 p).1).trans h2'
      have b2 := b.2.1 U0
      have y0 : y 0 p = 0 := by rw [← b.1]; exact U0
      have y1 : ¬ y 1 p = -2 := by
        rw [← b2.1, (g.2.2.2.1 p).2.1]
        exact h3
      have e2 : w 2 p = u 2 p := (g.2.2.2.1 p).2.2.1
      unfold jc_mfB
      rw [if_neg (by decide), ixp, e2]
      by_cases h4 : u 2 p = -2
      · rw [if_pos h4, skip y 1 (by rw [wn1 y y0, if_neg y1, ← b2.2.1, e2]; exact h4)]
        exact ⟨q1, q2, q3, jc_Gr_le g (by omega) (by omega) (by omega)⟩
      · rw [if_neg h4, doit y 1 (u 2 p) (by rw [wn1 y y0, if_neg y1, ← b2.2.1, e2]) h4]
        have gx := g.2.1 x hx x8
        have go := g.1 o ho o5
        have y14 : y 14 x = -1 := (jl_links q1 hx gx.1 hpl).2.trans U13
        have hs2 : ∀ t, t ∈ jm_es y → t.2.2.2.2 = nI x → s ≤ t.2.1 := by
          intro t ht et
          rcases q3.1 t ht with z | ⟨-, -, z, -⟩
          · exact hs t z et
          · rw [et, ix_nI (by omega)] at z
            exact absurd z x8
        have hu2 : jq 256 (u 2 p) := ((hR.1.1 p hp).2.2.2).resolve_left h4
        obtain ⟨r1, r2, r3, r4⟩ := jl_F1 q1 q2 (jl_C_Gr hC g (by omega) (by omega) (by omega)) hpe hx gx.1 hpl y14 ho (gx.2.1.trans x9) go.1 (go.2.1.trans o6) hu2 hs2
        have sl2 : jl_sl w x = 13 := by
          unfold jl_sl
          rw [if_neg (by rw [U12]; exact nI_m1 (by omega))]
        rw [sl2] at r1 r2
        have e12 : ¬ jc_mkFrame (jc_load 1) w (nI x) (u 2 p) s 12 x = -1 := by
          rw [((r4.2.1 x hx gx.1).2.2.2.2 (by omega)).1, U12]
          exact nI_m1 (by omega)
        unfold jc_mf2
        rw [ixp, e2, ix_nI (show x < 2 ^ 31 by omega), if_neg e12]
        refine ⟨r1, r2, jl_Nw_tr q3 g r3 (jl_ixs r2), jc_Gr_le (jc_Gr_tr g (jc_Gr_13 (jc_Gr_x r4))) (by omega) (by omega) (by omega)⟩
  · have h2' : ¬ u 0 p = 0 := h2
    have w0 : ∀ k, jm_wanted v r k 2 = -2 := by
      intro k
      unfold jm_wanted
      rw [ixp, if_pos (Or.inr (Or.inl (by rw [← a.1]; exact h2')))]
    rw [skip v 0 (w0 0), skip v 1 (w0 1)]
    unfold jl_in
    rw [ixp, if_neg (fun q => h2 q.2)]
    exact rf
theorem jl_25 {u v : js_S} {pe : List je_T} {pl : Nat → Option Nat} {X Y : Nat → Prop} {u0 v0 : js_S} {s z : Int32} (hR : jl_R u v pe pl) (hP : jl_P u v X Y) (hN : jl_Nw u0 v0 v s) : jl_R u (js_up v 25 0 z) pe pl ∧ jl_P u (js_up v 25 0 z) X Y ∧ jl_Nw u0 v0 (js_up v 25 0 z) s := by
  have f : ∀ g j : Nat, ¬ g = 25 → js_up v 25 0 z g j = v g j := fun g j h => js_up_f h
  have em : jm_es (js_up v 25 0 z) = jm_es v := jm_es_eq (fun g i h1 h2 => f g i (by omega))
  have er : ∀ j, jm_row (js_up v 25 0 z) j = jm_row v j := fun j => jm_row_eq (fun g h1 h2 => f g j (by omega))
  have hM := jm_Sh_25 (i := 0) (v := z) hR.2.1
  generalize js_up v 25 0 z = y at f em er hM
  obtain ⟨a1, a2, a3, a4, a5, a6, a7, a8, a9, a10, a11⟩ := hR
  refine ⟨⟨a1, hM, fun i hi => by rw [f 6 i (by decide)]; exact a3 i hi, jz_ans_eq a4 (fun _ _ _ => rfl) (fun g j hg => f g j (by omega)), ?_, by rw [em]; exact a6, fun d hd => by rw [f 10 d (by decide)]; exact a7 d hd, fun d hd h8 => ?_, fun n hn => by rw [f 15 n (by decide)]; exact a9 n hn, fun n hn h5 => by rw [f 16 n (by decide)]; exact a10 n hn h5, a11⟩, ?_, ?_⟩
  · unfold jz_sc
    rw [f 21 0 (by decide), f 22 0 (by decide), f 23 0 (by decide), f 24 0 (by decide)]
    exact a5
  · rw [f 11 d (by decide), f 12 d (by decide), f 13 d (by decide), f 14 d (by decide)]
    exact a8 d hd h8
  · unfold jl_P at hP ⊢
    rw [em]
    have e13 : ∀ d, y 13 d = v 13 d := fun d => f 13 d (by decide)
    have e14 : ∀ d, y 14 d = v 14 d := fun d => f 14 d (by decide)
    simp only [e13, e14]
    exact hP
  · refine ⟨fun t ht => ?_, fun j hj => (er j).trans (hN.2 j hj)⟩
    rw [em] at ht
    exact hN.1 t ht
theorem jl_start {K : Nat} {u v : js_S} (h : jy_S K u v) : jl_R u v [] (fun _ => none) ∧ jl_P u v (fun _ => False) (fun _ => False) := by
  obtain ⟨⟨a1, hP, hB, hz, hk, hU, hS, hb, hw, ha, hR, hsc, hM, hQ⟩, hA, hX⟩ := h
  have hB := jy_B_full hP hA hB
  have mem : ∀ t, t ∈ jm_es v ↔ t ∈ jc_es u := fun t => hX.1.mem_iff
  have l : ∀ d, d < 40 → ¬ u 8 d = 0 → v 13 d = u 12 d ∧ v 14 d = u 13 d := fun d hd h8 => (hX.2.2.1 d hd h8).2.2
  refine ⟨⟨hS, hM, hQ, ha, hsc, by rw [List.nil_append]; exact hX.1, hX.2.1, fun d hd h8 => ?_, hX.2.2.2.1, hX.2.2.2.2, fun _ _ _ => rfl⟩, hP.1, hP.2.1, fun t ht => hP.2.2.1 t ((mem t).mp ht), fun d hd h8 => ?_, fun n hn h0 h5 => ?_, fun d hd h8 n hn hl => ?_, fun d hd h8 n hn => ?_, fun d hd h8 => ?_, fun n hn h0 h5 => ?_, ?_⟩
  · have r := hX.2.2.1 d hd h8
    refine ⟨r.1, r.2.1, ?_⟩
    rw [r.2.2.1, r.2.2.2]
    rfl
  · obtain ⟨t, ht, e⟩ := hA.2 d hd h8
    obtain ⟨o, d', ho, hd', p1, p2, p8, p9, -⟩ := hP.2.2.1 t ht
    have e1 : d' = d := jn_inj (by omega) (by omega) (p2.symm.trans e)
    subst e1
    have q := hA.1 t ht
    rw [p1, ix_nI (by omega)] at q
    exact ⟨o, ho, p9, q⟩
  · obtain ⟨d, o, hd, ho, p7, p8, p9, p6, pl⟩ := hP.2.2.2.1 n hn h0 h5
    exact ⟨d, o, hd, ho, p7, p8, p9, p6, by rw [(l d hd p8).1, (l d hd p8).2]; exact pl⟩
  · rw [(l d hd h8).1, (l d hd h8).2] at hl
    exact hP.2.2.2.2 d hd h8 n hn hl
  · rw [(l d hd h8).1, (l d hd h8).2]
    exact hU d hd h8 n hn
  · obtain ⟨t, ht, e⟩ := hA.2 d hd h8
    exact Or.inr ⟨t, (mem t).mpr ht, e⟩
  · obtain ⟨t, ht, e1, e2⟩ := hB n hn h0 h5
    exact Or.inr ⟨t, (mem t).mpr ht, e1, fun t' ht' => e2 t' ((mem t').mp ht')⟩
  · exact ((hX.1.map je_k).nodup_iff).mpr hk
theorem jc_Gr_es {u w : js_S} {x a b c : Nat} (g : jc_Gr u w x a b c) {t : je_T} (ht : t ∈ jc_es u) : t ∈ jc_es w := by
  obtain ⟨i, hi, h14, rfl⟩ := jc_mem.mp ht
  obtain ⟨q1, q2, q3, q4, q5, q6⟩ := g.2.2.1 i hi h14
  exact jc_mem.mpr ⟨i, hi, q1, by rw [q2, q3, q4, q5, q6]⟩
theorem jl_finish {K L sn d0 : Nat} {u v w y : js_S} (h : jy_S K u v) (hR : jl_R w y [] (fun _ => none)) (hP : jl_P w y (fun d => d = d0) (fun _ => False)) (hN : jl_Nw u v y (nI sn)) {x a b c : Nat} (hG : jc_Gr u w x a b c) (hKL : K ≤ L) (hL : L < 2 ^ 31) (hsn : sn ≤ L) (hd0 : d0 < 40) (h80 : u 8 d0 = 0) : jy_L L w y d0 (nI sn) := by
  obtain ⟨R0, P0⟩ := jl_start h
  obtain ⟨⟨a1, hPu, hBu, hzu, hku, hUu, hSu, hbu, hwu, hau, hRu, hscu, hMu, hQu⟩, hAu, hXu⟩ := h
  obtain ⟨hS, hM, hQ, ha, hsc, hes, hdf, hdc, hnf, hna, hpn⟩ := hR
  obtain ⟨hW, hLv, hE, hO, hNn, hD, hU, hH, hB, hk⟩ := hP
  rw [List.nil_append] at hes
  have mem : ∀ t, t ∈ jc_es w ↔ t ∈ jm_es y := fun t => hes.mem_iff.symm
  have l : ∀ d, d < 40 → ¬ w 8 d = 0 → y 13 d = w 12 d ∧ y 14 d = w 13 d := fun d hd h8 => Prod.mk.inj (hdc d hd h8).2.2
  have hX : jp_X w y := ⟨hes, hdf, fun d hd h8 => ⟨(hdc d hd h8).1, (hdc d hd h8).2.1, l d hd h8⟩, hnf, hna⟩
  have new : ∀ t, t ∈ jc_es w → t ∈ jc_es u ∨ (t.2.1 = nI sn ∧ jq 256 t.2.2.1 ∧ u 8 (ix t.2.2.2.2) = 0 ∧ u 5 (ix t.1) = 0) := by
    intro t ht
    rcases hN.1 t ((mem t).mp ht) with q | q
    · exact Or.inl (hXu.1.mem_iff.mp q)
    · exact Or.inr q
  refine ⟨⟨hL, ⟨hW, hLv, fun t ht => hE t ((mem t).mp ht), fun n hn h0 h5 => ?_, fun d hd h8 n hn hl => ?_⟩, fun n hn h0 h5 _ => ?_, ⟨?_, fun t ht => ?_⟩, ((hes.map je_k).nodup_iff).mp hk, fun d hd h8 n hn => ?_, hS, fun t ht => ?_, ?_, ha, jp_XR hX, hsc, hM, hQ⟩, fun t ht => ?_, fun d hd h8 => ?_, hX, fun n hn h0 h5 h7 => ?_⟩
  · obtain ⟨d, o, hd, ho, p7, p8, p9, p6, pl⟩ := hNn n hn h0 h5
    exact ⟨d, o, hd, ho, p7, p8, p9, p6, by rw [← (l d hd p8).1, ← (l d hd p8).2]; exact pl⟩
  · rw [← (l d hd h8).1, ← (l d hd h8).2] at hl
    exact hD d hd h8 n hn hl
  · rcases hB n hn h0 h5 with q | ⟨t, ht, q1, q2⟩
    · exact q.elim
    · exact ⟨t, (mem t).mpr ht, q1, fun t' ht' => q2 t' ((mem t').mp ht')⟩
  · obtain ⟨t, ht, q⟩ := hzu.1
    exact ⟨t, jc_Gr_es hG ht, q⟩
  · rcases new t ht with q | q
    · exact hzu.2 t q
    · rw [q.1]; exact Int32.not_lt.mp (nI_pos (by omega))
  · rw [← (l d hd h8).1, ← (l d hd h8).2]
    exact hU d hd h8 n hn
  · rcases new t ht with q | q
    · obtain ⟨z1, s, z2, z3⟩ := hbu t q
      exact ⟨z1, s, by omega, z3⟩
    · exact ⟨q.2.1, sn, hsn, q.1⟩
  · obtain ⟨k, hk2, e⟩ := hwu
    exact ⟨k, by omega, hG.2.2.2.2.1.1.trans e⟩
  · obtain ⟨o, d, ho, hd, p1, p2, p8, p9, -⟩ := hE t ((mem t).mp ht)
    obtain ⟨o2, ho2, e2, e5⟩ := hO d hd p8
    have : o2 = o := jn_inj (by omega) (by omega) (e2.symm.trans p9)
    subst this
    rw [p1, ix_nI (by omega)]; exact e5
  · rcases hH d hd h8 with q | ⟨t, ht, q⟩
    · exact Or.inl q
    · exact Or.inr ⟨t, (mem t).mpr ht, q⟩
  · rcases hB n hn h0 h5 with q | ⟨t, ht, q1, q2⟩
    · exact q.elim
    · refine ⟨t, (mem t).mpr ht, q1, ?_, fun t' ht' e => q2 t' ((mem t').mp ht') (e.trans h7.symm)⟩
      rcases hN.1 t ht with z | z
      · exfalso
        obtain ⟨o, d, ho, hd, p1, p2, p8, p9, -⟩ := P0.2.2.1 t z
        obtain ⟨o2, ho2, e2, e5⟩ := P0.2.2.2.1 d hd p8
        have b1 : o2 = o := jn_inj (by omega) (by omega) (e2.symm.trans p9)
        have b2 : o = n := jn_inj (by omega) (by omega) (p1.symm.trans q1)
        rw [b1, b2] at e5
        obtain ⟨d2, o3, hd2, ho3, r7, r8, -⟩ := P0.2.2.2.2.1 n hn h0 e5
        have b3 : d2 = d0 := jn_inj (by omega) (by omega) (by rw [← r7, ← h7, (hG.1 n hn e5).2.2])
        rw [b3] at r8
        exact r8 h80
      · rw [z.1]; exact Int32.le_refl _
theorem jm_dp_1 {v : js_S} {a : Int32} : ∀ k e, (∃ i, e ≤ i ∧ i < e + k ∧ ¬ v 9 i = 0 ∧ v 4 i = 0 ∧ v 8 i = a) → jm_dp v a k e = 1
  | 0, e, hx => by
    obtain ⟨i, h1, h2, -⟩ := hx
    omega
  | k + 1, e, hx => by
    rw [jm_dp]
    by_cases q : v 9 e ≠ 0 ∧ v 4 e = 0 ∧ v 8 e = a
    · rw [if_pos q]
    · rw [if_neg q]
      refine jm_dp_1 k (e + 1) ?_
      obtain ⟨i, h1, h2, h3⟩ := hx
      refine ⟨i, ?_, by omega, h3⟩
      by_cases e2 : i = e
      · subst e2; exact absurd h3 q
      · omega
theorem jm_dp_2 {v : js_S} {a : Int32} : ∀ k e, (∀ i, e ≤ i → i < e + k → ¬ (v 9 i ≠ 0 ∧ v 4 i = 0 ∧ v 8 i = a)) → jm_dp v a k e = 2
  | 0, e, hx => rfl
  | k + 1, e, hx => by
    rw [jm_dp, if_neg (hx e (by omega) (by omega))]
    exact jm_dp_2 k (e + 1) (fun i h1 h2 => hx i (by omega) (by omega))
/-- how deep: the class's level -/
theorem jl_deep {K : Nat} {u v : js_S} (h : jy_S K u v) {o : Nat} (ho : o < 40) (o5 : ¬ u 5 o = 0) : (o = 0 ∧ u 6 o = 0 ∧ jm_deep v (nI o) = 0) ∨ (¬ o = 0 ∧ u 6 o = 1 ∧ jm_deep v (nI o) = 1) ∨ (¬ o = 0 ∧ u 6 o = 2 ∧ jm_deep v (nI o) = 2) := by
  obtain ⟨⟨a1, hP, hB, hz, hk, hU, hS, hb, hw, ha, hR, hsc, hM, hQ⟩, hA, hX⟩ := h
  by_cases e : o = 0
  · subst e
    exact Or.inl ⟨rfl, hP.1.2.1, by unfold jm_deep; exact if_pos rfl⟩
  · obtain ⟨d, w, hd, hw2, p7, p8, p9, p6, -⟩ := hP.2.2.2.1 o ho e o5
    have en : ¬ nI o = 0 := fun q => e (jn_inj (by omega) (by decide) (q.trans rfl))
    have v16 : v 16 o = nI d := (hX.2.2.2.2 o ho o5).trans p7
    obtain ⟨t, ht, et⟩ := hA.2 d hd p8
    obtain ⟨o', d', ho', hd', q1, q2, q8, q9, q6⟩ := hP.2.2.1 t ht
    have e1 : d' = d := jn_inj (by omega) (by omega) (q2.symm.trans et)
    subst e1
    have e2 : o' = w := jn_inj (by omega) (by omega) (q9.symm.trans p9)
    subst e2
    unfold jm_deep
    rw [if_neg en, ix_nI (by omega), v16]
    rcases jp_lv (hP.2.1 o ho) (hP.2.1 o' hw2) p6 with z | z
    · refine Or.inr (Or.inl ⟨e, z.2, jm_dp_1 48 0 ?_⟩)
      have w0 : o' = 0 := by
        rcases q6 with q6 | q6
        · exact q6
        · exact absurd z.1 q6
      obtain ⟨i, hi, i9, ei⟩ := jm_mem.mp (hX.1.mem_iff.mpr ht)
      rw [ei, w0] at q1
      rw [ei] at q2
      exact ⟨i, by omega, by omega, i9, q1, q2⟩
    · refine Or.inr (Or.inr ⟨e, z.2, jm_dp_2 48 0 (fun i _ hi q => ?_)⟩)
      have m := hX.1.mem_iff.mp (jm_mem.mpr ⟨i, by omega, q.1, rfl⟩)
      obtain ⟨o2, d2, ho2, hd2, r1, r2, r8, r9, r6⟩ := hP.2.2.1 _ m
      have r1' : v 4 i = nI o2 := r1
      have r2' : v 8 i = nI d2 := r2
      have b1 : d2 = d' := jn_inj (by omega) (by omega) (r2'.symm.trans q.2.2)
      subst b1
      have b2 : o2 = o' := jn_inj (by omega) (by omega) (r9.symm.trans p9)
      subst b2
      have b3 : o2 = 0 := jn_inj (by omega) (by decide) (r1'.symm.trans (q.2.1.trans rfl))
      subst b3
      rw [hP.1.2.1] at z
      exact absurd z.1 (by decide)
theorem jl_load {K L sn o : Nat} {u v : js_S} {url : Int32} (h : jy_S K u v) (ho : o < 40) (o5 : ¬ u 5 o = 0) (hC : jl_C u 4 5 4) (hu : jq 256 url) (hKL : K ≤ L) (hL : L < 2 ^ 31) (hsn : sn ≤ L) : ∃ d0 w y, d0 < 40 ∧ d0 = js_free u 8 39 0 ∧ js_free v 10 47 0 = d0 ∧ w = jc_ld u (nI o) (jc_fd u 4 url) (nI sn) ∧ y = jm_load v (nI o) url (nI sn) ∧ jy_L L w y d0 (nI sn) ∧ ¬ w 8 d0 = 0 ∧ w 9 d0 = nI o ∧ ¬ w 5 o = 0 ∧ y 25 0 = jc_fd u 4 url ∧ jc_Gr u w 40 4 5 4 ∧ jl_Nw u v y (nI sn) := by
  obtain ⟨R0, P0⟩ := jl_start h
  have hPu := h.1.2.1
  have i8 : u 8 (js_free u 8 39 0) = 0 := js_f39z (by have := hC.2.1; omega)
  have hi : js_free u 8 39 0 < 40 := js_f39
  have iv : js_free v 10 47 0 = js_free u 8 39 0 := jl_free8 R0.2.2.2.2.2.2.1 rfl i8
  have hab : u 7 o = -1 ∨ ∃ x, x < 40 ∧ u 7 o = nI x ∧ ¬ u 8 x = 0 := by
    by_cases e : o = 0
    · subst e; exact Or.inl hPu.1.2.2
    · obtain ⟨d, w, hd, hw2, p7, p8, -⟩ := hPu.2.2.2.1 o ho e o5
      exact Or.inr ⟨d, hd, p7, p8⟩
  obtain ⟨B, C, fu, fv⟩ := jl_mk R0 ho o5 hab rfl i8 hu
  have hSn := jl_doc_Sh (url := jc_fd u 4 url) R0.1 ho
  have hMn := (jm_make_ok (nav := nI o) R0.2.1 hu).1
  have hr : jq 256 (jc_fd u 4 url) := jc_fd_ok R0.1 4 hu
  obtain ⟨R1, P1⟩ := jl_make R0 P0 hi i8 ho o5 fu fv hSn hMn
  have G1 := jl_doc_Gr (o := nI o) (url := jc_fd u 4 url) i8
  have e25 : jm_make v (nI o) url 25 0 = jc_fd u 4 url := fv.2.2.2.2.2.1
  have em : jm_es (jm_make v (nI o) url) = jm_es v := jm_es_eq (fun g j h1 h2 => fv.1 g j (by omega) (by omega) (by omega))
  have er : ∀ j, jm_row (jm_make v (nI o) url) j = jm_row v j := fun j => jm_row_eq (fun g h1 h2 => fv.1 g j (by omega) (by omega) (by omega))
  have N1 : jl_Nw u v (jm_make v (nI o) url) (nI sn) := ⟨fun t ht => Or.inl (by rw [← em]; exact ht), fun j _ => er j⟩
  have P1' : jl_P (jl_doc u (nI o) (jc_fd u 4 url)) (jm_make v (nI o) url) (fun d => d = js_free u 8 39 0) (fun _ => False) := jl_P_mono P1 (fun d q => q.resolve_left id) (fun _ q => q)
  have c8 : ¬ jl_doc u (nI o) (jc_fd u 4 url) 8 (js_free u 8 39 0) = 0 := by rw [fu.2.1]; decide
  have c9 := fu.2.2.1
  have c12 := fu.2.2.2.1
  have c13 := fu.2.2.2.2.1
  have c5 : ¬ jl_doc u (nI o) (jc_fd u 4 url) 5 o = 0 := by rw [fu.1 5 o (by omega) (by omega)]; exact o5
  have c6 : jl_doc u (nI o) (jc_fd u 4 url) 6 o = u 6 o := fu.1 6 o (by omega) (by omega)
  have c0 : ∀ j, jl_doc u (nI o) (jc_fd u 4 url) 0 j = u 0 j := fun j => fu.1 0 j (by omega) (by omega)
  have hs : ∀ t, t ∈ jm_es (jm_make v (nI o) url) → t.2.2.2.2 = nI (js_free u 8 39 0) → nI sn ≤ t.2.1 := by
    intro t ht e
    rw [em] at ht
    obtain ⟨o', d, ho', hd, p1, p2, p8, -⟩ := P0.2.2.1 t ht
    have : d = js_free u 8 39 0 := jn_inj (by omega) (by omega) (p2.symm.trans e)
    rw [this] at p8
    exact absurd i8 p8
  have hl : ∀ (L : js_S → Int32 → Int32 → Int32 → js_S), jc_loadB L u (nI o) (jc_fd u 4 url) (nI sn) = jl_in L (jl_doc u (nI o) (jc_fd u 4 url)) (js_free u 8 39 0) (jc_fd u 4 url) (nI sn) := by
    intro L
    rw [jl_loadB]
    unfold jl_in
    rw [c0]
  refine ⟨js_free u 8 39 0, _, _, hi, rfl, iv, rfl, rfl, ?_⟩
  unfold jc_ld jm_load
  rw [ix_nI (show o < 2 ^ 31 by omega)]
  generalize hdoc : jl_doc u (nI o) (jc_fd u 4 url) = w at fu R1 P1 P1' G1 c8 c9 c12 c13 c5 c6 hl hSn
  generalize hmk : jm_make v (nI o) url = y at fv R1 P1 P1' e25 em er N1 hs hMn
  rcases jl_deep h ho o5 with ⟨z0, z1, z2⟩ | ⟨z0, z1, z2⟩ | ⟨z0, z1, z2⟩
  · subst z0
    rw [z1, z2, if_pos rfl]
    have e2 : 2 - ix (0 : Int32) = 2 := rfl
    rw [e2]
    have el : jc_load 2 u (nI 0) (jc_fd u 4 url) (nI sn) = jl_in (jc_load 1) w (js_free u 8 39 0) (jc_fd u 4 url) (nI sn) := hl (jc_load 1)
    rw [el]
    unfold jm_loadWindow
    have mk0 : jm_make v 0 url = y := hmk
    rw [mk0, iv, e25]
    obtain ⟨w2, y2, ew, ey, R2, P2, N2, G2⟩ := jl_in2 R1 P1' (jl_C_Gr (a' := 4) (b' := 4) (c' := 4) hC G1 (by omega) (by omega) (by omega)) (by simp) hi c8 rfl c12 c13 ho c9 c5 (c6.trans z1) hr hs
    rw [← ew, ← ey]
    have N3 := jl_Nw_tr N1 G1 N2 (jl_ixs P2)
    obtain ⟨R4, P4, N4⟩ := jl_25 (z := jc_fd u 4 url) R2 P2 N3
    have G3 := jc_Gr_nx (jc_Gr_tr (jc_Gr_x (x := js_free u 8 39 0) G1) G2) i8
    have gd := G2.2.1 _ hi c8
    refine ⟨jl_finish h R4 P4 N4 G3 hKL hL hsn hi i8, gd.1, gd.2.1.trans c9, (G2.1 0 ho c5).1, js_up_s _ _ _ _, jc_Gr_le G3 (by omega) (by omega) (by omega), N4⟩
  · rw [z1, z2, if_neg (by decide), if_pos rfl]
    have e2 : 2 - ix (1 : Int32) = 1 := rfl
    rw [e2]
    have el : jc_load 1 u (nI o) (jc_fd u 4 url) (nI sn) = jl_in (jc_load 0) w (js_free u 8 39 0) (jc_fd u 4 url) (nI sn) := hl (jc_load 0)
    rw [el]
    unfold jm_loadMiddle
    rw [hmk, iv]
    unfold jm_lm
    rw [e25]
    obtain ⟨w2, y2, ew, ey, R2, P2, N2, G2⟩ := jl_in1 R1 P1' (jl_C_Gr (a' := 1) (b' := 1) (c' := 1) hC G1 (by omega) (by omega) (by omega)) (by simp) hi c8 rfl c12 c13 ho c9 c5 (c6.trans z1) hr hs
    rw [← ew, ← ey]
    have N3 := jl_Nw_tr N1 G1 N2 (jl_ixs P2)
    obtain ⟨R4, P4, N4⟩ := jl_25 (z := jc_fd u 4 url) R2 P2 N3
    have G3 := jc_Gr_nx (jc_Gr_tr (jc_Gr_x (x := js_free u 8 39 0) G1) G2) i8
    have gd := G2.2.1 _ hi c8
    refine ⟨jl_finish h R4 P4 N4 G3 hKL hL hsn hi i8, gd.1, gd.2.1.trans c9, (G2.1 o ho c5).1, js_up_s _ _ _ _, jc_Gr_le G3 (by omega) (by omega) (by omega), N4⟩
  · rw [z1, z2, if_neg (by decide), if_neg (by decide)]
    have e2 : 2 - ix (2 : Int32) = 0 := rfl
    rw [e2]
    have el : jc_load 0 u (nI o) (jc_fd u 4 url) (nI sn) = w := by
      show jc_loadB (fun s _ _ _ => s) _ _ _ _ = w
      rw [hl]
      unfold jl_in
      split
      · refine jl_mkF0 ?_
        unfold jc_room
        rw [ix_nI (by omega), c9, ix_nI (by omega), c6, z1]
        decide
      · rfl
    rw [el]
    exact ⟨jl_finish h R1 P1' N1 G1 hKL hL hsn hi i8, c8, c9, c5, e25, jc_Gr_le G1 (by omega) (by omega) (by omega), N1⟩
