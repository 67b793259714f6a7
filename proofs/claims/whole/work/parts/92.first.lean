/-! The first stores. -/
theorem jl_rest {K : Nat} {w y : js_S} (hR : jl_R w y [] (fun _ => none)) (hP : jl_P w y (fun _ => False) (fun _ => False)) (hK : K < 2 ^ 31) (hz : jp_z w) (hb : jy_b K w) (hn : ∃ k, k ≤ K ∧ w 21 0 = nI k) : jy_S K w y := by
  obtain ⟨hS, hM, hQ, ha, hsc, hes, hdf, hdc, hnf, hna, hpn⟩ := hR
  obtain ⟨hW, hLv, hE, hO, hNn, hD, hU, hH, hB, hk⟩ := hP
  rw [List.nil_append] at hes
  have mem : ∀ t, t ∈ jc_es w ↔ t ∈ jm_es y := fun t => hes.mem_iff.symm
  have l : ∀ d, d < 40 → ¬ w 8 d = 0 → y 13 d = w 12 d ∧ y 14 d = w 13 d := fun d hd h8 => Prod.mk.inj (hdc d hd h8).2.2
  have hX : jp_X w y := ⟨hes, hdf, fun d hd h8 => ⟨(hdc d hd h8).1, (hdc d hd h8).2.1, l d hd h8⟩, hnf, hna⟩
  refine ⟨⟨hK, ⟨hW, hLv, fun t ht => hE t ((mem t).mp ht), fun n hn h0 h5 => ?_, fun d hd h8 n hn hl => ?_⟩, fun n hn h0 h5 _ => ?_, hz, ((hes.map je_k).nodup_iff).mp hk, fun d hd h8 n hn => ?_, hS, hb, hn, ha, jp_XR hX, hsc, hM, hQ⟩, ⟨fun t ht => ?_, fun d hd h8 => ?_⟩, hX⟩
  · obtain ⟨d, o, hd, ho, p7, p8, p9, p6, pl⟩ := hNn n hn h0 h5
    exact ⟨d, o, hd, ho, p7, p8, p9, p6, by rw [← (l d hd p8).1, ← (l d hd p8).2]; exact pl⟩
  · rw [← (l d hd h8).1, ← (l d hd h8).2] at hl
    exact hD d hd h8 n hn hl
  · rcases hB n hn h0 h5 with q | ⟨t, ht, q1, q2⟩
    · exact q.elim
    · exact ⟨t, (mem t).mpr ht, q1, fun t' ht' => q2 t' ((mem t').mp ht')⟩
  · rw [← (l d hd h8).1, ← (l d hd h8).2]
    exact hU d hd h8 n hn
  · obtain ⟨o, d, ho, hd, p1, p2, p8, p9, -⟩ := hE t ((mem t).mp ht)
    obtain ⟨o2, ho2, e2, e5⟩ := hO d hd p8
    have : o2 = o := jn_inj (by omega) (by omega) (e2.symm.trans p9)
    subst this
    rw [p1, ix_nI (by omega)]; exact e5
  · rcases hH d hd h8 with q | ⟨t, ht, q⟩
    · exact q.elim
    · exact ⟨t, (mem t).mpr ht, q⟩
theorem je_l_none {f : Nat → Option je_T} (h : ∀ i, f i = none) : ∀ k, je_l f k = []
  | 0 => rfl
  | k + 1 => by rw [je_l, h k, je_l_none h k]; rfl
theorem jc_u1_f {f j : Nat} : jc_u1 f j = if f = 5 ∧ j = 0 then 1 else js_new f j := rfl
theorem jm_u2_0 {f j : Nat} (h1 : ¬ (f = 1 ∨ f = 2)) (h2 : ¬ (f = 15 ∧ j = 0)) (h3 : ¬ (f = 16 ∧ j = 0)) : jm_u2 f j = 0 := by
  unfold jm_u2 js_up
  rw [if_neg h3, if_neg h2]
  unfold jm_in
  rw [if_neg (fun q => h1 q.1)]
theorem jm_u2_15 : jm_u2 15 0 = 1 := rfl
theorem jm_u2_16 : jm_u2 16 0 = -1 := rfl
theorem jm_u2_1 {f j : Nat} (h : f = 1 ∨ f = 2) (hj : j < 32) : jm_u2 f j = -2 := by
  unfold jm_u2 js_up
  rw [if_neg (by omega), if_neg (by omega)]
  unfold jm_in
  rw [if_pos ⟨h, hj⟩]
theorem jl_u1 : jl_R jc_u1 jm_u2 [] (fun _ => none) ∧ jl_P jc_u1 jm_u2 (fun _ => False) (fun _ => False) := by
  have c8 : ∀ d, jc_u1 8 d = 0 := fun d => rfl
  have c5 : ∀ n, ¬ n = 0 → jc_u1 5 n = 0 := by
    intro n h
    rw [jc_u1_f, if_neg (fun q => h q.2)]; rfl
  have ec : jc_es jc_u1 = [] := je_l_none (fun i => if_pos (show jc_u1 14 i = 0 from rfl)) 40
  have em : jm_es jm_u2 = [] := je_l_none (fun i => by unfold jm_row; rw [if_pos (jm_u2_0 (by omega) (by omega) (by omega))]) 48
  refine ⟨⟨jc_Sh_u1, jm_Sh_u2, fun i _ => ?_, fun i hi => ?_, ⟨rfl, rfl, rfl, rfl⟩, by rw [ec, em]; exact List.Perm.refl _, fun d _ => ?_, fun d _ h => absurd (c8 d) h, fun n _ => ?_, fun n _ h5 => ?_, fun _ _ _ => rfl⟩, ⟨by decide, rfl, rfl⟩, fun n _ => Or.inl rfl, fun t ht => ?_, fun d _ h => absurd (c8 d) h, fun n _ h0 h5 => absurd (c5 n h0) h5, fun d _ h => absurd (c8 d) h, fun d _ h => absurd (c8 d) h, fun d _ h => absurd (c8 d) h, fun n _ h0 h5 => absurd (c5 n h0) h5, ?_⟩
  · rw [jm_u2_0 (by omega) (by omega) (by omega)]
    exact Or.inr ⟨0, by omega, rfl⟩
  · refine ⟨?_, fun _ => ⟨?_, ?_, ?_⟩, fun q => absurd ((show jc_u1 0 i = 0 from rfl).symm.trans q) (by decide)⟩
    · rw [jm_u2_0 (by omega) (by omega) (by omega)]; rfl
    · rw [jm_u2_1 (Or.inl rfl) hi]; rfl
    · rw [jm_u2_1 (Or.inr rfl) hi]; rfl
    · rw [jm_u2_0 (by omega) (by omega) (by omega)]; rfl
  · rw [jm_u2_0 (by omega) (by omega) (by omega)]
    exact ⟨fun q => absurd rfl q, fun q => absurd (c8 d) q.2⟩
  · by_cases e : n = 0
    · subst e
      exact ⟨fun _ => ⟨by omega, by decide⟩, fun _ => by rw [jm_u2_15]; decide⟩
    · rw [jm_u2_0 (by omega) (by omega) (by omega), c5 n e]
      exact ⟨fun q => absurd rfl q, fun q => absurd rfl q.2⟩
  · by_cases e : n = 0
    · subst e
      rfl
    · exact absurd (c5 n e) h5
  · rw [em] at ht
    exact absurd ht List.not_mem_nil
  · rw [em]
    exact List.nodup_nil
theorem jz_first : jz_T 0 jc_ini jm_ini := by
  obtain ⟨R0, P0⟩ := jl_u1
  have i8 : jc_u1 8 (js_free jc_u1 8 39 0) = 0 := rfl
  have hi : js_free jc_u1 8 39 0 < 40 := js_f39
  have o5 : ¬ jc_u1 5 0 = 0 := by decide
  have hfd : jc_fd jc_u1 4 (-1) = -1 := by
    show jc_fd jc_u1 (3 + 1) (-1) = -1
    rw [jc_fd, if_pos (by unfold jc_isDet; rw [if_pos rfl])]
  have iv : js_free jm_u2 10 47 0 = js_free jc_u1 8 39 0 := jl_free8 R0.2.2.2.2.2.2.1 rfl i8
  obtain ⟨B, C, fu, fv⟩ := jl_mk (o := 0) (url := -1) R0 (by omega) o5 (Or.inl rfl) rfl i8 jq_m1
  rw [hfd] at fu fv
  have hSn := jl_doc_Sh (o := 0) (url := -1) R0.1 (by omega)
  have hMn := (jm_make_ok (nav := nI 0) R0.2.1 jq_m1).1
  obtain ⟨R1, P1⟩ := jl_make R0 P0 hi i8 (by omega) o5 fu fv hSn hMn
  have el : jc_load 2 jc_u1 0 (-1) 0 = jl_doc jc_u1 (nI 0) (-1) := by
    show jc_loadB (jc_load 1) _ _ _ _ = _
    rw [jl_loadB, if_neg (fun q => q.1 rfl)]
    rfl
  have G1 := jl_doc_Gr (o := nI 0) (url := -1) i8
  have e4 : jm_u4 = jm_write (jm_make jm_u2 (nI 0) (-1)) (nI 0) 0 (-1) (nI (js_free jc_u1 8 39 0)) := by
    unfold jm_u4
    rw [iv]
    rfl
  have ei : jc_ini = jc_addEntry (jl_doc jc_u1 (nI 0) (-1)) (nI 0) 0 (-1) 0 (nI (js_free jc_u1 8 39 0)) := by
    unfold jc_ini
    rw [el]
    rfl
  have em : jm_es (jm_make jm_u2 (nI 0) (-1)) = [] := by
    rw [jm_es_eq (u := jm_u2) (fun g j h1 h2 => fv.1 g j (by omega) (by omega) (by omega))]
    exact je_l_none (fun i => by unfold jm_row; rw [if_pos (jm_u2_0 (by omega) (by omega) (by omega))]) 48
  have eu : jc_es (jl_doc jc_u1 (nI 0) (-1)) = [] := by
    rw [jc_es_eq (u := jc_u1) (fun g j h1 h2 => fu.1 g j (by omega) (by omega))]
    exact je_l_none (fun i => if_pos (show jc_u1 14 i = 0 from rfl)) 40
  have w5 : ∀ k, ¬ k = 0 → jl_doc jc_u1 (nI 0) (-1) 5 k = 0 := by
    intro k h
    rw [fu.1 5 k (by omega) (by omega), jc_u1_f, if_neg (fun q => h q.2)]
    rfl
  have w50 : ¬ jl_doc jc_u1 (nI 0) (-1) 5 0 = 0 := by
    rw [fu.1 5 0 (by omega) (by omega)]; exact o5
  have w21 : jl_doc jc_u1 (nI 0) (-1) 21 0 = 0 := by
    rw [fu.1 21 0 (by omega) (by omega)]; rfl
  have r14 : jl_doc jc_u1 (nI 0) (-1) 14 (js_free (jl_doc jc_u1 (nI 0) (-1)) 14 39 0) = 0 := by
    rw [fu.1 14 _ (by omega) (by omega)]; rfl
  have i8' : ¬ jl_doc jc_u1 (nI 0) (-1) 8 (js_free jc_u1 8 39 0) = 0 := by rw [fu.2.1]; decide
  have i9' := fu.2.2.1
  obtain ⟨R2, P2, -⟩ := jl_write (n := 0) (i := js_free jc_u1 8 39 0) (s := 0) (url := -1) R1 P1 (by simp) (by omega) w50 (Or.inl rfl) hi i8' i9' jq_m1 (fun t ht => by rw [em] at ht; exact absurd ht List.not_mem_nil) (fun t ht => by rw [em] at ht; exact absurd ht List.not_mem_nil) (fun k _ k0 k5 => absurd (w5 k k0) k5)
  obtain ⟨R3, P3⟩ := jl_entry R2 P2 (by omega) hi r14
  have ae := jc_add_es (u := jl_doc jc_u1 (nI 0) (-1)) (o := nI 0) (s := 0) (url := -1) (st := 0) (d := nI (js_free jc_u1 8 39 0)) r14
  have a21 : jc_addEntry (jl_doc jc_u1 (nI 0) (-1)) (nI 0) 0 (-1) 0 (nI (js_free jc_u1 8 39 0)) 21 0 = 0 := (jc_add_f (by omega)).trans w21
  rw [eu] at ae
  rw [← ei] at R3 P3 ae a21
  rw [← e4] at R3 P3
  have mem : ∀ t, t ∈ jc_es jc_ini ↔ t = (nI 0, 0, -1, 0, nI (js_free jc_u1 8 39 0)) := by
    intro t
    rw [ae.mem_iff, List.mem_singleton]
  have S := jl_rest (K := 0) R3 (jl_P_mono P3 (fun d q => (q.1.elim id (fun z => absurd z q.2))) (fun k q => q.1)) (by decide) ⟨⟨_, (mem _).mpr rfl, rfl, rfl⟩, fun t ht => by rw [(mem t).mp ht]; decide⟩ (fun t ht => by rw [(mem t).mp ht]; exact ⟨jq_m1, 0, Nat.le_refl _, rfl⟩) ⟨0, Nat.le_refl _, a21⟩
  exact jy_close S ⟨_, (mem _).mpr rfl, a21.symm⟩
