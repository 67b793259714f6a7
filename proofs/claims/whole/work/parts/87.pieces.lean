/-! Loading, piece by piece on both sides. pe: entries that only the reference has yet; pl: links that only the reference has yet; X: documents that need not be held yet; Y: navigables that need have no entry yet. -/
def jl_ln (a b : Int32) : Option Nat → Int32 × Int32
  | none => (a, b)
  | some n => if a = -1 then (nI n, b) else (a, nI n)
theorem jl_ln_p {a b : Int32} {n : Nat} (h : a = -1) : jl_ln a b (some n) = (nI n, b) := if_pos h
theorem jl_ln_n {a b : Int32} {n : Nat} (h : ¬ a = -1) : jl_ln a b (some n) = (a, nI n) := if_neg h
theorem jl_ln_0 {a b : Int32} : jl_ln a b none = (a, b) := rfl
def jl_R (u v : js_S) (pe : List je_T) (pl : Nat → Option Nat) : Prop :=
  jc_Sh u ∧ jm_Sh v ∧ jm_Q v ∧ jz_ans u v ∧ jz_sc u v ∧ (jm_es v).Perm (pe ++ jc_es u) ∧
  (∀ d, d < 48 → (¬ v 10 d = 0 ↔ d < 40 ∧ ¬ u 8 d = 0)) ∧
  (∀ d, d < 40 → ¬ u 8 d = 0 → v 11 d = u 10 d ∧ v 12 d = u 11 d ∧ (v 13 d, v 14 d) = jl_ln (u 12 d) (u 13 d) (pl d)) ∧
  (∀ n, n < 48 → (¬ v 15 n = 0 ↔ n < 40 ∧ ¬ u 5 n = 0)) ∧
  (∀ n, n < 40 → ¬ u 5 n = 0 → v 16 n = u 7 n) ∧
  (∀ d, d < 40 → u 8 d = 0 → pl d = none)
def jl_P (u v : js_S) (X Y : Nat → Prop) : Prop :=
  jp_W u ∧ jp_L u ∧
  (∀ t, t ∈ jm_es v → ∃ o d, o < 40 ∧ d < 40 ∧ t.1 = nI o ∧ t.2.2.2.2 = nI d ∧ ¬ u 8 d = 0 ∧ u 9 d = nI o ∧ (o = 0 ∨ ¬ u 6 o = 0)) ∧
  (∀ d, d < 40 → ¬ u 8 d = 0 → ∃ o, o < 40 ∧ u 9 d = nI o ∧ ¬ u 5 o = 0) ∧
  (∀ n, n < 40 → ¬ n = 0 → ¬ u 5 n = 0 → ∃ d o, d < 40 ∧ o < 40 ∧ u 7 n = nI d ∧ ¬ u 8 d = 0 ∧ u 9 d = nI o ∧ u 6 n = u 6 o + 1 ∧ (v 13 d = nI n ∨ v 14 d = nI n)) ∧
  (∀ d, d < 40 → ¬ u 8 d = 0 → ∀ n, n < 40 → (v 13 d = nI n ∨ v 14 d = nI n) → ¬ n = 0 ∧ ¬ u 5 n = 0 ∧ u 7 n = nI d) ∧
  (∀ d, d < 40 → ¬ u 8 d = 0 → ∀ n, n < 40 → v 13 d = nI n → ¬ v 14 d = nI n) ∧
  (∀ d, d < 40 → ¬ u 8 d = 0 → X d ∨ ∃ t, t ∈ jm_es v ∧ t.2.2.2.2 = nI d) ∧
  (∀ n, n < 40 → ¬ n = 0 → ¬ u 5 n = 0 → Y n ∨ ∃ t, t ∈ jm_es v ∧ t.1 = nI n ∧ ∀ t', t' ∈ jm_es v → t'.2.2.2.2 = u 7 n → t.2.1 ≤ t'.2.1) ∧
  ((jm_es v).map je_k).Nodup
theorem jl_P_eq {u w v : js_S} {X Y : Nat → Prop} (h : jl_P u v X Y) (hu : ∀ f j, 5 ≤ f → f ≤ 9 → w f j = u f j) : jl_P w v X Y := by
  have e5 : ∀ j, w 5 j = u 5 j := fun j => hu 5 j (by decide) (by decide)
  have e6 : ∀ j, w 6 j = u 6 j := fun j => hu 6 j (by decide) (by decide)
  have e7 : ∀ j, w 7 j = u 7 j := fun j => hu 7 j (by decide) (by decide)
  have e8 : ∀ j, w 8 j = u 8 j := fun j => hu 8 j (by decide) (by decide)
  have e9 : ∀ j, w 9 j = u 9 j := fun j => hu 9 j (by decide) (by decide)
  unfold jl_P jp_W jp_L at h ⊢
  simp only [e5, e6, e7, e8, e9]
  exact h
theorem jl_P_mono {u v : js_S} {X Y X' Y' : Nat → Prop} (h : jl_P u v X Y) (hX : ∀ d, X d → X' d) (hY : ∀ n, Y n → Y' n) : jl_P u v X' Y' := by
  obtain ⟨h1, h2, h3, h4, h5, h6, h7, h8, h9, h10⟩ := h
  refine ⟨h1, h2, h3, h4, h5, h6, h7, fun d hd e => ?_, fun n hn h0 e => ?_, h10⟩
  · rcases h8 d hd e with q | q
    · exact Or.inl (hX d q)
    · exact Or.inr q
  · rcases h9 n hn h0 e with q | q
    · exact Or.inl (hY n q)
    · exact Or.inr q
theorem js_free_is {s : js_S} {f : Nat} : ∀ k a i, a ≤ i → i ≤ a + k → (∀ j, a ≤ j → j < i → ¬ s f j = 0) → s f i = 0 → js_free s f k a = i
  | 0, a, i, h1, h2, _, _ => by
    have : a = i := by omega
    subst this
    rfl
  | k + 1, a, i, h1, h2, h3, h4 => by
    rw [js_free]
    by_cases e : a = i
    · subst e; rw [if_pos h4]
    · rw [if_neg (h3 a (Nat.le_refl _) (by omega))]
      exact js_free_is k (a + 1) i (by omega) (by omega) (fun j h5 h6 => h3 j (by omega) h6) h4
/-- a new navigable in the document x, linked only in the reference -/
theorem jl_nav {u v : js_S} {pe : List je_T} {pl : Nat → Option Nat} {X Y : Nat → Prop} {n x o : Nat} (hR : jl_R u v pe pl) (hP : jl_P u v X Y) (hn : n < 40) (hn0 : ¬ n = 0) (n5 : u 5 n = 0) (hx : x < 40) (x8 : ¬ u 8 x = 0) (hpl : pl x = none) (h14 : v 14 x = -1) (ho : o < 40) (x9 : u 9 x = nI o) (o5 : ¬ u 5 o = 0) (o6 : u 6 o = 0 ∨ u 6 o = 1) : jl_R (jc_mk0 u n (nI x)) (jm_ff0 v (nI x) n) pe (fun e => if e = x then some n else pl e) ∧ jl_P (jc_mk0 u n (nI x)) (jm_ff0 v (nI x) n) X (fun k => Y k ∨ k = n) := by
  obtain ⟨hS, hM, hQ, ha, hsc, hes, hdf, hdc, hnf, hna, hpn⟩ := hR
  obtain ⟨hW, hL, hE, hO, hN, hD, hU, hH, hB, hk⟩ := hP
  have on : ¬ o = n := fun q => o5 (by rw [q]; exact n5)
  have c5 : jc_mk0 u n (nI x) 5 n = 1 := by
    unfold jc_mk0
    rw [js_up_f (by decide), js_up_f (by decide), js_up_s]
  have c6 : jc_mk0 u n (nI x) 6 n = u 6 o + 1 := by
    unfold jc_mk0
    rw [js_up_f (by decide), js_up_s, js_up_f (by decide), js_up_f (by decide), ix_nI (by omega), x9, ix_nI (by omega)]
  have c7 : jc_mk0 u n (nI x) 7 n = nI x := by
    unfold jc_mk0
    rw [js_up_s]
  have cf : ∀ g j : Nat, (¬ g = 5 ∧ ¬ g = 6 ∧ ¬ g = 7) ∨ ¬ j = n → jc_mk0 u n (nI x) g j = u g j := by
    intro g j h
    unfold jc_mk0
    rcases h with h | h
    · rw [js_up_f h.2.2, js_up_f h.2.1, js_up_f h.1]
    · rw [js_up_i h, js_up_i h, js_up_i h]
  have lx := (hdc x hx x8).2.2
  rw [hpl] at lx
  obtain ⟨l13, l14⟩ := Prod.mk.inj lx
  have u13 : u 13 x = -1 := l14.symm.trans h14
  have q12 := jc_S12 hS hx
  have m15 : jm_ff0 v (nI x) n 15 n = 1 := by
    unfold jm_ff0 jm_ff1
    split
    · rw [js_up_f (by decide), js_up_f (by decide), js_up_s]
    · rw [js_up_f (by decide), js_up_f (by decide), js_up_s]
  have m16 : jm_ff0 v (nI x) n 16 n = nI x := by
    unfold jm_ff0 jm_ff1
    split
    · rw [js_up_f (by decide), js_up_s]
    · rw [js_up_f (by decide), js_up_s]
  have mf : ∀ g j : Nat, ¬ ((g = 15 ∨ g = 16) ∧ j = n) → ¬ ((g = 13 ∨ g = 14) ∧ j = x) → jm_ff0 v (nI x) n g j = v g j := by
    intro g j h1 h2
    unfold jm_ff0 jm_ff1
    rw [ix_nI (by omega)]
    split
    · unfold js_up
      rw [if_neg (fun q => h2 ⟨Or.inr q.1, q.2⟩), if_neg (fun q => h1 ⟨Or.inr q.1, q.2⟩), if_neg (fun q => h1 ⟨Or.inl q.1, q.2⟩)]
    · unfold js_up
      rw [if_neg (fun q => h2 ⟨Or.inl q.1, q.2⟩), if_neg (fun q => h1 ⟨Or.inr q.1, q.2⟩), if_neg (fun q => h1 ⟨Or.inl q.1, q.2⟩)]
  have ml : (u 12 x = -1 ∧ jm_ff0 v (nI x) n 13 x = nI n ∧ jm_ff0 v (nI x) n 14 x = -1) ∨ (¬ u 12 x = -1 ∧ jm_ff0 v (nI x) n 13 x = u 12 x ∧ jm_ff0 v (nI x) n 14 x = nI n) := by
    unfold jm_ff0 jm_ff1
    rw [ix_nI (by omega), js_up_f (f := 16) (g := 13) (by decide), js_up_f (f := 15) (g := 13) (by decide), l13]
    rcases q12 with e | ⟨k, hk, e⟩
    · refine Or.inl ⟨e, ?_, ?_⟩
      · rw [e, if_neg (by decide), js_up_s]
      · rw [e, if_neg (by decide), js_up_f (by decide), js_up_f (by decide), js_up_f (by decide)]; exact h14
    · refine Or.inr ⟨by rw [e]; exact nI_m1 (by omega), ?_, ?_⟩
      · rw [e, if_pos (Int32.not_lt.mp (nI_pos (by omega))), js_up_f (by decide), js_up_f (by decide), js_up_f (by decide), l13]; exact e
      · rw [e, if_pos (Int32.not_lt.mp (nI_pos (by omega))), js_up_s]
  have hSn : jc_Sh (jc_mk0 u n (nI x)) := by
    unfold jc_mk0
    refine jc_Sh_7 (jc_Sh_6 (jc_Sh_5 hS)) hx ?_
    rw [js_up_f (by decide), js_up_f (by decide), x9]
    exact nI_m1 (by omega)
  have hMn : jm_Sh (jm_ff0 v (nI x) n) := jm_Sh_ff0 hM ⟨x, by omega, rfl⟩ (by omega)
  generalize jc_mk0 u n (nI x) = w at c5 c6 c7 cf hSn
  generalize jm_ff0 v (nI x) n = y at m15 m16 mf ml hMn
  have es : jc_es w = jc_es u := jc_es_eq (fun g i h1 h2 => cf g i (Or.inl (by omega)))
  have em : jm_es y = jm_es v := jm_es_eq (fun g i h1 h2 => mf g i (by omega) (by omega))
  have g8 : ∀ j, w 8 j = u 8 j := fun j => cf 8 j (Or.inl (by omega))
  have g9 : ∀ j, w 9 j = u 9 j := fun j => cf 9 j (Or.inl (by omega))
  have w5 : ∀ j, ¬ u 5 j = 0 → ¬ w 5 j = 0 := by
    intro j h
    by_cases e : j = n
    · rw [e, c5]; decide
    · rw [cf 5 j (Or.inr e)]; exact h
  have w5' : ∀ j, ¬ j = n → ¬ w 5 j = 0 → ¬ u 5 j = 0 := by
    intro j e h
    rw [cf 5 j (Or.inr e)] at h; exact h
  refine ⟨⟨hSn, hMn, fun i hi => ?_, jz_ans_eq ha (fun g j hg => cf g j (Or.inl (by omega))) (fun g j hg => mf g j (by omega) (by omega)), ?_, ?_, fun d hd => ?_, fun d hd h8 => ?_, fun k hk2 => ?_, fun k hk2 k5 => ?_, fun d hd h8 => ?_⟩, ⟨?_, ?_, ?_⟩, fun k hk2 => ?_, fun t ht => ?_, fun d hd h8 => ?_, fun k hk2 k0 k5 => ?_, fun d hd h8 k hk2 hl => ?_, fun d hd h8 k hk2 => ?_, fun d hd h8 => ?_, fun k hk2 k0 k5 => ?_, ?_⟩
  · rw [mf 6 i (by omega) (by omega)]; exact hQ i hi
  · unfold jz_sc
    rw [cf 21 0 (Or.inl (by omega)), cf 22 0 (Or.inl (by omega)), cf 23 0 (Or.inl (by omega)), cf 24 0 (Or.inl (by omega)), mf 21 0 (by omega) (by omega), mf 22 0 (by omega) (by omega), mf 23 0 (by omega) (by omega), mf 24 0 (by omega) (by omega)]
    exact hsc
  · rw [es, em]; exact hes
  · rw [mf 10 d (by omega) (by omega), g8]; exact hdf d hd
  · rw [g8] at h8
    have r := hdc d hd h8
    rw [mf 11 d (by omega) (by omega), mf 12 d (by omega) (by omega), cf 10 d (Or.inl (by omega)), cf 11 d (Or.inl (by omega)), cf 12 d (Or.inl (by omega)), cf 13 d (Or.inl (by omega))]
    refine ⟨r.1, r.2.1, ?_⟩
    by_cases e : d = x
    · subst e
      dsimp only
      rw [if_pos rfl]
      rcases ml with ⟨e1, e2, e3⟩ | ⟨e1, e2, e3⟩
      · rw [jl_ln_p e1, e2, e3, u13]
      · rw [jl_ln_n e1, e2, e3]
    · dsimp only
      rw [if_neg e, mf 13 d (by omega) (by omega), mf 14 d (by omega) (by omega)]
      exact r.2.2
  · by_cases e : k = n
    · subst e
      rw [m15, c5]
      exact ⟨fun _ => ⟨hn, by decide⟩, fun _ => by decide⟩
    · rw [mf 15 k (by omega) (by omega), cf 5 k (Or.inr e)]; exact hnf k hk2
  · by_cases e : k = n
    · subst e
      rw [m16, c7]
    · rw [cf 5 k (Or.inr e)] at k5
      rw [mf 16 k (by omega) (by omega), cf 7 k (Or.inr e)]; exact hna k hk2 k5
  · rw [g8] at h8
    by_cases e : d = x
    · exact absurd (e ▸ h8) x8
    · dsimp only
      rw [if_neg e]; exact hpn d hd h8
  · exact w5 0 hW.1
  · rw [cf 6 0 (Or.inr (fun q => hn0 q.symm))]; exact hW.2.1
  · rw [cf 7 0 (Or.inr (fun q => hn0 q.symm))]; exact hW.2.2
  · by_cases e : k = n
    · subst e
      rw [c6]
      rcases o6 with q | q
      · rw [q]; exact Or.inr (Or.inl (by decide))
      · rw [q]; exact Or.inr (Or.inr (by decide))
    · rw [cf 6 k (Or.inr e)]; exact hL k hk2
  · rw [em] at ht
    obtain ⟨o', d, ho', hd, p1, p2, p8, p9, p6⟩ := hE t ht
    obtain ⟨o2, ho2, e2, e5⟩ := hO d hd p8
    have : o2 = o' := jn_inj (by omega) (by omega) (e2.symm.trans p9)
    subst this
    refine ⟨o2, d, ho', hd, p1, p2, by rw [g8]; exact p8, by rw [g9]; exact p9, ?_⟩
    rw [cf 6 o2 (Or.inr (fun q => e5 (by rw [q]; exact n5)))]
    exact p6
  · rw [g8] at h8
    obtain ⟨o2, ho2, e2, e5⟩ := hO d hd h8
    exact ⟨o2, ho2, by rw [g9]; exact e2, w5 o2 e5⟩
  · by_cases e : k = n
    · subst e
      refine ⟨x, o, hx, ho, c7, by rw [g8]; exact x8, by rw [g9]; exact x9, by rw [c6, cf 6 o (Or.inr on)], ?_⟩
      rcases ml with ⟨e1, e2, e3⟩ | ⟨e1, e2, e3⟩
      · exact Or.inl e2
      · exact Or.inr e3
    · obtain ⟨d, o', hd, ho', r7, r8, r9, r6, rl⟩ := hN k hk2 k0 (w5' k e k5)
      obtain ⟨o2, ho2, e2, e5⟩ := hO d hd r8
      have : o2 = o' := jn_inj (by omega) (by omega) (e2.symm.trans r9)
      subst this
      refine ⟨d, o2, hd, ho', by rw [cf 7 k (Or.inr e)]; exact r7, by rw [g8]; exact r8, by rw [g9]; exact r9, by rw [cf 6 k (Or.inr e), cf 6 o2 (Or.inr (fun q => e5 (by rw [q]; exact n5)))]; exact r6, ?_⟩
      by_cases ex : d = x
      · subst ex
        rw [l13, h14] at rl
        rcases rl with rl | rl
        · rcases ml with ⟨e1, -, -⟩ | ⟨-, e2, -⟩
          · rw [e1] at rl; exact absurd rl.symm (nI_m1 (by omega))
          · exact Or.inl (e2.trans rl)
        · exact absurd rl.symm (nI_m1 (by omega))
      · rw [mf 13 d (by omega) (by omega), mf 14 d (by omega) (by omega)]; exact rl
  · rw [g8] at h8
    have old : (v 13 d = nI k ∨ v 14 d = nI k) → ¬ k = 0 ∧ ¬ w 5 k = 0 ∧ w 7 k = nI d := by
      intro hl
      have r := hD d hd h8 k hk2 hl
      have kn : ¬ k = n := fun q => r.2.1 (by rw [q]; exact n5)
      exact ⟨r.1, w5 k r.2.1, by rw [cf 7 k (Or.inr kn)]; exact r.2.2⟩
    by_cases ex : d = x
    · subst ex
      rcases ml with ⟨e1, e2, e3⟩ | ⟨e1, e2, e3⟩
      · rw [e2, e3] at hl
        rcases hl with hl | hl
        · have : n = k := jn_inj (by omega) (by omega) hl
          subst this
          exact ⟨hn0, by rw [c5]; decide, c7⟩
        · exact absurd hl.symm (nI_m1 (by omega))
      · rw [e2, e3] at hl
        rcases hl with hl | hl
        · exact old (Or.inl (l13.trans hl))
        · have : n = k := jn_inj (by omega) (by omega) hl
          subst this
          exact ⟨hn0, by rw [c5]; decide, c7⟩
    · rw [mf 13 d (by omega) (by omega), mf 14 d (by omega) (by omega)] at hl
      exact old hl
  · rw [g8] at h8
    by_cases ex : d = x
    · subst ex
      rcases ml with ⟨e1, e2, e3⟩ | ⟨e1, e2, e3⟩
      · rw [e3]
        exact fun _ q => nI_m1 (by omega) q.symm
      · rw [e2, e3]
        intro q1 q2
        have : n = k := jn_inj (by omega) (by omega) q2
        subst this
        exact (hD d hd h8 n hk2 (Or.inl (l13.trans q1))).2.1 n5
    · rw [mf 13 d (by omega) (by omega), mf 14 d (by omega) (by omega)]
      exact hU d hd h8 k hk2
  · rw [g8] at h8
    rw [em]
    exact hH d hd h8
  · by_cases e : k = n
    · exact Or.inl (Or.inr e)
    · rw [em, cf 7 k (Or.inr e)]
      rcases hB k hk2 k0 (w5' k e k5) with q | q
      · exact Or.inl (Or.inl q)
      · exact Or.inr q
  · rw [em]; exact hk
/-- a new document i of the navigable o -/
def jl_fu (u w : js_S) (i o : Nat) (B : Int32) (C : Option Int32) : Prop :=
  (∀ g j : Nat, ¬ g = 24 → ¬ (8 ≤ g ∧ g ≤ 13 ∧ j = i) → w g j = u g j) ∧ w 8 i = 1 ∧ w 9 i = nI o ∧ w 12 i = -1 ∧ w 13 i = -1 ∧ w 11 i = B ∧
  ((C = none ∧ w 24 0 = u 24 0 + 1 ∧ w 10 i = 4 + u 24 0) ∨ (C = some (w 10 i) ∧ w 24 0 = u 24 0))
def jl_fv (v y : js_S) (i : Nat) (B : Int32) (C : Option Int32) (url : Int32) : Prop :=
  (∀ g j : Nat, ¬ g = 22 → ¬ g = 25 → ¬ (10 ≤ g ∧ g ≤ 14 ∧ j = i) → y g j = v g j) ∧ y 10 i = 1 ∧ y 13 i = -1 ∧ y 14 i = -1 ∧ y 12 i = B ∧ y 25 0 = url ∧
  ((C = none ∧ y 22 0 = v 22 0 + 1 ∧ y 11 i = 3 + (v 22 0 + 1)) ∨ (C = some (y 11 i) ∧ y 22 0 = v 22 0))
theorem jl_make {u v w y : js_S} {pe : List je_T} {pl : Nat → Option Nat} {X Y : Nat → Prop} {i o : Nat} {B url : Int32} {C : Option Int32} (hR : jl_R u v pe pl) (hP : jl_P u v X Y) (hi : i < 40) (i8 : u 8 i = 0) (ho : o < 40) (o5 : ¬ u 5 o = 0) (hu : jl_fu u w i o B C) (hv : jl_fv v y i B C url) (hSn : jc_Sh w) (hMn : jm_Sh y) : jl_R w y pe pl ∧ jl_P w y (fun d => X d ∨ d = i) Y := by
  obtain ⟨hS, hM, hQ, ha, hsc, hes, hdf, hdc, hnf, hna, hpn⟩ := hR
  obtain ⟨hW, hL, hE, hO, hN, hD, hU, hH, hB, hk⟩ := hP
  obtain ⟨cf, c8, c9, c12, c13, c11, cc⟩ := hu
  obtain ⟨mf, m10, m13, m14, m12, m25, mc⟩ := hv
  have es : jc_es w = jc_es u := jc_es_eq (fun g i h1 h2 => cf g i (by omega) (by omega))
  have em : jm_es y = jm_es v := jm_es_eq (fun g i h1 h2 => mf g i (by omega) (by omega) (by omega))
  have g5 : ∀ j, w 5 j = u 5 j := fun j => cf 5 j (by omega) (by omega)
  have g6 : ∀ j, w 6 j = u 6 j := fun j => cf 6 j (by omega) (by omega)
  have g7 : ∀ j, w 7 j = u 7 j := fun j => cf 7 j (by omega) (by omega)
  have g8 : ∀ j, ¬ j = i → w 8 j = u 8 j := fun j h => cf 8 j (by omega) (by omega)
  have g9 : ∀ j, ¬ j = i → w 9 j = u 9 j := fun j h => cf 9 j (by omega) (by omega)
  have ne : ∀ j, ¬ u 8 j = 0 → ¬ j = i := fun j h q => h (by rw [q]; exact i8)
  have w8 : ∀ j, ¬ u 8 j = 0 → ¬ w 8 j = 0 := fun j h => by rw [g8 j (ne j h)]; exact h
  have w9 : ∀ j, ¬ u 8 j = 0 → w 9 j = u 9 j := fun j h => g9 j (ne j h)
  have oc : w 24 0 = y 22 0 ∧ y 11 i = w 10 i := by
    rcases cc with ⟨k1, k2, k3⟩ | ⟨k1, k2⟩
    · rcases mc with ⟨q1, q2, q3⟩ | ⟨q1, q2⟩
      · refine ⟨by rw [k2, q2, hsc.2.2.2], ?_⟩
        rw [q3, k3, hsc.2.2.2, Int32.add_comm (v 22 0) 1, ← Int32.add_assoc]
        rfl
      · rw [k1] at q1; cases q1
    · rcases mc with ⟨q1, q2, q3⟩ | ⟨q1, q2⟩
      · rw [k1] at q1; cases q1
      · refine ⟨by rw [k2, q2]; exact hsc.2.2.2, ?_⟩
        rw [k1] at q1
        exact (Option.some.inj q1).symm
  refine ⟨⟨hSn, hMn, fun j hj => ?_, jz_ans_eq ha (fun g j hg => cf g j (by omega) (by omega)) (fun g j hg => mf g j (by omega) (by omega) (by omega)), ⟨?_, ?_, ?_, oc.1⟩, ?_, fun d hd => ?_, fun d hd h8 => ?_, fun k hk2 => ?_, fun k hk2 k5 => ?_, fun d hd h8 => ?_⟩, ⟨?_, ?_, ?_⟩, fun k hk2 => ?_, fun t ht => ?_, fun d hd h8 => ?_, fun k hk2 k0 k5 => ?_, fun d hd h8 k hk2 hl => ?_, fun d hd h8 k hk2 => ?_, fun d hd h8 => ?_, fun k hk2 k0 k5 => ?_, ?_⟩
  · rw [mf 6 j (by omega) (by omega) (by omega)]; exact hQ j hj
  · rw [cf 21 0 (by omega) (by omega), mf 21 0 (by omega) (by omega) (by omega)]; exact hsc.1
  · rw [cf 22 0 (by omega) (by omega), mf 23 0 (by omega) (by omega) (by omega)]; exact hsc.2.1
  · rw [cf 23 0 (by omega) (by omega), mf 24 0 (by omega) (by omega) (by omega)]; exact hsc.2.2.1
  · rw [es, em]; exact hes
  · by_cases e : d = i
    · subst e
      rw [m10, c8]
      exact ⟨fun _ => ⟨hi, by decide⟩, fun _ => by decide⟩
    · rw [mf 10 d (by omega) (by omega) (by omega), g8 d e]; exact hdf d hd
  · by_cases e : d = i
    · subst e
      refine ⟨oc.2, by rw [m12, c11], ?_⟩
      rw [m13, m14, c12, c13, hpn d hd i8]
      rfl
    · rw [g8 d e] at h8
      rw [mf 11 d (by omega) (by omega) (by omega), mf 12 d (by omega) (by omega) (by omega), mf 13 d (by omega) (by omega) (by omega), mf 14 d (by omega) (by omega) (by omega), cf 10 d (by omega) (by omega), cf 11 d (by omega) (by omega), cf 12 d (by omega) (by omega), cf 13 d (by omega) (by omega)]
      exact hdc d hd h8
  · rw [mf 15 k (by omega) (by omega) (by omega), g5]; exact hnf k hk2
  · rw [g5] at k5
    rw [mf 16 k (by omega) (by omega) (by omega), g7]; exact hna k hk2 k5
  · by_cases e : d = i
    · subst e
      exact hpn d hd i8
    · rw [g8 d e] at h8
      exact hpn d hd h8
  · rw [g5]; exact hW.1
  · rw [g6]; exact hW.2.1
  · rw [g7]; exact hW.2.2
  · rw [g6]; exact hL k hk2
  · rw [em] at ht
    obtain ⟨o', d, ho', hd, p1, p2, p8, p9, p6⟩ := hE t ht
    exact ⟨o', d, ho', hd, p1, p2, w8 d p8, by rw [w9 d p8]; exact p9, by rw [g6]; exact p6⟩
  · by_cases e : d = i
    · subst e
      exact ⟨o, ho, c9, by rw [g5]; exact o5⟩
    · rw [g8 d e] at h8
      obtain ⟨o2, ho2, e2, e5⟩ := hO d hd h8
      exact ⟨o2, ho2, by rw [w9 d h8]; exact e2, by rw [g5]; exact e5⟩
  · rw [g5] at k5
    obtain ⟨d, o', hd, ho', r7, r8, r9, r6, rl⟩ := hN k hk2 k0 k5
    have := ne d r8
    exact ⟨d, o', hd, ho', by rw [g7]; exact r7, w8 d r8, by rw [w9 d r8]; exact r9, by rw [g6, g6]; exact r6, by rw [mf 13 d (by omega) (by omega) (by omega), mf 14 d (by omega) (by omega) (by omega)]; exact rl⟩
  · by_cases e : d = i
    · subst e
      rw [m13, m14] at hl
      rcases hl with hl | hl
      · exact absurd hl.symm (nI_m1 (by omega))
      · exact absurd hl.symm (nI_m1 (by omega))
    · rw [g8 d e] at h8
      rw [mf 13 d (by omega) (by omega) (by omega), mf 14 d (by omega) (by omega) (by omega)] at hl
      rw [g5, g7]
      exact hD d hd h8 k hk2 hl
  · by_cases e : d = i
    · subst e
      rw [m14]
      exact fun _ q => nI_m1 (by omega) q.symm
    · rw [g8 d e] at h8
      rw [mf 13 d (by omega) (by omega) (by omega), mf 14 d (by omega) (by omega) (by omega)]
      exact hU d hd h8 k hk2
  · by_cases e : d = i
    · exact Or.inl (Or.inr e)
    · rw [g8 d e] at h8
      rw [em]
      rcases hH d hd h8 with q | q
      · exact Or.inl (Or.inl q)
      · exact Or.inr q
  · rw [g5] at k5
    rw [em, g7]
    exact hB k hk2 k0 k5
  · rw [em]; exact hk
/-- the reference writes the first entry of a navigable n, with the document i -/
theorem jl_write {u v : js_S} {pe : List je_T} {pl : Nat → Option Nat} {X Y : Nat → Prop} {n i : Nat} {s url : Int32} (hR : jl_R u v pe pl) (hP : jl_P u v X Y) (hpe : pe.length ≤ 5) (hn : n < 40) (n5 : ¬ u 5 n = 0) (n6 : n = 0 ∨ ¬ u 6 n = 0) (hi : i < 40) (i8 : ¬ u 8 i = 0) (i9 : u 9 i = nI n) (hu : jq 256 url) (hnew : ∀ t, t ∈ jm_es v → ¬ t.1 = nI n) (hs : ∀ t, t ∈ jm_es v → t.2.2.2.2 = u 7 n → s ≤ t.2.1) (hfr : ∀ k, k < 40 → ¬ k = 0 → ¬ u 5 k = 0 → ¬ u 7 k = nI i) : jl_R u (jm_write v (nI n) s url (nI i)) ((nI n, s, url, 0, nI i) :: pe) pl ∧ jl_P u (jm_write v (nI n) s url (nI i)) (fun d => X d ∧ ¬ d = i) (fun k => Y k ∧ ¬ k = n) ∧ (∀ j, ¬ v 9 j = 0 → jm_row (jm_write v (nI n) s url (nI i)) j = jm_row v j) := by
  obtain ⟨hS, hM, hQ, ha, hsc, hes, hdf, hdc, hnf, hna, hpn⟩ := hR
  obtain ⟨hW, hL, hE, hO, hN, hD, hU, hH, hB, hk⟩ := hP
  have r9 : v 9 (js_free v 9 47 0) = 0 := by
    have e1 : jm_cntF v 9 48 = (jm_es v).length := je_len_m 48
    have e2 : jm_cntF u 14 40 = (jc_es u).length := je_len_c 40
    have e3 := cn_le (u := u) (f := 14) 40
    have e4 := hes.length_eq
    rw [List.length_append] at e4
    obtain ⟨i, hi, e⟩ := cn_ex (u := v) (f := 9) 48 (by omega)
    exact js_free_z 47 0 ⟨i, by omega, by omega, e⟩
  have ev := jm_wr_es (u := v) (o := nI n) (s := s) (url := url) (d := nI i) r9
  have mf : ∀ g j : Nat, g < 4 ∨ 9 < g → jm_write v (nI n) s url (nI i) g j = v g j := fun g j h => jm_wr_f (by omega)
  have m6 : ∀ j, j < 48 → jq 256 (jm_write v (nI n) s url (nI i) 6 j) := by
    intro j hj
    by_cases e : j = js_free v 9 47 0
    · subst e
      have : jm_write v (nI n) s url (nI i) 6 (js_free v 9 47 0) = url := by
        unfold jm_write jm_wr
        rw [js_up_f (by decide), js_up_f (by decide), js_up_s]
      rw [this]; exact hu
    · have : jm_write v (nI n) s url (nI i) 6 j = v 6 j := jm_wr_f (Or.inr (Or.inr e))
      rw [this]; exact hQ j hj
  have hMn : jm_Sh (jm_write v (nI n) s url (nI i)) := jm_Sh_wr hM ⟨n, by omega, rfl⟩ ⟨i, by omega, rfl⟩
  have mr : ∀ j, ¬ v 9 j = 0 → jm_row (jm_write v (nI n) s url (nI i)) j = jm_row v j := by
    intro j hj
    have e : ¬ j = js_free v 9 47 0 := fun q => hj (by rw [q]; exact r9)
    exact jm_row_eq (fun f _ _ => jm_wr_f (Or.inr (Or.inr e)))
  generalize jm_write v (nI n) s url (nI i) = y at ev mf m6 hMn mr
  have mem : ∀ t, t ∈ jm_es y ↔ t = (nI n, s, url, 0, nI i) ∨ t ∈ jm_es v := by
    intro t
    rw [ev.mem_iff, List.mem_cons]
  refine ⟨⟨hS, hMn, m6, jz_ans_eq ha (fun _ _ _ => rfl) (fun g j hg => mf g j (by omega)), ?_, ?_, fun d hd => ?_, fun d hd h8 => ?_, fun k hk2 => ?_, fun k hk2 k5 => ?_, hpn⟩, ⟨hW, hL, fun t ht => ?_, hO, fun k hk2 k0 k5 => ?_, fun d hd h8 k hk2 hl => ?_, fun d hd h8 k hk2 => ?_, fun d hd h8 => ?_, fun k hk2 k0 k5 => ?_, ?_⟩, mr⟩
  · unfold jz_sc
    rw [mf 21 0 (by omega), mf 22 0 (by omega), mf 23 0 (by omega), mf 24 0 (by omega)]
    exact hsc
  · exact ev.trans (hes.cons _)
  · rw [mf 10 d (by omega)]; exact hdf d hd
  · rw [mf 11 d (by omega), mf 12 d (by omega), mf 13 d (by omega), mf 14 d (by omega)]; exact hdc d hd h8
  · rw [mf 15 k (by omega)]; exact hnf k hk2
  · rw [mf 16 k (by omega)]; exact hna k hk2 k5
  · rcases (mem t).mp ht with rfl | ht
    · exact ⟨n, i, hn, hi, rfl, rfl, i8, i9, n6⟩
    · exact hE t ht
  · obtain ⟨d, o, hd, ho, r7, r8, r9', r6, rl⟩ := hN k hk2 k0 k5
    exact ⟨d, o, hd, ho, r7, r8, r9', r6, by rw [mf 13 d (by omega), mf 14 d (by omega)]; exact rl⟩
  · rw [mf 13 d (by omega), mf 14 d (by omega)] at hl
    exact hD d hd h8 k hk2 hl
  · rw [mf 13 d (by omega), mf 14 d (by omega)]
    exact hU d hd h8 k hk2
  · by_cases e : d = i
    · subst e
      exact Or.inr ⟨_, (mem _).mpr (Or.inl rfl), rfl⟩
    · rcases hH d hd h8 with q | ⟨t, ht, q⟩
      · exact Or.inl ⟨q, e⟩
      · exact Or.inr ⟨t, (mem t).mpr (Or.inr ht), q⟩
  · by_cases e : k = n
    · subst e
      refine Or.inr ⟨_, (mem _).mpr (Or.inl rfl), rfl, fun t' ht' e2 => ?_⟩
      rcases (mem t').mp ht' with rfl | q
      · exact Int32.le_refl _
      · exact hs t' q e2
    · rcases hB k hk2 k0 k5 with q | ⟨t, ht, q1, q2⟩
      · exact Or.inl ⟨q, e⟩
      · refine Or.inr ⟨t, (mem t).mpr (Or.inr ht), q1, fun t' ht' e2 => ?_⟩
        rcases (mem t').mp ht' with rfl | q
        · exact absurd e2.symm (hfr k hk2 k0 k5)
        · exact q2 t' q e2
  · refine ((ev.map je_k).nodup_iff).mpr ?_
    rw [List.map_cons, List.nodup_cons]
    refine ⟨fun q => ?_, hk⟩
    obtain ⟨t, ht, e⟩ := List.mem_map.mp q
    exact hnew t ht (congrArg Prod.fst e)
/-- the class adds an entry that the reference has -/
theorem jl_entry {u v : js_S} {pe : List je_T} {pl : Nat → Option Nat} {X Y : Nat → Prop} {n i : Nat} {s url : Int32} (hR : jl_R u v ((nI n, s, url, 0, nI i) :: pe) pl) (hP : jl_P u v X Y) (hn : n < 40) (hi : i < 40) (hr : u 14 (js_free u 14 39 0) = 0) : jl_R (jc_addEntry u (nI n) s url 0 (nI i)) v pe pl ∧ jl_P (jc_addEntry u (nI n) s url 0 (nI i)) v X Y := by
  obtain ⟨hS, hM, hQ, ha, hsc, hes, hdf, hdc, hnf, hna, hpn⟩ := hR
  have eu := jc_add_es (u := u) (o := nI n) (s := s) (url := url) (st := 0) (d := nI i) hr
  have cf : ∀ g j : Nat, g < 14 ∨ 19 < g → jc_addEntry u (nI n) s url 0 (nI i) g j = u g j := fun g j h => jc_add_f (by omega)
  have hSn : jc_Sh (jc_addEntry u (nI n) s url 0 (nI i)) := jc_Sh_add hS hn hi
  generalize jc_addEntry u (nI n) s url 0 (nI i) = w at eu cf hSn
  refine ⟨⟨hSn, hM, hQ, jz_ans_eq ha (fun g j hg => cf g j (by omega)) (fun _ _ _ => rfl), ?_, ?_, fun d hd => ?_, fun d hd h8 => ?_, fun k hk2 => ?_, fun k hk2 k5 => ?_, fun d hd h8 => ?_⟩, jl_P_eq hP (fun f j _ h2 => cf f j (by omega))⟩
  · unfold jz_sc
    rw [cf 21 0 (by omega), cf 22 0 (by omega), cf 23 0 (by omega), cf 24 0 (by omega)]
    exact hsc
  · refine hes.trans ?_
    rw [List.cons_append]
    exact List.perm_middle.symm.trans (List.Perm.append_left pe eu.symm)
  · rw [cf 8 d (by omega)]; exact hdf d hd
  · rw [cf 8 d (by omega)] at h8
    rw [cf 10 d (by omega), cf 11 d (by omega), cf 12 d (by omega), cf 13 d (by omega)]; exact hdc d hd h8
  · rw [cf 5 k (by omega)]; exact hnf k hk2
  · rw [cf 5 k (by omega)] at k5
    rw [cf 7 k (by omega)]; exact hna k hk2 k5
  · rw [cf 8 d (by omega)] at h8
    exact hpn d hd h8
def jl_sl (u : js_S) (x : Nat) : Nat := if u 12 x = -1 then 12 else 13
/-- the class links a frame that the reference has linked -/
theorem jl_link {u v : js_S} {pe : List je_T} {pl : Nat → Option Nat} {X Y : Nat → Prop} {n x : Nat} (hR : jl_R u v pe (fun e => if e = x then some n else pl e)) (hP : jl_P u v X Y) (hn : n < 40) (hpl : pl x = none) : jl_R (js_up u (jl_sl u x) x (nI n)) v pe pl ∧ jl_P (js_up u (jl_sl u x) x (nI n)) v X Y := by
  obtain ⟨hS, hM, hQ, ha, hsc, hes, hdf, hdc, hnf, hna, hpn⟩ := hR
  have sl : jl_sl u x = 12 ∨ jl_sl u x = 13 := by
    unfold jl_sl
    split
    · exact Or.inl rfl
    · exact Or.inr rfl
  have hSn : jc_Sh (js_up u (jl_sl u x) x (nI n)) := by
    rcases sl with q | q
    · rw [q]; exact jc_Sh_12 hS (jq_nI hn)
    · rw [q]; exact jc_Sh_13 hS (jq_nI hn)
  have cf : ∀ g j : Nat, ¬ g = 12 → ¬ g = 13 → js_up u (jl_sl u x) x (nI n) g j = u g j := fun g j h1 h2 => js_up_f (by omega)
  refine ⟨⟨hSn, hM, hQ, jz_ans_eq ha (fun g j hg => cf g j (by omega) (by omega)) (fun _ _ _ => rfl), ?_, ?_, fun d hd => ?_, fun d hd h8 => ?_, fun k hk2 => ?_, fun k hk2 k5 => ?_, fun d hd h8 => ?_⟩, jl_P_eq hP (fun f j _ h2 => cf f j (by omega) (by omega))⟩
  · unfold jz_sc
    rw [cf 21 0 (by omega) (by omega), cf 22 0 (by omega) (by omega), cf 23 0 (by omega) (by omega), cf 24 0 (by omega) (by omega)]
    exact hsc
  · rw [jc_es_eq (u := u) (fun f i h1 h2 => cf f i (by omega) (by omega))]; exact hes
  · rw [cf 8 d (by omega) (by omega)]; exact hdf d hd
  · rw [cf 8 d (by omega) (by omega)] at h8
    have r := hdc d hd h8
    rw [cf 10 d (by omega) (by omega), cf 11 d (by omega) (by omega)]
    refine ⟨r.1, r.2.1, ?_⟩
    by_cases e : d = x
    · subst e
      have r3 := r.2.2
      dsimp only at r3
      rw [if_pos rfl] at r3
      rw [r3, hpl]
      unfold jl_sl
      rw [jl_ln_0]
      by_cases q : u 12 d = -1
      · rw [jl_ln_p q, if_pos q, js_up_s, js_up_f (by decide)]
      · rw [jl_ln_n q, if_neg q, js_up_s, js_up_f (by decide)]
    · have r3 := r.2.2
      dsimp only at r3
      rw [if_neg e] at r3
      rw [js_up_i e, js_up_i e]
      exact r3
  · rw [cf 5 k (by omega) (by omega)]; exact hnf k hk2
  · rw [cf 5 k (by omega) (by omega)] at k5
    rw [cf 7 k (by omega) (by omega)]; exact hna k hk2 k5
  · rw [cf 8 d (by omega) (by omega)] at h8
    have := hpn d hd h8
    by_cases e : d = x
    · rw [e]; exact hpl
    · dsimp only at this
      rw [if_neg e] at this; exact this
