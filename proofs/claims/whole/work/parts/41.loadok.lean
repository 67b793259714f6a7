/-! Loading: there is room, the shape stays, and it only adds. -/
def jc_Nn : Nat → Nat
  | 0 => 0
  | d + 1 => (d + 1) * (1 + jc_Nn d)
def jc_Dn : Nat → Nat
  | 0 => 1
  | d + 1 => 1 + (d + 1) * jc_Dn d
/-- the window is there, and there is room for a navigables with an entry each, and for b documents -/
def jc_Cp (u : js_S) (a b : Nat) : Prop := ¬ u 5 0 = 0 ∧ jm_cntF u 5 40 + a ≤ 40 ∧ jm_cntF u 8 40 + b ≤ 40 ∧ jm_cntF u 14 40 + a ≤ 40
/-- a navigable that is there, d levels above the last one -/
def jc_Ow (d : Nat) (u : js_S) (o : Int32) : Prop := ∃ n, n < 40 ∧ o = nI n ∧ ¬ u 5 n = 0 ∧ u 6 n = nI (2 - d)
/-- what is wanted of a loading function L for navigables d levels above the last one -/
def jc_Lok (d : Nat) (L : js_S → Int32 → Int32 → Int32 → js_S) : Prop := ∀ (u : js_S) (o url step : Int32), jc_Sh u → jc_Ow d u o → jc_Cp u (jc_Nn d) (jc_Dn d) → jq 256 url → jc_Sh (L u o url step) ∧ jc_Gr u (L u o url step) 40 (jc_Nn d) (jc_Dn d) (jc_Nn d)
theorem jc_Gr_24 {u v : js_S} {x a b c i : Nat} {w : Int32} (h : jc_Gr u v x a b c) : jc_Gr u (js_up v 24 i w) x a b c := jc_Gr_put h (Or.inl rfl)
theorem jc_Gr_10 {u v : js_S} {x a b c i : Nat} {w : Int32} (h : jc_Gr u v x a b c) (h0 : u 8 i = 0) : jc_Gr u (js_up v 10 i w) x a b c := jc_Gr_put h (Or.inr (Or.inl ⟨Or.inl rfl, h0⟩))
theorem jc_Gr_11 {u v : js_S} {x a b c i : Nat} {w : Int32} (h : jc_Gr u v x a b c) (h0 : u 8 i = 0) : jc_Gr u (js_up v 11 i w) x a b c := jc_Gr_put h (Or.inr (Or.inl ⟨Or.inr rfl, h0⟩))
theorem jc_Gr_12 {u v : js_S} {x a b c : Nat} {w : Int32} (h : jc_Gr u v x a b c) : jc_Gr u (js_up v 12 x w) x a b c := jc_Gr_put h (Or.inr (Or.inr ⟨Or.inl rfl, Or.inl rfl⟩))
theorem jc_Gr_13 {u v : js_S} {x a b c : Nat} {w : Int32} (h : jc_Gr u v x a b c) : jc_Gr u (js_up v 13 x w) x a b c := jc_Gr_put h (Or.inr (Or.inr ⟨Or.inr rfl, Or.inl rfl⟩))
theorem jc_Ow_ok {d : Nat} {u : js_S} {o : Int32} (h : jc_Ow d u o) : ∃ i, i < 40 ∧ o = nI i := by
  obtain ⟨n, h1, h2, -⟩ := h
  exact ⟨n, h1, h2⟩
theorem jc_Ow_Gr {d : Nat} {u v : js_S} {o : Int32} {x a b c : Nat} (h : jc_Ow d u o) (g : jc_Gr u v x a b c) : jc_Ow d v o := by
  obtain ⟨n, h1, h2, h3, h4⟩ := h
  obtain ⟨g1, g2, -⟩ := g.1 n h1 h3
  exact ⟨n, h1, h2, g1, g2.trans h4⟩
theorem jc_Cp_Gr {u v : js_S} {x a b c a' b' : Nat} (h : jc_Cp u (a' + a) (b' + b)) (g : jc_Gr u v x a b c) (hc : c ≤ a) : jc_Cp v a' b' := by
  obtain ⟨h1, h2, h3, h4⟩ := h
  obtain ⟨g1, -, -, -, -, g6, g7, g8⟩ := g
  exact ⟨(g1 0 (by omega) h1).1, by omega, by omega, by omega⟩
theorem jc_Cp_le {u : js_S} {a b a' b' : Nat} (h : jc_Cp u a b) (ha : a' ≤ a) (hb : b' ≤ b) : jc_Cp u a' b' := by
  obtain ⟨h1, h2, h3, h4⟩ := h
  exact ⟨h1, by omega, by omega, by omega⟩
theorem jc_mk0_own {u : js_S} {n x d : Nat} (hn : n < 40) (h0 : u 5 n = 0) (hw : jc_Ow (d + 1) u (u 9 x)) (hd : d + 1 ≤ 2) (hx : x < 40) : jc_Ow d (jc_mk0 u n (nI x)) (nI n) := by
  obtain ⟨o, ho, e1, e2, e3⟩ := hw
  have hne : ¬ o = n := fun q => e2 (by rw [q]; exact h0)
  refine ⟨n, hn, rfl, ?_, ?_⟩
  · unfold jc_mk0
    rw [js_up_f (by decide), js_up_f (by decide), js_up_s]
    decide
  · have a1 : js_up u 5 n 1 9 x = nI o := by rw [js_up_f (by decide)]; exact e1
    have a2 : js_up u 5 n 1 6 o = nI (2 - (d + 1)) := by rw [js_up_f (by decide)]; exact e3
    unfold jc_mk0
    rw [js_up_f (by decide), js_up_s, ix_nI (show x < 2 ^ 31 by omega), a1, ix_nI (show o < 2 ^ 31 by omega), a2, nI_1]
    congr 1
    omega
theorem jc_mk0_Sh {u : js_S} (hS : jc_Sh u) {n x d : Nat} (hx : x < 40) (hw : jc_Ow d u (u 9 x)) : jc_Sh (jc_mk0 u n (nI x)) := by
  obtain ⟨o, ho, e1, -⟩ := hw
  refine jc_Sh_7 (jc_Sh_6 (jc_Sh_5 hS)) hx ?_
  rw [js_up_f (by decide), js_up_f (by decide), e1]
  exact nI_m1 (by omega)
/-- one frame -/
theorem jc_mkFrame_ok {d : Nat} {L : js_S → Int32 → Int32 → Int32 → js_S} (hL : jc_Lok d L) (hd : d + 1 ≤ 2) {u : js_S} {x : Nat} {url step : Int32} (hS : jc_Sh u) (hx : x < 40) (hw : jc_Ow (d + 1) u (u 9 x)) (hC : jc_Cp u (1 + jc_Nn d) (jc_Dn d)) (hu : jq 256 url) :
    jc_Sh (jc_mkFrame L u (nI x) url step) ∧ jc_Gr u (jc_mkFrame L u (nI x) url step) 40 (1 + jc_Nn d) (jc_Dn d) (1 + jc_Nn d) := by
  have h0 : u 5 (js_free u 5 38 1) = 0 := js_f38z (by have := hC.2.1; omega) hC.1
  have hn : js_free u 5 38 1 < 40 := js_f38
  unfold jc_mkFrame jc_mkF
  generalize js_free u 5 38 1 = n at h0 hn
  have g1 := jc_Gr_mk0 (doc := nI x) hn h0
  have s1 := jc_mk0_Sh hS (n := n) hx hw
  have w1 := jc_mk0_own hn h0 hw hd hx
  have c1 : jc_Cp (jc_mk0 u n (nI x)) (jc_Nn d) (jc_Dn d) := jc_Cp_Gr (jc_Cp_le hC (by omega) (by omega)) g1 (by omega)
  generalize jc_mk0 u n (nI x) = v at g1 s1 w1 c1
  obtain ⟨s2, g2⟩ := hL v (nI n) (jc_fd v 4 url) step s1 w1 c1 (jc_fd_ok s1 4 hu)
  have hdoc : js_free v 8 39 0 < 40 := js_f39
  generalize L v (nI n) (jc_fd v 4 url) step = w at s2 g2
  have g12 := jc_Gr_tr g1 g2
  have h14 : w 14 (js_free w 14 39 0) = 0 := js_f39z (by have := hC.2.2.2; have := g12.2.2.2.2.2.2.2; omega)
  exact ⟨jc_Sh_add s2 hn hdoc, jc_Gr_le (jc_Gr_tr g12 (jc_Gr_add h14)) (by omega) (by omega) (by omega)⟩
theorem jc_room_eq {d : Nat} {u : js_S} {x : Nat} (hw : jc_Ow d u (u 9 x)) (hd : d ≤ 2) (hx : x < 40) : jc_room u (nI x) = nI d := by
  obtain ⟨o, ho, e1, e2, e3⟩ := hw
  unfold jc_room
  rw [ix_nI (by omega), e1, ix_nI (by omega), e3]
  have : d = 0 ∨ d = 1 ∨ d = 2 := by omega
  rcases this with rfl | rfl | rfl <;> decide
/-- the frames of a document x of a navigable d + 1 levels above the last one -/
theorem jc_mkFrames_ok {d : Nat} {L : js_S → Int32 → Int32 → Int32 → js_S} (hL : jc_Lok d L) (hd : d + 1 ≤ 2) {u : js_S} {x : Nat} {a step : Int32} (hS : jc_Sh u) (hx : x < 40) (h8 : ¬ u 8 x = 0) (ha : ∃ i, i < 32 ∧ a = nI i) (hw : jc_Ow (d + 1) u (u 9 x)) (hC : jc_Cp u ((d + 1) * (1 + jc_Nn d)) ((d + 1) * jc_Dn d)) :
    jc_Sh (jc_mkFrames L u (nI x) a step) ∧ jc_Gr u (jc_mkFrames L u (nI x) a step) x ((d + 1) * (1 + jc_Nn d)) ((d + 1) * jc_Dn d) ((d + 1) * (1 + jc_Nn d)) := by
  have one : ∀ (v : js_S), jc_Sh v → jc_Ow (d + 1) v (v 9 x) → jc_Cp v (1 + jc_Nn d) (jc_Dn d) → ¬ v 2 (ix a) = -2 → jc_Sh (jc_mf2 L v (nI x) a step) ∧ jc_Gr v (jc_mf2 L v (nI x) a step) x (1 + jc_Nn d) (jc_Dn d) (1 + jc_Nn d) := by
    intro v hSv hwv hCv h2
    obtain ⟨s1, g1⟩ := jc_mkFrame_ok hL hd (step := step) hSv hx hwv hCv (jc_Ssx hSv ha h2)
    unfold jc_mf2
    rw [ix_nI (show x < 2 ^ 31 by omega)]
    split
    · exact ⟨jc_Sh_12 s1 (jq_nI js_f38), jc_Gr_12 (jc_Gr_x g1)⟩
    · exact ⟨jc_Sh_13 s1 (jq_nI js_f38), jc_Gr_13 (jc_Gr_x g1)⟩
  have hr := jc_room_eq hw hd hx
  unfold jc_mkFrames
  rw [hr, if_neg (nI_nle (by omega) (by omega))]
  have hmul : 1 + jc_Nn d ≤ (d + 1) * (1 + jc_Nn d) := Nat.le_mul_of_pos_left _ (by omega)
  have hmul2 : jc_Dn d ≤ (d + 1) * jc_Dn d := Nat.le_mul_of_pos_left _ (by omega)
  split
  · unfold jc_mfB
    rw [if_neg (nI_nle (by omega) (by omega))]
    split
    · exact ⟨hS, jc_Gr_le jc_Gr_rf (by omega) (by omega) (by omega)⟩
    · rename_i h2
      obtain ⟨s1, g1⟩ := one u hS hw (jc_Cp_le hC hmul hmul2) h2
      exact ⟨s1, jc_Gr_le g1 hmul hmul2 hmul⟩
  · rename_i h1
    obtain ⟨s1, g1⟩ := jc_mkFrame_ok hL hd (step := step) hS hx hw (jc_Cp_le hC hmul hmul2) (jc_Sfx hS ha h1)
    have s2 : jc_Sh (jc_mf1 L u (nI x) a step) := jc_Sh_12 s1 (jq_nI js_f38)
    have g2 : jc_Gr u (jc_mf1 L u (nI x) a step) x (1 + jc_Nn d) (jc_Dn d) (1 + jc_Nn d) := by
      unfold jc_mf1
      rw [ix_nI (show x < 2 ^ 31 by omega)]
      exact jc_Gr_12 (jc_Gr_x g1)
    have h9 : jc_mf1 L u (nI x) a step 9 x = u 9 x := (g2.2.1 x hx h8).2.1
    have w2 : jc_Ow (d + 1) (jc_mf1 L u (nI x) a step) (jc_mf1 L u (nI x) a step 9 x) := by
      rw [h9]
      exact jc_Ow_Gr hw g2
    generalize jc_mf1 L u (nI x) a step = v at s2 g2 w2
    unfold jc_mfB
    split
    · exact ⟨s2, jc_Gr_le g2 hmul hmul2 hmul⟩
    · rename_i h3
      split
      · exact ⟨s2, jc_Gr_le g2 hmul hmul2 hmul⟩
      · rename_i h4
        have hd1 : d = 1 := by
          rcases (show d = 0 ∨ d = 1 by omega) with rfl | rfl
          · exact absurd (by decide) h3
          · rfl
        subst hd1
        have c2 : jc_Cp v (1 + jc_Nn 1) (jc_Dn 1) := jc_Cp_Gr (jc_Cp_le hC (by omega) (by omega)) g2 (by omega)
        obtain ⟨s3, g3⟩ := one v s2 w2 c2 h4
        exact ⟨s3, jc_Gr_le (jc_Gr_tr g2 g3) (by omega) (by omega) (by omega)⟩
theorem jc_ldC_Gr {u v : js_S} {a b c i : Nat} {url bx : Int32} (g : jc_Gr u v 40 a b c) (h0 : u 8 i = 0) : jc_Gr u (jc_ldC v i url bx) 40 a b c := by
  unfold jc_ldC jc_opq
  split
  · exact jc_Gr_10 (jc_Gr_11 g h0) h0
  · exact jc_Gr_10 (jc_Gr_24 (jc_Gr_11 g h0)) h0
theorem jc_ldA_Gr {u v : js_S} {a b c i : Nat} {above bx : Int32} (g : jc_Gr u v 40 a b c) (h0 : u 8 i = 0) : jc_Gr u (jc_ldA v i above bx) 40 a b c := by
  unfold jc_ldA jc_opq
  split
  · exact jc_Gr_10 (jc_Gr_24 (jc_Gr_11 g h0)) h0
  · split
    · exact jc_Gr_10 (jc_Gr_11 g h0) h0
    · exact jc_Gr_10 (jc_Gr_24 (jc_Gr_11 g h0)) h0
/-- the new document: there, and the navigable's -/
theorem jc_ldC_fd {u : js_S} {o url bx : Int32} (i : Nat) (hi : i = js_free u 8 39 0) : jc_ldC (jc_freeDoc u o) i url bx 8 i = 1 ∧ jc_ldC (jc_freeDoc u o) i url bx 9 i = o := by
  subst hi
  unfold jc_ldC jc_opq jc_freeDoc
  split
  · constructor
    · rw [js_up_f (by decide), js_up_f (by decide), js_up_f (by decide), js_up_f (by decide), js_up_f (by decide), js_up_s]
    · rw [js_up_f (by decide), js_up_f (by decide), js_up_f (by decide), js_up_f (by decide), js_up_s]
  · constructor
    · rw [js_up_f (by decide), js_up_f (by decide), js_up_f (by decide), js_up_f (by decide), js_up_f (by decide), js_up_f (by decide), js_up_s]
    · rw [js_up_f (by decide), js_up_f (by decide), js_up_f (by decide), js_up_f (by decide), js_up_f (by decide), js_up_s]
theorem jc_loadB_ok {d : Nat} {L : js_S → Int32 → Int32 → Int32 → js_S} (hd : d ≤ 2)
    (hF : ∀ (v : js_S) (x : Nat) (a step : Int32), jc_Sh v → x < 40 → ¬ v 8 x = 0 → (∃ i, i < 32 ∧ a = nI i) → jc_Ow d v (v 9 x) → jc_Cp v (jc_Nn d) (jc_Dn d - 1) → jc_Sh (jc_mkFrames L v (nI x) a step) ∧ jc_Gr v (jc_mkFrames L v (nI x) a step) x (jc_Nn d) (jc_Dn d - 1) (jc_Nn d)) : jc_Lok d (jc_loadB L) := by
  intro u o url step hS hw hC hu
  have hD1 : 1 ≤ jc_Dn d := by
    cases d with
    | zero => exact Nat.le_refl _
    | succ d => unfold jc_Dn; omega
  have h0 : u 8 (js_free u 8 39 0) = 0 := js_f39z (by have := hC.2.2.1; omega)
  have g1 := jc_Gr_doc (o := o) h0
  have s1 := jc_Sh_fdx hS (jc_Ow_ok hw)
  have hi : js_free u 8 39 0 < 40 := js_f39
  unfold jc_loadB
  split
  · exact ⟨jc_Sh_ldA s1, jc_Gr_le (jc_ldA_Gr g1 h0) (by omega) hD1 (by omega)⟩
  · rename_i hn
    unfold jc_ldU
    split
    · have g2 := jc_ldC_Gr (i := js_free u 8 39 0) (url := url) (bx := jc_bx (jc_freeDoc u o) (url / 8) (jc_boxed u (u 7 (ix o)))) g1 h0
      obtain ⟨q1, q2⟩ := jc_ldC_fd (u := u) (o := o) (url := url) (bx := jc_bx (jc_freeDoc u o) (url / 8) (jc_boxed u (u 7 (ix o)))) _ rfl
      have s2 : jc_Sh (jc_ldC (jc_freeDoc u o) (js_free u 8 39 0) url (jc_bx (jc_freeDoc u o) (url / 8) (jc_boxed u (u 7 (ix o))))) := jc_Sh_ldC s1
      generalize jc_ldC (jc_freeDoc u o) (js_free u 8 39 0) url (jc_bx (jc_freeDoc u o) (url / 8) (jc_boxed u (u 7 (ix o)))) = v at g2 q1 q2 s2
      obtain ⟨s3, g3⟩ := hF v (js_free u 8 39 0) (url / 8) step s2 hi (by rw [q1]; decide) (js_pg hu hn) (by rw [q2]; exact jc_Ow_Gr hw g2) (jc_Cp_Gr (jc_Cp_le hC (by omega) (by omega)) g2 (by omega))
      refine ⟨s3, jc_Gr_le (jc_Gr_nx (jc_Gr_tr (jc_Gr_x g2) g3) h0) (by omega) (by omega) (by omega)⟩
    · refine ⟨jc_Sh_opq (jc_Sh_11 s1), ?_⟩
      unfold jc_opq
      exact jc_Gr_le (jc_Gr_10 (jc_Gr_24 (jc_Gr_11 g1 h0)) h0) (by omega) hD1 (by omega)
theorem jc_load_ok : ∀ d, d ≤ 2 → jc_Lok d (jc_load d)
  | 0, _ => by
    unfold jc_load
    refine jc_loadB_ok (by omega) (fun v x a step hS hx _ _ hw _ => ?_)
    have hr := jc_room_eq hw (by omega) hx
    unfold jc_mkFrames jc_mfB
    rw [hr, if_pos (by decide), if_pos (by decide)]
    exact ⟨hS, jc_Gr_le jc_Gr_rf (by omega) (by omega) (by omega)⟩
  | d + 1, h => by
    unfold jc_load
    refine jc_loadB_ok h (fun v x a step hS hx h8 ha hw hC => ?_)
    have e : jc_Dn (d + 1) - 1 = (d + 1) * jc_Dn d := by
      show 1 + (d + 1) * jc_Dn d - 1 = _
      omega
    rw [e] at hC ⊢
    exact jc_mkFrames_ok (jc_load_ok d (by omega)) h hS hx h8 ha hw hC
