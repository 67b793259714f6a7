/-! A new document, on both sides. -/
theorem jl_fd {u v : js_S} (ha : jz_ans u v) (hS : jc_Sh u) : ∀ (k : Nat) {s : js_S}, jm_Sh s → (∀ f j, f ≤ 3 → s f j = v f j) → (∃ j, j < 256 ∧ s 25 0 = nI j) → (∀ f j, ¬ f = 25 → jm_fd s k f j = s f j) ∧ jm_fd s k 25 0 = jc_fd u k (s 25 0)
  | 0, s, _, _, _ => ⟨fun _ _ _ => rfl, rfl⟩
  | k + 1, s, hM, he, hl => by
    have hl' := hl
    obtain ⟨p, hp, ep⟩ := js_pgn hl
    obtain ⟨j, hj, ej⟩ := hl
    have hx : ¬ s 25 0 = -1 := by rw [ej]; exact nI_m1 (by omega)
    have a := ha p hp
    have d : ¬ jc_isDet u (s 25 0) = 0 ↔ s 0 (ix (s 25 0 / 8)) = 1 := by
      unfold jc_isDet
      rw [if_neg hx, ep, ix_nI (by omega), he 0 p (by decide), ← a.1]
      by_cases q : u 0 p = nI 1
      · rw [if_pos q]; exact ⟨fun _ => q, fun _ => by decide⟩
      · rw [if_neg q]; exact ⟨fun z => absurd rfl z, fun z => absurd z q⟩
    rw [jm_fd, jc_fd]
    by_cases q : s 0 (ix (s 25 0 / 8)) = 1
    · rw [if_pos q, if_neg (d.mpr q)]
      have led := jm_led hM hl' q
      have q1 : u 0 p = 1 := by
        rw [ep, ix_nI (by omega), he 0 p (by decide), ← a.1] at q; exact q
      obtain ⟨j4, hj4, e4⟩ := (hS.1 p hp).2.1
      have e41 : u 4 p = s 1 p := (a.2.2 q1).trans (he 1 p (by decide)).symm
      have h1 : ¬ s 1 p = -1 := by rw [← e41, e4]; exact nI_m1 (by omega)
      have val : (if jc_frag (u 4 (ix (s 25 0 / 8))) = 0 then u 4 (ix (s 25 0 / 8)) + jc_frag (s 25 0) else u 4 (ix (s 25 0 / 8))) = (if s 1 (ix (s 25 0 / 8)) - s 1 (ix (s 25 0 / 8)) / 8 * 8 = 0 then s 1 (ix (s 25 0 / 8)) + (s 25 0 - s 25 0 / 8 * 8) else s 1 (ix (s 25 0 / 8))) := by
        unfold jc_frag
        rw [if_neg hx, ep, ix_nI (by omega), e41, if_neg h1]
      rw [val]
      generalize (if s 1 (ix (s 25 0 / 8)) - s 1 (ix (s 25 0 / 8)) / 8 * 8 = 0 then s 1 (ix (s 25 0 / 8)) + (s 25 0 - s 25 0 / 8 * 8) else s 1 (ix (s 25 0 / 8))) = y at led ⊢
      obtain ⟨i1, i2⟩ := jl_fd ha hS k (s := js_up s 25 0 y) (jm_Sh_25 hM) (fun f j hf => by rw [js_up_f (by omega)]; exact he f j hf) (by rw [js_up_s]; exact led)
      rw [js_up_s] at i2
      exact ⟨fun f j hf => (i1 f j hf).trans (js_up_f hf), i2⟩
    · rw [if_neg q, if_pos (Classical.byContradiction (fun z => q (d.mp z)))]
      exact ⟨fun _ _ _ => rfl, rfl⟩
def jl_doc (u : js_S) (o url : Int32) : js_S :=
  if url = -1 then jc_ldA (jc_freeDoc u o) (js_free u 8 39 0) (u 7 (ix o)) (jc_boxed u (u 7 (ix o)))
  else if u 0 (ix (url / 8)) = nI 0 then jc_ldC (jc_freeDoc u o) (js_free u 8 39 0) url (jc_bx (jc_freeDoc u o) (url / 8) (jc_boxed u (u 7 (ix o))))
  else jc_opq (js_up (jc_freeDoc u o) 11 (js_free u 8 39 0) 0) (js_free u 8 39 0)
theorem jc_fd_0 {u : js_S} {o : Int32} {j : Nat} {f : Nat} (h : ¬ f = 8) (h2 : ¬ f = 9) (h3 : ¬ f = 12) (h4 : ¬ f = 13) : jc_freeDoc u o f j = u f j := by
  unfold jc_freeDoc
  rw [js_up_f h4, js_up_f h3, js_up_f h2, js_up_f h]
theorem jl_loadB {L : js_S → Int32 → Int32 → Int32 → js_S} {u : js_S} {o url step : Int32} : jc_loadB L u o url step = if ¬ url = -1 ∧ u 0 (ix (url / 8)) = nI 0 then jc_mkFrames L (jl_doc u o url) (nI (js_free u 8 39 0)) (url / 8) step else jl_doc u o url := by
  unfold jc_loadB jl_doc jc_ldU
  by_cases h : url = -1
  · rw [if_pos h, if_pos h, if_neg (fun q => q.1 h)]
  · rw [if_neg h, if_neg h, jc_fd_0 (by decide) (by decide) (by decide) (by decide)]
    by_cases q : u 0 (ix (url / 8)) = nI 0
    · rw [if_pos q, if_pos q, if_pos ⟨h, q⟩]
    · rw [if_neg q, if_neg q, if_neg (fun z => q z.2)]
theorem jl_doc_Sh {u : js_S} (h : jc_Sh u) {o : Nat} (ho : o < 40) {url : Int32} : jc_Sh (jl_doc u (nI o) url) := by
  unfold jl_doc
  have s1 := jc_Sh_fd h ho
  split
  · exact jc_Sh_ldA s1
  · split
    · exact jc_Sh_ldC s1
    · exact jc_Sh_opq (jc_Sh_11 s1)
theorem jl_doc_Gr {u : js_S} {o url : Int32} (h0 : u 8 (js_free u 8 39 0) = 0) : jc_Gr u (jl_doc u o url) 40 0 1 0 := by
  have g1 := jc_Gr_doc (o := o) h0
  unfold jl_doc
  split
  · exact jc_ldA_Gr g1 h0
  · split
    · exact jc_ldC_Gr g1 h0
    · unfold jc_opq
      exact jc_Gr_10 (jc_Gr_24 (jc_Gr_11 g1 h0)) h0
theorem jl_fu_opq {u : js_S} {i o : Nat} {B : Int32} (hi : i = js_free u 8 39 0) : jl_fu u (jc_opq (js_up (jc_freeDoc u (nI o)) 11 i B) i) i o B none := by
  unfold jc_opq jc_freeDoc
  rw [← hi]
  refine ⟨fun g j h1 h2 => ?_, ?_, ?_, ?_, ?_, ?_, Or.inl ⟨rfl, ?_, ?_⟩⟩
  · unfold js_up
    rw [if_neg (by omega), if_neg (by omega), if_neg (by omega), if_neg (by omega), if_neg (by omega), if_neg (by omega), if_neg (by omega)]
  · simp [js_up]
  · simp [js_up]
  · simp [js_up]
  · simp [js_up]
  · simp [js_up]
  · simp [js_up]
  · simp [js_up]
theorem jl_fu_pl {u : js_S} {i o : Nat} {B c : Int32} (hi : i = js_free u 8 39 0) : jl_fu u (js_up (js_up (jc_freeDoc u (nI o)) 11 i B) 10 i c) i o B (some c) := by
  unfold jc_freeDoc
  rw [← hi]
  refine ⟨fun g j h1 h2 => ?_, ?_, ?_, ?_, ?_, ?_, Or.inr ⟨?_, ?_⟩⟩
  · unfold js_up
    rw [if_neg (by omega), if_neg (by omega), if_neg (by omega), if_neg (by omega), if_neg (by omega), if_neg (by omega)]
  · simp [js_up]
  · simp [js_up]
  · simp [js_up]
  · simp [js_up]
  · simp [js_up]
  · simp [js_up]
  · simp [js_up]
def jl_z (v z : js_S) (i : Nat) (url : Int32) : Prop :=
  (∀ g j : Nat, ¬ g = 25 → ¬ ((g = 10 ∨ g = 12 ∨ g = 13 ∨ g = 14) ∧ j = i) → z g j = v g j) ∧ z 10 i = 1 ∧ z 13 i = -1 ∧ z 14 i = -1 ∧ z 25 0 = url
theorem jl_z_12 {v z : js_S} {i : Nat} {url b : Int32} (h : jl_z v z i url) : jl_z v (js_up z 12 i b) i url := by
  obtain ⟨h1, h2, h3, h4, h5⟩ := h
  refine ⟨fun g j a c => ?_, ?_, ?_, ?_, ?_⟩
  · rw [← h1 g j a c]
    unfold js_up
    rw [if_neg (by omega)]
  · rw [js_up_f (by decide)]; exact h2
  · rw [js_up_f (by decide)]; exact h3
  · rw [js_up_f (by decide)]; exact h4
  · rw [js_up_f (by decide)]; exact h5
theorem jl_fv_opq {v z : js_S} {i : Nat} {url B : Int32} (h : jl_z v z i url) (hB : z 12 i = B) : jl_fv v (jm_opq z i) i B none url := by
  obtain ⟨h1, h2, h3, h4, h5⟩ := h
  have z22 : z 22 0 = v 22 0 := h1 22 0 (by omega) (by omega)
  unfold jm_opq
  refine ⟨fun g j a b c => ?_, ?_, ?_, ?_, ?_, ?_, Or.inl ⟨rfl, ?_, ?_⟩⟩
  · rw [← h1 g j b (by omega)]
    unfold js_up
    rw [if_neg (by omega), if_neg (by omega)]
  · rw [js_up_f (by decide), js_up_f (by decide)]; exact h2
  · rw [js_up_f (by decide), js_up_f (by decide)]; exact h3
  · rw [js_up_f (by decide), js_up_f (by decide)]; exact h4
  · rw [js_up_f (by decide), js_up_f (by decide)]; exact hB
  · rw [js_up_f (by decide), js_up_f (by decide)]; exact h5
  · rw [js_up_f (by decide), js_up_s, z22]
  · rw [js_up_s, z22]
theorem jl_fv_pl {v z : js_S} {i : Nat} {url B c : Int32} (h : jl_z v z i url) (hB : z 12 i = B) : jl_fv v (js_up z 11 i c) i B (some c) url := by
  obtain ⟨h1, h2, h3, h4, h5⟩ := h
  have z22 : z 22 0 = v 22 0 := h1 22 0 (by omega) (by omega)
  refine ⟨fun g j a b c => ?_, ?_, ?_, ?_, ?_, ?_, Or.inr ⟨?_, ?_⟩⟩
  · rw [← h1 g j b (by omega)]
    unfold js_up
    rw [if_neg (by omega)]
  · rw [js_up_f (by decide)]; exact h2
  · rw [js_up_f (by decide)]; exact h3
  · rw [js_up_f (by decide)]; exact h4
  · rw [js_up_f (by decide)]; exact hB
  · rw [js_up_f (by decide)]; exact h5
  · rw [js_up_s]
  · rw [js_up_f (by decide)]; exact z22
theorem jl_mkS {v : js_S} {i : Nat} {url b : Int32} : jl_z v (jm_mkS (jm_mk0 v i) i url b) i url ∧ jm_mkS (jm_mk0 v i) i url b 12 i = b := by
  unfold jm_mkS jm_mk0
  refine ⟨⟨fun g j a c => ?_, ?_, ?_, ?_, ?_⟩, ?_⟩
  · unfold js_up
    rw [if_neg (by omega), if_neg (by omega), if_neg (by omega), if_neg (by omega), if_neg (by omega)]
  · simp [js_up]
  · simp [js_up]
  · simp [js_up]
  · simp [js_up]
  · simp [js_up]
theorem jl_free8 {u v : js_S} {i : Nat} (hdf : ∀ d, d < 48 → (¬ v 10 d = 0 ↔ d < 40 ∧ ¬ u 8 d = 0)) (hi : i = js_free u 8 39 0) (i8 : u 8 i = 0) : js_free v 10 47 0 = i := by
  have lt : js_free u 8 39 0 < 40 := js_f39
  refine js_free_is 47 0 i (by omega) (by omega) (fun j h1 h2 => (hdf j (by omega)).mpr ⟨by omega, js_free_min 39 0 j h1 (by rw [← hi]; exact h2)⟩) ?_
  exact Classical.byContradiction (fun q => ((hdf i (by omega)).mp q).2 i8)
theorem jl_free5 {u v : js_S} {n : Nat} (hnf : ∀ d, d < 48 → (¬ v 15 d = 0 ↔ d < 40 ∧ ¬ u 5 d = 0)) (hn : n = js_free u 5 38 1) (n5 : u 5 n = 0) : js_free v 15 46 1 = n := by
  have lt : js_free u 5 38 1 < 40 := js_f38
  have ge := (js_free_le (u := u) (f := 5) 38 1).1
  refine js_free_is 46 1 n (by omega) (by omega) (fun j h1 h2 => (hnf j (by omega)).mpr ⟨by omega, js_free_min 38 1 j h1 (by rw [← hn]; exact h2)⟩) ?_
  exact Classical.byContradiction (fun q => ((hnf n (by omega)).mp q).2 n5)
theorem jl_mk {u v : js_S} {pe : List je_T} {pl : Nat → Option Nat} {i o : Nat} {url : Int32} (hR : jl_R u v pe pl) (ho : o < 40) (o5 : ¬ u 5 o = 0) (hab : u 7 o = -1 ∨ ∃ x, x < 40 ∧ u 7 o = nI x ∧ ¬ u 8 x = 0) (hi : i = js_free u 8 39 0) (i8 : u 8 i = 0) (hu : jq 256 url) : ∃ B C, jl_fu u (jl_doc u (nI o) (jc_fd u 4 url)) i o B C ∧ jl_fv v (jm_make v (nI o) url) i B C (jc_fd u 4 url) := by
  obtain ⟨hS, hM, hQ, ha, hsc, hes, hdf, hdc, hnf, hna, hpn⟩ := hR
  have iv : js_free v 10 47 0 = i := jl_free8 hdf hi i8
  have m0 : ∀ g j : Nat, ¬ g = 10 → ¬ g = 13 → ¬ g = 14 → jm_mk0 v i g j = v g j := fun g j h1 h2 h3 => by
    unfold jm_mk0
    rw [js_up_f h3, js_up_f h2, js_up_f h1]
  have e16 : jm_mk0 v i 16 (ix (nI o)) = u 7 o := by
    rw [m0 16 _ (by decide) (by decide) (by decide), ix_nI (by omega)]
    exact hna o ho o5
  have eun : jm_under (jm_mk0 v i) (nI o) = jc_boxed u (u 7 o) := by
    unfold jm_under jc_boxed
    rw [e16]
    rcases hab with e | ⟨x, hx, e, x8⟩
    · rw [e, if_pos (by decide), if_pos rfl]
    · rw [e, if_neg (nI_pos (by omega)), if_neg (nI_m1 (by omega)), ix_nI (by omega), m0 12 x (by decide) (by decide) (by decide), (hdc x hx x8).2.1]
  rw [jm_make_i (i := i) iv.symm, e16, eun]
  obtain ⟨z0, z12⟩ := jl_mkS (v := v) (i := i) (url := url) (b := jc_boxed u (u 7 o))
  have hSz : jm_Sh (jm_mkS (jm_mk0 v i) i url (jc_boxed u (u 7 o))) := jm_Sh_mkS (jm_Sh_mk0 hM)
  unfold jm_mkB jl_doc
  rw [ix_nI (show o < 2 ^ 31 by omega), ← hi]
  generalize jc_boxed u (u 7 o) = b at z0 z12 hSz
  generalize jm_mkS (jm_mk0 v i) i url b = z at z0 z12 hSz
  by_cases h1 : url = -1
  · subst h1
    have fd : jc_fd u 4 (-1) = -1 := by
      show jc_fd u (3 + 1) (-1) = -1
      rw [jc_fd, if_pos (by unfold jc_isDet; rw [if_pos rfl])]
    rw [fd, if_pos rfl, if_pos rfl]
    unfold jm_mkA jc_ldA
    rcases hab with e | ⟨x, hx, e, x8⟩
    · rw [e, if_pos rfl, if_pos (show (-1 : Int32) < 0 by decide)]
      exact ⟨b, none, jl_fu_opq hi, jl_fv_opq z0 z12⟩
    · have xi : ¬ x = i := fun q => x8 (by rw [q]; exact i8)
      rw [e, if_neg (nI_pos (by omega)), if_neg (nI_m1 (by omega)), ix_nI (by omega)]
      by_cases q : b = 0
      · rw [if_pos q, if_pos q]
        have e1 : js_up (jc_freeDoc u (nI o)) 11 i b 10 x = u 10 x := by
          rw [js_up_f (by decide), jc_fd_0 (by decide) (by decide) (by decide) (by decide)]
        have e2 : z 11 x = u 10 x := by
          rw [z0.1 11 x (by decide) (by omega)]
          exact (hdc x hx x8).1
        rw [e1, e2]
        exact ⟨b, some (u 10 x), jl_fu_pl hi, jl_fv_pl z0 z12⟩
      · rw [if_neg q, if_neg q]
        exact ⟨b, none, jl_fu_opq hi, jl_fv_opq z0 z12⟩
  · have hj := jq_ne hu h1
    have z25 := z0.2.2.2.2
    have za : ∀ f j, f ≤ 3 → z f j = v f j := fun f j hf => z0.1 f j (by omega) (by omega)
    obtain ⟨f1, f2⟩ := jl_fd ha hS 4 hSz za (by rw [z25]; exact hj)
    have hr := (jm_fd_ok 4 hSz (by rw [z25]; exact hj)).2
    rw [f2, z25] at hr
    rw [z25] at f2
    have y0 : jl_z v (jm_fd z 4) i (jc_fd u 4 url) := ⟨fun g j a c => (f1 g j a).trans (z0.1 g j a c), (f1 10 i (by decide)).trans z0.2.1, (f1 13 i (by decide)).trans z0.2.2.1, (f1 14 i (by decide)).trans z0.2.2.2.1, f2⟩
    have y12 : jm_fd z 4 12 i = b := (f1 12 i (by decide)).trans z12
    rw [if_neg h1]
    generalize jm_fd z 4 = y at y0 y12 f2
    generalize jc_fd u 4 url = r at y0 hr f2
    obtain ⟨p, hp, ep⟩ := js_pgn hr
    have hr1 : ¬ r = -1 := by
      obtain ⟨j, hj, e⟩ := hr
      rw [e]; exact nI_m1 (by omega)
    have a := ha p hp
    have ya : ∀ f j, f ≤ 3 → y f j = v f j := fun f j hf => y0.1 f j (by omega) (by omega)
    rw [if_neg hr1]
    unfold jm_mk1
    rw [f2, ep, ix_nI (by omega), ya 0 p (by decide), ← a.1]
    by_cases k0 : u 0 p = nI 0
    · rw [if_pos k0]
      have k0' : u 0 p = 0 := k0
      rw [if_pos k0']
      have eb : jm_mb y b = jc_bx (jc_freeDoc u (nI o)) (nI p) b := by
        unfold jm_mb jc_bx
        rw [f2, ep, ix_nI (by omega), ya 3 p (by decide), jc_fd_0 (by decide) (by decide) (by decide) (by decide), (a.2.1 k0').2.2]
        by_cases q1 : b = 0 <;> by_cases q2 : v 3 p = 0 <;> simp [q1, q2]
      rw [eb]
      generalize jc_bx (jc_freeDoc u (nI o)) (nI p) b = B
      unfold jm_mkC jc_ldC
      rw [js_up_s, js_up_s, js_up_f (f := 12) (g := 25) (by decide), f2]
      by_cases q : B = 0
      · rw [if_pos q, if_pos q]
        exact ⟨B, some (r / 64), jl_fu_pl hi, jl_fv_pl (jl_z_12 y0) (js_up_s _ _ _ _)⟩
      · rw [if_neg q, if_neg q]
        exact ⟨B, none, jl_fu_opq hi, jl_fv_opq (jl_z_12 y0) (js_up_s _ _ _ _)⟩
    · rw [if_neg k0]
      have k0' : ¬ u 0 p = 0 := k0
      rw [if_neg k0']
      exact ⟨0, none, jl_fu_opq hi, jl_fv_opq (jl_z_12 y0) (js_up_s _ _ _ _)⟩
