/-! Frames: a leaf, a frame with one inside, the frames of a document. -/
def jl_Nw (u v y : js_S) (s : Int32) : Prop := (∀ t, t ∈ jm_es y → t ∈ jm_es v ∨ (t.2.1 = s ∧ jq 256 t.2.2.1 ∧ u 8 (ix t.2.2.2.2) = 0 ∧ u 5 (ix t.1) = 0)) ∧ ∀ j, ¬ v 9 j = 0 → jm_row y j = jm_row v j
def jl_C (u : js_S) (a b c : Nat) : Prop := jm_cntF u 5 40 + a ≤ 40 ∧ jm_cntF u 8 40 + b ≤ 40 ∧ jm_cntF u 14 40 + c ≤ 40
theorem jl_C_Gr {u w : js_S} {x a b c a' b' c' a2 b2 c2 : Nat} (h : jl_C u a2 b2 c2) (g : jc_Gr u w x a b c) (h1 : a' + a ≤ a2) (h2 : b' + b ≤ b2) (h3 : c' + c ≤ c2) : jl_C w a' b' c' := by
  obtain ⟨q1, q2, q3⟩ := h
  obtain ⟨-, -, -, -, -, g6, g7, g8⟩ := g
  exact ⟨by omega, by omega, by omega⟩
theorem jl_Nw_rf {u v : js_S} {s : Int32} : jl_Nw u v v s := ⟨fun _ h => Or.inl h, fun _ _ => rfl⟩
theorem jm_row_9 {v y : js_S} {j : Nat} (h : jm_row y j = jm_row v j) (h9 : ¬ v 9 j = 0) : ¬ y 9 j = 0 := by
  intro q
  unfold jm_row at h
  rw [if_pos q, if_neg h9] at h
  cases h
theorem jl_Nw_tr {u w v y z : js_S} {s : Int32} {x a b c : Nat} (h : jl_Nw u v y s) (g : jc_Gr u w x a b c) (h2 : jl_Nw w y z s) (h8 : ∀ t, t ∈ jm_es z → ix t.1 < 40 ∧ ix t.2.2.2.2 < 40) : jl_Nw u v z s := by
  refine ⟨fun t ht => ?_, fun j hj => ?_⟩
  · rcases h2.1 t ht with q | ⟨q1, q2, q3, q4⟩
    · exact h.1 t q
    · obtain ⟨l1, l2⟩ := h8 t ht
      exact Or.inr ⟨q1, q2, Classical.byContradiction (fun z => (g.2.1 _ l2 z).1 q3), Classical.byContradiction (fun z => (g.1 _ l1 z).1 q4)⟩
  · have e := h.2 j hj
    exact (h2.2 j (jm_row_9 e hj)).trans e
theorem jl_ixs {u v : js_S} {X Y : Nat → Prop} (hP : jl_P u v X Y) : ∀ t, t ∈ jm_es v → ix t.1 < 40 ∧ ix t.2.2.2.2 < 40 := by
  intro t ht
  obtain ⟨o, d, ho, hd, p1, p2, -⟩ := hP.2.2.1 t ht
  rw [p1, p2, ix_nI (by omega), ix_nI (by omega)]
  exact ⟨ho, hd⟩
theorem jl_mk0_f {u : js_S} {n x o : Nat} (hx : x < 40) (ho : o < 40) (x9 : u 9 x = nI o) : jc_mk0 u n (nI x) 5 n = 1 ∧ jc_mk0 u n (nI x) 6 n = u 6 o + 1 ∧ jc_mk0 u n (nI x) 7 n = nI x ∧ ∀ g j : Nat, (¬ g = 5 ∧ ¬ g = 6 ∧ ¬ g = 7) ∨ ¬ j = n → jc_mk0 u n (nI x) g j = u g j := by
  refine ⟨?_, ?_, ?_, fun g j h => ?_⟩
  · unfold jc_mk0
    rw [js_up_f (by decide), js_up_f (by decide), js_up_s]
  · unfold jc_mk0
    rw [js_up_f (by decide), js_up_s, js_up_f (by decide), js_up_f (by decide), ix_nI (by omega), x9, ix_nI (by omega)]
  · unfold jc_mk0
    rw [js_up_s]
  · unfold jc_mk0
    rcases h with h | h
    · rw [js_up_f h.2.2, js_up_f h.2.1, js_up_f h.1]
    · rw [js_up_i h, js_up_i h, js_up_i h]
theorem jm_ff0_f {v : js_S} {d : Int32} {n g j : Nat} (h : g < 13) : jm_ff0 v d n g j = v g j := by
  unfold jm_ff0 jm_ff1
  split
  · rw [js_up_f (by omega), js_up_f (by omega), js_up_f (by omega)]
  · rw [js_up_f (by omega), js_up_f (by omega), js_up_f (by omega)]
/-- the navigable, its document, and its entry in the reference -/
def jl_Fr (u v : js_S) (pe : List je_T) (pl : Nat → Option Nat) (X Y : Nat → Prop) (x o n i : Nat) (r url s : Int32) (w y : js_S) : Prop :=
  n < 40 ∧ ¬ n = 0 ∧ i < 40 ∧ i = js_free (jc_mk0 u n (nI x)) 8 39 0 ∧ r = jc_fd (jc_mk0 u n (nI x)) 4 url ∧ jq 256 r ∧ js_free v 15 46 1 = n ∧ w = jl_doc (jc_mk0 u n (nI x)) (nI n) r ∧ y = jm_frameFor v (nI x) url s ∧
  jl_R w y ((nI n, s, r, 0, nI i) :: pe) (fun e => if e = x then some n else pl e) ∧ jl_P w y X Y ∧ y 25 0 = r ∧ ¬ w 8 i = 0 ∧ w 9 i = nI n ∧ w 12 i = -1 ∧ w 13 i = -1 ∧ ¬ w 5 n = 0 ∧ w 6 n = u 6 o + 1 ∧ u 5 n = 0 ∧ u 8 i = 0 ∧ (∀ t, t ∈ jm_es y → t = (nI n, s, r, 0, nI i) ∨ t ∈ jm_es v) ∧ (∀ j, ¬ v 9 j = 0 → jm_row y j = jm_row v j) ∧ jc_Gr u w 40 1 1 0
theorem jl_front {u v : js_S} {pe : List je_T} {pl : Nat → Option Nat} {X Y : Nat → Prop} {x o : Nat} {url s : Int32} (hR : jl_R u v pe pl) (hP : jl_P u v X Y) (hC : jl_C u 1 1 0) (hpe : pe.length ≤ 5) (hx : x < 40) (x8 : ¬ u 8 x = 0) (hpl : pl x = none) (h14 : v 14 x = -1) (ho : o < 40) (x9 : u 9 x = nI o) (o5 : ¬ u 5 o = 0) (o6 : u 6 o = 0 ∨ u 6 o = 1) (hu : jq 256 url) (hs : ∀ t, t ∈ jm_es v → t.2.2.2.2 = nI x → s ≤ t.2.1) : ∃ i r w y, jl_Fr u v pe pl X Y x o (js_free u 5 38 1) i r url s w y := by
  have n5 : u 5 (js_free u 5 38 1) = 0 := js_f38z (by have := hC.1; omega) hP.1.1
  have hn : js_free u 5 38 1 < 40 := js_f38
  have hn0 : ¬ js_free u 5 38 1 = 0 := by
    have := (js_free_le (u := u) (f := 5) 38 1).1
    omega
  have fr5 : js_free v 15 46 1 = js_free u 5 38 1 := jl_free5 hR.2.2.2.2.2.2.2.2.1 rfl n5
  generalize js_free u 5 38 1 = n at n5 hn hn0 fr5
  obtain ⟨R1, P1⟩ := jl_nav hR hP hn hn0 n5 hx x8 hpl h14 ho x9 o5 o6
  obtain ⟨c5, c6, c7, cf⟩ := jl_mk0_f (u := u) (n := n) hx ho x9
  have G1 := jc_Gr_mk0 (doc := nI x) hn n5
  have i8 : jc_mk0 u n (nI x) 8 (js_free (jc_mk0 u n (nI x)) 8 39 0) = 0 := js_f39z (by have := hC.2.1; have := G1.2.2.2.2.2.2.1; omega)
  have hi : js_free (jc_mk0 u n (nI x)) 8 39 0 < 40 := js_f39
  have x8' : ¬ jc_mk0 u n (nI x) 8 x = 0 := by rw [cf 8 x (Or.inl (by omega))]; exact x8
  have n5' : ¬ jc_mk0 u n (nI x) 5 n = 0 := by rw [c5]; decide
  obtain ⟨B, C, fu, fv⟩ := jl_mk R1 hn n5' (Or.inr ⟨x, hx, c7, x8'⟩) rfl i8 hu
  have hSn := jl_doc_Sh (url := jc_fd (jc_mk0 u n (nI x)) 4 url) R1.1 hn
  have hMn := (jm_make_ok (nav := nI n) R1.2.1 hu).1
  have hr : jq 256 (jc_fd (jc_mk0 u n (nI x)) 4 url) := jc_fd_ok R1.1 4 hu
  obtain ⟨R2, P2⟩ := jl_make R1 P1 hi i8 hn n5' fu fv hSn hMn
  have G2 := jc_Gr_tr G1 (jl_doc_Gr (o := nI n) (url := jc_fd (jc_mk0 u n (nI x)) 4 url) i8)
  have e25 : jm_make (jm_ff0 v (nI x) n) (nI n) url 25 0 = jc_fd (jc_mk0 u n (nI x)) 4 url := fv.2.2.2.2.2.1
  have fr8 : js_free (jm_ff0 v (nI x) n) 10 47 0 = js_free (jc_mk0 u n (nI x)) 8 39 0 := jl_free8 R1.2.2.2.2.2.2.1 rfl i8
  have w7 : jl_doc (jc_mk0 u n (nI x)) (nI n) (jc_fd (jc_mk0 u n (nI x)) 4 url) 7 n = nI x := (fu.1 7 n (by omega) (by omega)).trans c7
  have w6 : jl_doc (jc_mk0 u n (nI x)) (nI n) (jc_fd (jc_mk0 u n (nI x)) 4 url) 6 n = u 6 o + 1 := (fu.1 6 n (by omega) (by omega)).trans c6
  have em : jm_es (jm_make (jm_ff0 v (nI x) n) (nI n) url) = jm_es v := jm_es_eq (fun g j h1 h2 => (fv.1 g j (by omega) (by omega) (by omega)).trans (jm_ff0_f (by omega)))
  have eu : jc_es (jl_doc (jc_mk0 u n (nI x)) (nI n) (jc_fd (jc_mk0 u n (nI x)) 4 url)) = jc_es u := jc_es_eq (fun g j h1 h2 => (fu.1 g j (by omega) (by omega)).trans (cf g j (Or.inl (by omega))))
  have er : ∀ j, jm_row (jm_make (jm_ff0 v (nI x) n) (nI n) url) j = jm_row v j := fun j => jm_row_eq (fun g h1 h2 => (fv.1 g j (by omega) (by omega) (by omega)).trans (jm_ff0_f (by omega)))
  have e9 : ∀ j, jm_make (jm_ff0 v (nI x) n) (nI n) url 9 j = v 9 j := fun j => (fv.1 9 j (by omega) (by omega) (by omega)).trans (jm_ff0_f (by omega))
  obtain ⟨R3, P3, M3⟩ := jl_write (n := n) (i := js_free (jc_mk0 u n (nI x)) 8 39 0) (s := s) (url := jc_fd (jc_mk0 u n (nI x)) 4 url) R2 P2 hpe hn (by rw [fu.1 5 n (by omega) (by omega)]; exact n5') (Or.inr (by
    rw [w6]
    rcases o6 with q | q
    · rw [q]; decide
    · rw [q]; decide)) hi (by rw [fu.2.1]; decide) fu.2.2.1 hr (fun t ht q => by
      rw [em] at ht
      obtain ⟨o', d, ho', hd, p1, p2, p8, p9, -⟩ := hP.2.2.1 t ht
      obtain ⟨o2, ho2, e2, e5⟩ := hP.2.2.2.1 d hd p8
      have a1 : o2 = o' := jn_inj (by omega) (by omega) (e2.symm.trans p9)
      have a2 : o' = n := jn_inj (by omega) (by omega) (p1.symm.trans q)
      rw [a1, a2] at e5
      exact e5 n5) (fun t ht q => by
      rw [em] at ht
      rw [w7] at q
      exact hs t ht q) (fun k hk k0 k5 q => by
      rw [fu.1 5 k (by omega) (by omega)] at k5
      rw [fu.1 7 k (by omega) (by omega)] at q
      obtain ⟨d, o', hd, ho', r7, r8, -⟩ := P1.2.2.2.2.1 k hk k0 k5
      have : d = js_free (jc_mk0 u n (nI x)) 8 39 0 := jn_inj (by omega) (by omega) (r7.symm.trans q)
      rw [this] at r8
      exact r8 i8)
  have efr : jm_frameFor v (nI x) url s = jm_write (jm_make (jm_ff0 v (nI x) n) (nI n) url) (nI n) s (jc_fd (jc_mk0 u n (nI x)) 4 url) (nI (js_free (jc_mk0 u n (nI x)) 8 39 0)) := by
    unfold jm_frameFor
    rw [fr5, e25, fr8]
  refine ⟨js_free (jc_mk0 u n (nI x)) 8 39 0, jc_fd (jc_mk0 u n (nI x)) 4 url, _, _, hn, hn0, hi, rfl, rfl, hr, fr5, rfl, rfl, ?_, ?_, ?_, ?_, fu.2.2.1, fu.2.2.2.1, fu.2.2.2.2.1, ?_, w6, n5, ?_, ?_, ?_, jc_Gr_le G2 (by omega) (by omega) (by omega)⟩
  · rw [efr]; exact R3
  · rw [efr]
    exact jl_P_mono P3 (fun d q => q.1.resolve_right q.2) (fun k q => q.1.resolve_right q.2)
  · rw [efr]
    have : jm_write (jm_make (jm_ff0 v (nI x) n) (nI n) url) (nI n) s (jc_fd (jc_mk0 u n (nI x)) 4 url) (nI (js_free (jc_mk0 u n (nI x)) 8 39 0)) 25 0 = jm_make (jm_ff0 v (nI x) n) (nI n) url 25 0 := jm_wr_f (by omega)
    rw [this, e25]
  · rw [fu.2.1]; decide
  · rw [fu.1 5 n (by omega) (by omega)]; exact n5'
  · rw [cf 8 _ (Or.inl (by omega))] at i8
    exact i8
  · rw [efr]
    intro t ht
    have a := R3.2.2.2.2.2.1.mem_iff.mp ht
    rw [List.cons_append, List.mem_cons] at a
    rcases a with a | a
    · exact Or.inl a
    · rw [eu] at a
      exact Or.inr (hR.2.2.2.2.2.1.mem_iff.mpr a)
  · rw [efr]
    intro j hj
    exact (M3 j (by rw [e9]; exact hj)).trans (er j)
theorem jl_mkF0 {L : js_S → Int32 → Int32 → Int32 → js_S} {w : js_S} {doc a s : Int32} (h : jc_room w doc ≤ 0) : jc_mkFrames L w doc a s = w := by
  unfold jc_mkFrames jc_mfB
  rw [if_pos h, if_pos h]
theorem jl_sl_eq {u w : js_S} {x : Nat} (h : w 12 x = u 12 x) : jl_sl w x = jl_sl u x := by
  unfold jl_sl
  rw [h]
/-- a frame of the last level -/
theorem jl_leaf {u v : js_S} {pe : List je_T} {pl : Nat → Option Nat} {X Y : Nat → Prop} {x o : Nat} {url s : Int32} (hR : jl_R u v pe pl) (hP : jl_P u v X Y) (hC : jl_C u 1 1 1) (hpe : pe.length ≤ 5) (hx : x < 40) (x8 : ¬ u 8 x = 0) (hpl : pl x = none) (h14 : v 14 x = -1) (ho : o < 40) (x9 : u 9 x = nI o) (o5 : ¬ u 5 o = 0) (o6 : u 6 o = 1) (hu : jq 256 url) (hs : ∀ t, t ∈ jm_es v → t.2.2.2.2 = nI x → s ≤ t.2.1) : jl_R (js_up (jc_mkFrame (jc_load 0) u (nI x) url s) (jl_sl u x) x (nI (js_free u 5 38 1))) (jm_frameFor v (nI x) url s) pe pl ∧ jl_P (js_up (jc_mkFrame (jc_load 0) u (nI x) url s) (jl_sl u x) x (nI (js_free u 5 38 1))) (jm_frameFor v (nI x) url s) X Y ∧ jl_Nw u v (jm_frameFor v (nI x) url s) s ∧ jc_Gr u (jc_mkFrame (jc_load 0) u (nI x) url s) 40 1 1 1 := by
  obtain ⟨i, r, w, y, hn, hn0, hi, ei, er, hr, fr5, ew, ey, R, P, y25, i8, i9, i12, i13, n5, n6, un5, ui8, hmem, hrow, G⟩ := jl_front hR hP ⟨hC.1, hC.2.1, by have := hC.2.2; omega⟩ hpe hx x8 hpl h14 ho x9 o5 (Or.inr o6) hu hs
  rw [← ey]
  have hw14 : w 14 (js_free w 14 39 0) = 0 := js_f39z (by have := hC.2.2; have := G.2.2.2.2.2.2.2; omega)
  have ld : jc_load 0 (jc_mk0 u (js_free u 5 38 1) (nI x)) (nI (js_free u 5 38 1)) r s = w := by
    show jc_loadB (fun s _ _ _ => s) _ _ _ _ = w
    rw [jl_loadB, ← ew, ← ei]
    split
    · refine jl_mkF0 ?_
      unfold jc_room
      rw [ix_nI (by omega), i9, ix_nI (by omega), n6, o6]
      decide
    · rfl
  have mkF : jc_mkFrame (jc_load 0) u (nI x) url s = jc_addEntry w (nI (js_free u 5 38 1)) s r 0 (nI i) := by
    unfold jc_mkFrame jc_mkF
    rw [← er, ld, ← ei]
  rw [mkF]
  obtain ⟨R2, P2⟩ := jl_entry R P hn hi hw14
  have G2 := jc_Gr_tr G (jc_Gr_add (o := nI (js_free u 5 38 1)) (st := s) (url := r) (state := 0) (doc := nI i) hw14)
  have e12 : jc_addEntry w (nI (js_free u 5 38 1)) s r 0 (nI i) 12 x = u 12 x := ((G2.2.1 x hx x8).2.2.2.2 (by omega)).1
  have L := jl_link R2 P2 hn hpl
  rw [jl_sl_eq e12] at L
  refine ⟨L.1, L.2, ⟨fun t ht => ?_, hrow⟩, jc_Gr_le G2 (by omega) (by omega) (by omega)⟩
  rcases hmem t ht with rfl | q
  · refine Or.inr ⟨rfl, hr, ?_, ?_⟩
    · show u 8 (ix (nI i)) = 0
      rw [ix_nI (by omega)]; exact ui8
    · show u 5 (ix (nI (js_free u 5 38 1))) = 0
      rw [ix_nI (by omega)]; exact un5
  · exact Or.inl q
def jl_in (L : js_S → Int32 → Int32 → Int32 → js_S) (u : js_S) (i : Nat) (r s : Int32) : js_S := if ¬ r = -1 ∧ u 0 (ix (r / 8)) = nI 0 then jc_mkFrames L u (nI i) (r / 8) s else u
theorem jl_links {u v : js_S} {pe : List je_T} {pl : Nat → Option Nat} (hR : jl_R u v pe pl) {x : Nat} (hx : x < 40) (x8 : ¬ u 8 x = 0) (hpl : pl x = none) : v 13 x = u 12 x ∧ v 14 x = u 13 x := by
  have := (hR.2.2.2.2.2.2.2.1 x hx x8).2.2
  rw [hpl] at this
  exact Prod.mk.inj this
/-- the frames of a document of level 1 -/
theorem jl_in1 {u v : js_S} {pe : List je_T} {pl : Nat → Option Nat} {X Y : Nat → Prop} {i n : Nat} {r s : Int32} (hR : jl_R u v pe pl) (hP : jl_P u v X Y) (hC : jl_C u 1 1 1) (hpe : pe.length ≤ 5) (hi : i < 40) (i8 : ¬ u 8 i = 0) (hpl : pl i = none) (i12 : u 12 i = -1) (i13 : u 13 i = -1) (hn : n < 40) (i9 : u 9 i = nI n) (n5 : ¬ u 5 n = 0) (n6 : u 6 n = 1) (hr : jq 256 r) (hs : ∀ t, t ∈ jm_es v → t.2.2.2.2 = nI i → s ≤ t.2.1) : ∃ w y, w = jl_in (jc_load 0) u i r s ∧ y = (if jm_wanted v r 0 1 ≠ -2 then jm_frameFor v (nI i) (jm_wanted v r 0 1) s else v) ∧ jl_R w y pe pl ∧ jl_P w y X Y ∧ jl_Nw u v y s ∧ jc_Gr u w i 1 1 1 := by
  refine ⟨_, _, rfl, rfl, ?_⟩
  have rf : jl_R u v pe pl ∧ jl_P u v X Y ∧ jl_Nw u v v s ∧ jc_Gr u u i 1 1 1 := ⟨hR, hP, jl_Nw_rf, jc_Gr_le jc_Gr_rf (by omega) (by omega) (by omega)⟩
  have h14 : v 14 i = -1 := (jl_links hR hi i8 hpl).2.trans i13
  unfold jl_in
  by_cases h1 : r = -1
  · have wn : jm_wanted v r 0 1 = -2 := by
      unfold jm_wanted
      rw [if_pos (Or.inl h1)]
    rw [if_neg (fun q => q.1 h1), wn, if_neg (fun q => q rfl)]
    exact rf
  obtain ⟨p, hp, ep⟩ := js_pg hr h1
  have a := hR.2.2.2.1 p hp
  rw [ep, ix_nI (show p < 2 ^ 31 by omega)]
  by_cases h2 : u 0 p = nI 0
  · have h2' : u 0 p = 0 := h2
    have a2 := a.2.1 h2'
    have wn : jm_wanted v r 0 1 = if u 1 p = -2 then u 2 p else u 1 p := by
      unfold jm_wanted
      have nc : ¬ (r = -1 ∨ v 0 p ≠ 0 ∨ ¬ (0 : Int32) < 1) := by
        rintro (q | q | q)
        · exact h1 q
        · exact q (by rw [← a.1]; exact h2')
        · exact q (by decide)
      rw [ep, ix_nI (show p < 2 ^ 31 by omega), if_neg nc, if_pos rfl, ← a2.1, ← a2.2.1]
    rw [if_pos ⟨h1, h2⟩, wn]
    have room : jc_room u (nI i) = 1 := by
      unfold jc_room
      rw [ix_nI (by omega), i9, ix_nI (by omega), n6]
      decide
    have one : ∀ url, jq 256 url → ¬ url = -2 → jl_R (js_up (jc_mkFrame (jc_load 0) u (nI i) url s) 12 i (nI (js_free u 5 38 1))) (if url ≠ -2 then jm_frameFor v (nI i) url s else v) pe pl ∧ jl_P (js_up (jc_mkFrame (jc_load 0) u (nI i) url s) 12 i (nI (js_free u 5 38 1))) (if url ≠ -2 then jm_frameFor v (nI i) url s else v) X Y ∧ jl_Nw u v (if url ≠ -2 then jm_frameFor v (nI i) url s else v) s ∧ jc_Gr u (js_up (jc_mkFrame (jc_load 0) u (nI i) url s) 12 i (nI (js_free u 5 38 1))) i 1 1 1 := by
      intro url hu hne
      obtain ⟨q1, q2, q3, q4⟩ := jl_leaf hR hP hC hpe hi i8 hpl h14 hn i9 n5 n6 hu hs
      have sl : jl_sl u i = 12 := by
        unfold jl_sl
        rw [if_pos i12]
      rw [sl] at q1 q2
      rw [if_pos hne]
      exact ⟨q1, q2, q3, jc_Gr_12 (jc_Gr_x q4)⟩
    unfold jc_mkFrames
    rw [room, if_neg (by decide), ix_nI (show p < 2 ^ 31 by omega)]
    by_cases h3 : u 1 p = -2
    · rw [if_pos h3, if_pos h3]
      unfold jc_mfB
      rw [if_neg (by decide), ix_nI (show p < 2 ^ 31 by omega)]
      by_cases h4 : u 2 p = -2
      · rw [if_pos h4, h4, if_neg (fun q => q rfl)]
        exact rf
      · rw [if_neg h4]
        have hu : jq 256 (u 2 p) := ((hR.1.1 p hp).2.2.2).resolve_left h4
        have k := one (u 2 p) hu h4
        have l := (jl_leaf (s := s) hR hP hC hpe hi i8 hpl h14 hn i9 n5 n6 hu hs).2.2.2
        have e12 : jc_mkFrame (jc_load 0) u (nI i) (u 2 p) s 12 i = -1 := (((l.2.1 i hi i8).2.2.2.2 (by omega)).1).trans i12
        unfold jc_mf2
        rw [ix_nI (show p < 2 ^ 31 by omega), ix_nI (show i < 2 ^ 31 by omega), if_pos e12]
        exact k
    · rw [if_neg h3, if_neg h3]
      have hu : jq 256 (u 1 p) := ((hR.1.1 p hp).2.2.1).resolve_left h3
      have k := one (u 1 p) hu h3
      unfold jc_mfB
      rw [if_pos (by decide)]
      unfold jc_mf1
      rw [ix_nI (show p < 2 ^ 31 by omega), ix_nI (show i < 2 ^ 31 by omega)]
      exact k
  · have h2' : ¬ u 0 p = 0 := h2
    have wn : jm_wanted v r 0 1 = -2 := by
      unfold jm_wanted
      rw [ep, ix_nI (show p < 2 ^ 31 by omega), if_pos (Or.inr (Or.inl (by rw [← a.1]; exact h2')))]
    rw [if_neg (fun q => h2 q.2), wn, if_neg (fun q => q rfl)]
    exact rf
theorem jl_po {v : js_S} {nav z : Int32} (h : ∀ t, t ∈ jm_es v → t.1 = nav → t.2.2.2.2 = z) : ∀ k e, e + k ≤ 48 → (∃ i, e ≤ i ∧ i < e + k ∧ ¬ v 9 i = 0 ∧ v 4 i = nav) → jm_po v nav k e = z
  | 0, e, _, hx => by
    obtain ⟨i, h1, h2, -⟩ := hx
    omega
  | k + 1, e, hk, hx => by
    rw [jm_po]
    by_cases q : v 9 e ≠ 0 ∧ v 4 e = nav
    · rw [if_pos q]
      exact h _ (jm_mem.mpr ⟨e, by omega, q.1, rfl⟩) q.2
    · rw [if_neg q]
      refine jl_po h k (e + 1) (by omega) ?_
      obtain ⟨i, h1, h2, h3, h4⟩ := hx
      refine ⟨i, ?_, by omega, h3, h4⟩
      by_cases e2 : i = e
      · subst e2; exact absurd ⟨h3, h4⟩ q
      · omega
/-- a frame of level 1, with the one inside -/
theorem jl_F1 {u v : js_S} {pe : List je_T} {pl : Nat → Option Nat} {X Y : Nat → Prop} {x o : Nat} {url s : Int32} (hR : jl_R u v pe pl) (hP : jl_P u v X Y) (hC : jl_C u 2 2 2) (hpe : pe.length ≤ 4) (hx : x < 40) (x8 : ¬ u 8 x = 0) (hpl : pl x = none) (h14 : v 14 x = -1) (ho : o < 40) (x9 : u 9 x = nI o) (o5 : ¬ u 5 o = 0) (o6 : u 6 o = 0) (hu : jq 256 url) (hs : ∀ t, t ∈ jm_es v → t.2.2.2.2 = nI x → s ≤ t.2.1) : jl_R (js_up (jc_mkFrame (jc_load 1) u (nI x) url s) (jl_sl u x) x (nI (js_free u 5 38 1))) (jm_lwi (jm_frameFor v (nI x) url s) (nI (js_free v 15 46 1)) s) pe pl ∧ jl_P (js_up (jc_mkFrame (jc_load 1) u (nI x) url s) (jl_sl u x) x (nI (js_free u 5 38 1))) (jm_lwi (jm_frameFor v (nI x) url s) (nI (js_free v 15 46 1)) s) X Y ∧ jl_Nw u v (jm_lwi (jm_frameFor v (nI x) url s) (nI (js_free v 15 46 1)) s) s ∧ jc_Gr u (jc_mkFrame (jc_load 1) u (nI x) url s) 40 2 2 2 := by
  obtain ⟨i, r, w, y, hn, hn0, hi, ei, er, hr, fr5, ew, ey, R, P, y25, i8, i9, i12, i13, n5, n6, un5, ui8, hmem, hrow, G⟩ := jl_front hR hP ⟨by have := hC.1; omega, by have := hC.2.1; omega, by have := hC.2.2; omega⟩ (by omega) hx x8 hpl h14 ho x9 o5 (Or.inl o6) hu hs
  have xi : ¬ i = x := fun q => x8 (by rw [← q]; exact ui8)
  have n6' : w 6 (js_free u 5 38 1) = 1 := by rw [n6, o6]; decide
  have hC2 : jl_C w 1 1 1 := jl_C_Gr hC G (by omega) (by omega) (by omega)
  obtain ⟨w2, y2, ew2, ey2, R2, P2, N2, G2⟩ := jl_in1 R P hC2 (by rw [List.length_cons]; omega) hi i8 (by rw [if_neg xi]; exact hR.2.2.2.2.2.2.2.2.2.2 i hi ui8) i12 i13 hn i9 n5 n6' hr (fun t ht e => by
    rcases hmem t ht with rfl | q
    · exact Int32.le_refl _
    · obtain ⟨o', d, ho', hd, p1, p2, p8, p9, -⟩ := hP.2.2.1 t q
      have : d = i := jn_inj (by omega) (by omega) (p2.symm.trans e)
      rw [this] at p8
      exact absurd ui8 p8)
  have mt : (nI (js_free u 5 38 1), s, r, (0 : Int32), nI i) ∈ jm_es y := R.2.2.2.2.2.1.mem_iff.mpr (by rw [List.cons_append]; exact List.mem_cons_self)
  have po : jm_po y (nI (js_free u 5 38 1)) 48 0 = nI i := by
    refine jl_po (fun t ht e => ?_) 48 0 (by omega) ?_
    · rcases hmem t ht with rfl | q
      · rfl
      · obtain ⟨o', d, ho', hd, p1, p2, p8, p9, -⟩ := hP.2.2.1 t q
        obtain ⟨o2, ho2, e2, e5⟩ := hP.2.2.2.1 d hd p8
        have a1 : o2 = o' := jn_inj (by omega) (by omega) (e2.symm.trans p9)
        have a2 : o' = js_free u 5 38 1 := jn_inj (by omega) (by omega) (p1.symm.trans e)
        rw [a1, a2] at e5
        exact absurd un5 e5
    · obtain ⟨k, hk, k9, ek⟩ := jm_mem.mp mt
      exact ⟨k, by omega, by omega, k9, (congrArg (fun t : je_T => t.1) ek).symm⟩
  have eV : jm_lwi (jm_frameFor v (nI x) url s) (nI (js_free v 15 46 1)) s = y2 := by
    rw [← ey, fr5, ey2]
    unfold jm_lwi
    rw [y25, po]
  have ld : jc_load 1 (jc_mk0 u (js_free u 5 38 1) (nI x)) (nI (js_free u 5 38 1)) r s = w2 := by
    show jc_loadB (jc_load 0) _ _ _ _ = w2
    rw [jl_loadB, ← ew, ← ei, ew2]
    unfold jl_in
    have e0 : ∀ j, w 0 j = jc_mk0 u (js_free u 5 38 1) (nI x) 0 j := by
      intro j
      have g1 := (G.2.2.2.1 j).1
      rw [g1]
      exact ((jl_mk0_f (u := u) (n := js_free u 5 38 1) hx ho x9).2.2.2 0 j (Or.inl (by omega))).symm
    rw [e0]
  have hw14 : w2 14 (js_free w2 14 39 0) = 0 := js_f39z (by have := hC.2.2; have := G.2.2.2.2.2.2.2; have := G2.2.2.2.2.2.2.2; omega)
  have mkF : jc_mkFrame (jc_load 1) u (nI x) url s = jc_addEntry w2 (nI (js_free u 5 38 1)) s r 0 (nI i) := by
    unfold jc_mkFrame jc_mkF
    rw [← er, ld, ← ei]
  rw [mkF, eV]
  obtain ⟨R3, P3⟩ := jl_entry R2 P2 hn hi hw14
  have G3 := jc_Gr_tr (jc_Gr_nx (jc_Gr_tr (jc_Gr_x (x := i) G) G2) ui8) (jc_Gr_add (o := nI (js_free u 5 38 1)) (st := s) (url := r) (state := 0) (doc := nI i) hw14)
  have e12 : jc_addEntry w2 (nI (js_free u 5 38 1)) s r 0 (nI i) 12 x = u 12 x := ((G3.2.1 x hx x8).2.2.2.2 (by omega)).1
  have L := jl_link R3 P3 hn hpl
  rw [jl_sl_eq e12] at L
  have N1 : jl_Nw u v y s := by
    refine ⟨fun t ht => ?_, hrow⟩
    rcases hmem t ht with rfl | q
    · refine Or.inr ⟨rfl, hr, ?_, ?_⟩
      · show u 8 (ix (nI i)) = 0
        rw [ix_nI (by omega)]; exact ui8
      · show u 5 (ix (nI (js_free u 5 38 1))) = 0
        rw [ix_nI (by omega)]; exact un5
    · exact Or.inl q
  exact ⟨L.1, L.2, jl_Nw_tr N1 G N2 (jl_ixs P2), jc_Gr_le G3 (by omega) (by omega) (by omega)⟩
