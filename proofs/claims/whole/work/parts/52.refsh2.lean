/-! The reference: its numbers stay in their ranges. -/
theorem jm_Sh_eq {u v : js_S} (h : jm_Sh u) (e4 : ∀ i, v 4 i = u 4 i) (e8 : ∀ i, v 8 i = u 8 i) (e13 : ∀ i, v 13 i = u 13 i) (e14 : ∀ i, v 14 i = u 14 i) (e16 : ∀ i, v 16 i = u 16 i) (e0 : ∀ i, v 0 i = u 0 i) (e1 : ∀ i, v 1 i = u 1 i) (e2 : ∀ i, v 2 i = u 2 i) : jm_Sh v := by
  obtain ⟨h1, h2⟩ := h
  refine ⟨fun i hi => ?_, fun i hi => ?_⟩
  · rw [e4, e8, e13, e14, e16]; exact h1 i hi
  · rw [e0, e1, e2]; exact h2 i hi
theorem jm_Sh_3 {u : js_S} (h : jm_Sh u) {i : Nat} {v : Int32} : jm_Sh (js_up u 3 i v) := jm_Sh_eq h (fun _ => js_up_f (by decide)) (fun _ => js_up_f (by decide)) (fun _ => js_up_f (by decide)) (fun _ => js_up_f (by decide)) (fun _ => js_up_f (by decide)) (fun _ => js_up_f (by decide)) (fun _ => js_up_f (by decide)) (fun _ => js_up_f (by decide))
theorem jm_Sh_5 {u : js_S} (h : jm_Sh u) {i : Nat} {v : Int32} : jm_Sh (js_up u 5 i v) := jm_Sh_eq h (fun _ => js_up_f (by decide)) (fun _ => js_up_f (by decide)) (fun _ => js_up_f (by decide)) (fun _ => js_up_f (by decide)) (fun _ => js_up_f (by decide)) (fun _ => js_up_f (by decide)) (fun _ => js_up_f (by decide)) (fun _ => js_up_f (by decide))
theorem jm_Sh_6 {u : js_S} (h : jm_Sh u) {i : Nat} {v : Int32} : jm_Sh (js_up u 6 i v) := jm_Sh_eq h (fun _ => js_up_f (by decide)) (fun _ => js_up_f (by decide)) (fun _ => js_up_f (by decide)) (fun _ => js_up_f (by decide)) (fun _ => js_up_f (by decide)) (fun _ => js_up_f (by decide)) (fun _ => js_up_f (by decide)) (fun _ => js_up_f (by decide))
theorem jm_Sh_7 {u : js_S} (h : jm_Sh u) {i : Nat} {v : Int32} : jm_Sh (js_up u 7 i v) := jm_Sh_eq h (fun _ => js_up_f (by decide)) (fun _ => js_up_f (by decide)) (fun _ => js_up_f (by decide)) (fun _ => js_up_f (by decide)) (fun _ => js_up_f (by decide)) (fun _ => js_up_f (by decide)) (fun _ => js_up_f (by decide)) (fun _ => js_up_f (by decide))
theorem jm_Sh_9 {u : js_S} (h : jm_Sh u) {i : Nat} {v : Int32} : jm_Sh (js_up u 9 i v) := jm_Sh_eq h (fun _ => js_up_f (by decide)) (fun _ => js_up_f (by decide)) (fun _ => js_up_f (by decide)) (fun _ => js_up_f (by decide)) (fun _ => js_up_f (by decide)) (fun _ => js_up_f (by decide)) (fun _ => js_up_f (by decide)) (fun _ => js_up_f (by decide))
theorem jm_Sh_10 {u : js_S} (h : jm_Sh u) {i : Nat} {v : Int32} : jm_Sh (js_up u 10 i v) := jm_Sh_eq h (fun _ => js_up_f (by decide)) (fun _ => js_up_f (by decide)) (fun _ => js_up_f (by decide)) (fun _ => js_up_f (by decide)) (fun _ => js_up_f (by decide)) (fun _ => js_up_f (by decide)) (fun _ => js_up_f (by decide)) (fun _ => js_up_f (by decide))
theorem jm_Sh_11 {u : js_S} (h : jm_Sh u) {i : Nat} {v : Int32} : jm_Sh (js_up u 11 i v) := jm_Sh_eq h (fun _ => js_up_f (by decide)) (fun _ => js_up_f (by decide)) (fun _ => js_up_f (by decide)) (fun _ => js_up_f (by decide)) (fun _ => js_up_f (by decide)) (fun _ => js_up_f (by decide)) (fun _ => js_up_f (by decide)) (fun _ => js_up_f (by decide))
theorem jm_Sh_12 {u : js_S} (h : jm_Sh u) {i : Nat} {v : Int32} : jm_Sh (js_up u 12 i v) := jm_Sh_eq h (fun _ => js_up_f (by decide)) (fun _ => js_up_f (by decide)) (fun _ => js_up_f (by decide)) (fun _ => js_up_f (by decide)) (fun _ => js_up_f (by decide)) (fun _ => js_up_f (by decide)) (fun _ => js_up_f (by decide)) (fun _ => js_up_f (by decide))
theorem jm_Sh_15 {u : js_S} (h : jm_Sh u) {i : Nat} {v : Int32} : jm_Sh (js_up u 15 i v) := jm_Sh_eq h (fun _ => js_up_f (by decide)) (fun _ => js_up_f (by decide)) (fun _ => js_up_f (by decide)) (fun _ => js_up_f (by decide)) (fun _ => js_up_f (by decide)) (fun _ => js_up_f (by decide)) (fun _ => js_up_f (by decide)) (fun _ => js_up_f (by decide))
theorem jm_Sh_17 {u : js_S} (h : jm_Sh u) {i : Nat} {v : Int32} : jm_Sh (js_up u 17 i v) := jm_Sh_eq h (fun _ => js_up_f (by decide)) (fun _ => js_up_f (by decide)) (fun _ => js_up_f (by decide)) (fun _ => js_up_f (by decide)) (fun _ => js_up_f (by decide)) (fun _ => js_up_f (by decide)) (fun _ => js_up_f (by decide)) (fun _ => js_up_f (by decide))
theorem jm_Sh_18 {u : js_S} (h : jm_Sh u) {i : Nat} {v : Int32} : jm_Sh (js_up u 18 i v) := jm_Sh_eq h (fun _ => js_up_f (by decide)) (fun _ => js_up_f (by decide)) (fun _ => js_up_f (by decide)) (fun _ => js_up_f (by decide)) (fun _ => js_up_f (by decide)) (fun _ => js_up_f (by decide)) (fun _ => js_up_f (by decide)) (fun _ => js_up_f (by decide))
theorem jm_Sh_19 {u : js_S} (h : jm_Sh u) {i : Nat} {v : Int32} : jm_Sh (js_up u 19 i v) := jm_Sh_eq h (fun _ => js_up_f (by decide)) (fun _ => js_up_f (by decide)) (fun _ => js_up_f (by decide)) (fun _ => js_up_f (by decide)) (fun _ => js_up_f (by decide)) (fun _ => js_up_f (by decide)) (fun _ => js_up_f (by decide)) (fun _ => js_up_f (by decide))
theorem jm_Sh_20 {u : js_S} (h : jm_Sh u) {i : Nat} {v : Int32} : jm_Sh (js_up u 20 i v) := jm_Sh_eq h (fun _ => js_up_f (by decide)) (fun _ => js_up_f (by decide)) (fun _ => js_up_f (by decide)) (fun _ => js_up_f (by decide)) (fun _ => js_up_f (by decide)) (fun _ => js_up_f (by decide)) (fun _ => js_up_f (by decide)) (fun _ => js_up_f (by decide))
theorem jm_Sh_21 {u : js_S} (h : jm_Sh u) {i : Nat} {v : Int32} : jm_Sh (js_up u 21 i v) := jm_Sh_eq h (fun _ => js_up_f (by decide)) (fun _ => js_up_f (by decide)) (fun _ => js_up_f (by decide)) (fun _ => js_up_f (by decide)) (fun _ => js_up_f (by decide)) (fun _ => js_up_f (by decide)) (fun _ => js_up_f (by decide)) (fun _ => js_up_f (by decide))
theorem jm_Sh_22 {u : js_S} (h : jm_Sh u) {i : Nat} {v : Int32} : jm_Sh (js_up u 22 i v) := jm_Sh_eq h (fun _ => js_up_f (by decide)) (fun _ => js_up_f (by decide)) (fun _ => js_up_f (by decide)) (fun _ => js_up_f (by decide)) (fun _ => js_up_f (by decide)) (fun _ => js_up_f (by decide)) (fun _ => js_up_f (by decide)) (fun _ => js_up_f (by decide))
theorem jm_Sh_23 {u : js_S} (h : jm_Sh u) {i : Nat} {v : Int32} : jm_Sh (js_up u 23 i v) := jm_Sh_eq h (fun _ => js_up_f (by decide)) (fun _ => js_up_f (by decide)) (fun _ => js_up_f (by decide)) (fun _ => js_up_f (by decide)) (fun _ => js_up_f (by decide)) (fun _ => js_up_f (by decide)) (fun _ => js_up_f (by decide)) (fun _ => js_up_f (by decide))
theorem jm_Sh_24 {u : js_S} (h : jm_Sh u) {i : Nat} {v : Int32} : jm_Sh (js_up u 24 i v) := jm_Sh_eq h (fun _ => js_up_f (by decide)) (fun _ => js_up_f (by decide)) (fun _ => js_up_f (by decide)) (fun _ => js_up_f (by decide)) (fun _ => js_up_f (by decide)) (fun _ => js_up_f (by decide)) (fun _ => js_up_f (by decide)) (fun _ => js_up_f (by decide))
theorem jm_Sh_25 {u : js_S} (h : jm_Sh u) {i : Nat} {v : Int32} : jm_Sh (js_up u 25 i v) := jm_Sh_eq h (fun _ => js_up_f (by decide)) (fun _ => js_up_f (by decide)) (fun _ => js_up_f (by decide)) (fun _ => js_up_f (by decide)) (fun _ => js_up_f (by decide)) (fun _ => js_up_f (by decide)) (fun _ => js_up_f (by decide)) (fun _ => js_up_f (by decide))
theorem jm_Sh_4 {u : js_S} (h : jm_Sh u) {i : Nat} {v : Int32} (hv : ∃ j, j < 48 ∧ v = nI j) : jm_Sh (js_up u 4 i v) := by
  obtain ⟨h1, h2⟩ := h
  refine ⟨fun k hk => ⟨?_, (h1 k hk).2.1, (h1 k hk).2.2.1, (h1 k hk).2.2.2.1, (h1 k hk).2.2.2.2⟩, h2⟩
  by_cases e : k = i
  · subst e; rw [js_up_s]; exact hv
  · rw [js_up_i e]; exact (h1 k hk).1
theorem jm_Sh_8 {u : js_S} (h : jm_Sh u) {i : Nat} {v : Int32} (hv : ∃ j, j < 48 ∧ v = nI j) : jm_Sh (js_up u 8 i v) := by
  obtain ⟨h1, h2⟩ := h
  refine ⟨fun k hk => ⟨(h1 k hk).1, ?_, (h1 k hk).2.2.1, (h1 k hk).2.2.2.1, (h1 k hk).2.2.2.2⟩, h2⟩
  by_cases e : k = i
  · subst e; rw [js_up_s]; exact hv
  · rw [js_up_i e]; exact (h1 k hk).2.1
theorem jm_Sh_13 {u : js_S} (h : jm_Sh u) {i : Nat} {v : Int32} (hv : jq 48 v) : jm_Sh (js_up u 13 i v) := by
  obtain ⟨h1, h2⟩ := h
  refine ⟨fun k hk => ⟨(h1 k hk).1, (h1 k hk).2.1, ?_, (h1 k hk).2.2.2.1, (h1 k hk).2.2.2.2⟩, h2⟩
  by_cases e : k = i
  · subst e; rw [js_up_s]; exact hv
  · rw [js_up_i e]; exact (h1 k hk).2.2.1
theorem jm_Sh_14 {u : js_S} (h : jm_Sh u) {i : Nat} {v : Int32} (hv : jq 48 v) : jm_Sh (js_up u 14 i v) := by
  obtain ⟨h1, h2⟩ := h
  refine ⟨fun k hk => ⟨(h1 k hk).1, (h1 k hk).2.1, (h1 k hk).2.2.1, ?_, (h1 k hk).2.2.2.2⟩, h2⟩
  by_cases e : k = i
  · subst e; rw [js_up_s]; exact hv
  · rw [js_up_i e]; exact (h1 k hk).2.2.2.1
theorem jm_Sh_16 {u : js_S} (h : jm_Sh u) {i : Nat} {v : Int32} (hv : jq 48 v) : jm_Sh (js_up u 16 i v) := by
  obtain ⟨h1, h2⟩ := h
  refine ⟨fun k hk => ⟨(h1 k hk).1, (h1 k hk).2.1, (h1 k hk).2.2.1, (h1 k hk).2.2.2.1, ?_⟩, h2⟩
  by_cases e : k = i
  · subst e; rw [js_up_s]; exact hv
  · rw [js_up_i e]; exact (h1 k hk).2.2.2.2
theorem js_f47 {u : js_S} {f : Nat} : js_free u f 47 0 < 48 := by have := js_free_le (u := u) (f := f) 47 0; omega
theorem js_f46 {u : js_S} {f : Nat} : js_free u f 46 1 < 48 := by have := js_free_le (u := u) (f := f) 46 1; omega
theorem jm_Sh_mk0 {u : js_S} (h : jm_Sh u) {d : Nat} : jm_Sh (jm_mk0 u d) := jm_Sh_14 (jm_Sh_13 (jm_Sh_10 h) jq_m1) jq_m1
theorem jm_Sh_mkS {u : js_S} (h : jm_Sh u) {d : Nat} {url b : Int32} : jm_Sh (jm_mkS u d url b) := jm_Sh_12 (jm_Sh_25 h)
theorem jm_Sh_opq {u : js_S} (h : jm_Sh u) {d : Nat} : jm_Sh (jm_opq u d) := jm_Sh_11 (jm_Sh_22 h)
theorem js_pgn {x : Int32} (h : ∃ j, j < 256 ∧ x = nI j) : ∃ i, i < 32 ∧ x / 8 = nI i := by
  obtain ⟨j, hj, rfl⟩ := h
  exact ⟨j / 8, by omega, pk_div (d := 8) (by omega) (by decide) (by decide)⟩
theorem js_rm {j : Nat} (hj : j < 2 ^ 31) : nI j - nI j / 8 * 8 = nI (j % 8) := pk_rem (d := 8) hj (by decide) (by decide)
/-- where a detour leads -/
theorem jm_led {u : js_S} (h : jm_Sh u) {x : Int32} (hx : ∃ j, j < 256 ∧ x = nI j) (h1 : u 0 (ix (x / 8)) = 1) :
    ∃ j, j < 256 ∧ (if u 1 (ix (x / 8)) - u 1 (ix (x / 8)) / 8 * 8 = 0 then u 1 (ix (x / 8)) + (x - x / 8 * 8) else u 1 (ix (x / 8))) = nI j := by
  obtain ⟨i, hi, e⟩ := js_pgn hx
  rw [e, ix_nI (show i < 2 ^ 31 by omega)] at h1 ⊢
  obtain ⟨t, ht, e2⟩ := (h.2 i hi).1 h1
  rw [e2]
  split
  · rename_i q
    obtain ⟨j, hj, rfl⟩ := hx
    rw [← e, js_rm (by omega), nI_add]
    rw [js_rm (by omega)] at q
    have q8 : t % 8 = 0 := (nI_eq (a := t % 8) (b := 0) (by omega) (by omega)).mp q
    exact ⟨t + j % 8, by omega, rfl⟩
  · exact ⟨t, ht, rfl⟩
theorem jm_fd_ok : ∀ (k : Nat) {u : js_S}, jm_Sh u → (∃ j, j < 256 ∧ u 25 0 = nI j) → jm_Sh (jm_fd u k) ∧ ∃ j, j < 256 ∧ jm_fd u k 25 0 = nI j
  | 0, _, h, hl => ⟨h, hl⟩
  | k + 1, u, h, hl => by
    unfold jm_fd
    split
    · rename_i h1
      exact jm_fd_ok k (jm_Sh_25 h) (by rw [js_up_s]; exact jm_led h hl h1)
    · exact ⟨h, hl⟩
theorem jm_mkA_Sh {u : js_S} (h : jm_Sh u) {d : Nat} {a b : Int32} : jm_Sh (jm_mkA u d a b) := by
  unfold jm_mkA
  split
  · exact jm_Sh_opq h
  · split
    · exact jm_Sh_11 h
    · exact jm_Sh_opq h
theorem jm_mkA_25 {u : js_S} {d : Nat} {a b : Int32} : jm_mkA u d a b 25 0 = u 25 0 := by
  unfold jm_mkA jm_opq
  split
  · rw [js_up_f (by decide), js_up_f (by decide)]
  · split
    · rw [js_up_f (by decide)]
    · rw [js_up_f (by decide), js_up_f (by decide)]
theorem jm_mk1_Sh {u : js_S} (h : jm_Sh u) {d : Nat} {b : Int32} : jm_Sh (jm_mk1 u d b) := by
  unfold jm_mk1
  split
  · unfold jm_mkC
    split
    · exact jm_Sh_11 (jm_Sh_12 h)
    · exact jm_Sh_opq (jm_Sh_12 h)
  · exact jm_Sh_opq (jm_Sh_12 h)
theorem jm_mk1_25 {u : js_S} {d : Nat} {b : Int32} : jm_mk1 u d b 25 0 = u 25 0 := by
  unfold jm_mk1 jm_mkC jm_opq
  split
  · split
    · rw [js_up_f (by decide), js_up_f (by decide)]
    · rw [js_up_f (by decide), js_up_f (by decide), js_up_f (by decide)]
  · rw [js_up_f (by decide), js_up_f (by decide), js_up_f (by decide)]
theorem jm_mkS_25 {u : js_S} {d : Nat} {url b : Int32} : jm_mkS u d url b 25 0 = url := by
  unfold jm_mkS
  rw [js_up_f (by decide), js_up_s]
theorem jm_make_ok {u : js_S} (h : jm_Sh u) {nav url : Int32} (hu : jq 256 url) : jm_Sh (jm_make u nav url) ∧ jq 256 (jm_make u nav url 25 0) := by
  unfold jm_make
  generalize js_free u 10 47 0 = d
  generalize jm_mk0 u d 16 (ix nav) = a
  generalize jm_under (jm_mk0 u d) nav = b
  have s1 : jm_Sh (jm_mkS (jm_mk0 u d) d url b) := jm_Sh_mkS (jm_Sh_mk0 h)
  have l1 : jm_mkS (jm_mk0 u d) d url b 25 0 = url := jm_mkS_25
  generalize jm_mkS (jm_mk0 u d) d url b = v at s1 l1
  unfold jm_mkB
  split
  · exact ⟨jm_mkA_Sh s1, by rw [jm_mkA_25, l1]; exact hu⟩
  · rename_i hn
    obtain ⟨s2, l2⟩ := jm_fd_ok 4 s1 (by rw [l1]; exact jq_ne hu hn)
    exact ⟨jm_mk1_Sh s2, by rw [jm_mk1_25]; exact Or.inr l2⟩
theorem jm_Sh_wr {u : js_S} (h : jm_Sh u) {e : Nat} {nav st url d : Int32} (hn : ∃ j, j < 48 ∧ nav = nI j) (hd : ∃ j, j < 48 ∧ d = nI j) : jm_Sh (jm_wr u e nav st url d) := jm_Sh_8 (jm_Sh_7 (jm_Sh_6 (jm_Sh_5 (jm_Sh_4 (jm_Sh_9 h) hn)))) hd
theorem jm_Sh_ff0 {u : js_S} (h : jm_Sh u) {d : Int32} {n : Nat} (hd : ∃ j, j < 48 ∧ d = nI j) (hn : n < 48) : jm_Sh (jm_ff0 u d n) := by
  have h1 : jm_Sh (jm_ff1 u d n) := jm_Sh_16 (jm_Sh_15 h) (Or.inr hd)
  unfold jm_ff0
  split
  · exact jm_Sh_14 h1 (jq_nI hn)
  · exact jm_Sh_13 h1 (jq_nI hn)
theorem jm_ff_ok {u : js_S} (h : jm_Sh u) {d url st : Int32} (hd : ∃ j, j < 48 ∧ d = nI j) (hu : jq 256 url) : jm_Sh (jm_frameFor u d url st) ∧ jq 256 (jm_frameFor u d url st 25 0) := by
  unfold jm_frameFor jm_write
  have hn : js_free u 15 46 1 < 48 := js_f46
  generalize js_free u 15 46 1 = n at hn
  have s1 := jm_Sh_ff0 h hd hn
  generalize jm_ff0 u d n = v at s1
  obtain ⟨s2, l2⟩ := jm_make_ok s1 (nav := nI n) hu
  refine ⟨jm_Sh_wr s2 ⟨n, hn, rfl⟩ ⟨_, js_f47, rfl⟩, ?_⟩
  unfold jm_wr
  rw [js_up_f (by decide), js_up_f (by decide), js_up_f (by decide), js_up_f (by decide), js_up_f (by decide), js_up_f (by decide)]
  exact l2
theorem jm_wanted_ok {u : js_S} (h : jm_Sh u) {url k most : Int32} (hu : jq 256 url) (hn : ¬ jm_wanted u url k most = -2) : jq 256 (jm_wanted u url k most) := by
  unfold jm_wanted at hn ⊢
  split
  · rename_i q
    rw [if_pos q] at hn
    exact absurd rfl hn
  · rename_i q
    rw [if_neg q] at hn
    have hu1 : ¬ url = -1 := fun e => q (Or.inl e)
    obtain ⟨i, hi, e⟩ := js_pg hu hu1
    rw [e, ix_nI (show i < 2 ^ 31 by omega)] at hn ⊢
    obtain ⟨-, h2, h3⟩ := h.2 i hi
    split at hn
    · split at hn
      · rename_i q1 q2
        rw [if_pos q1, if_pos q2]
        exact h3.resolve_left hn
      · rename_i q1 q2
        rw [if_pos q1, if_neg q2]
        exact h2.resolve_left q2
    · split at hn
      · exact absurd rfl hn
      · rename_i q1 q2
        rw [if_neg q1, if_neg q2]
        exact h3.resolve_left hn
theorem jm_po_ok {u : js_S} (h : jm_Sh u) {nav : Int32} : ∀ (k e : Nat), e + k ≤ 48 → (∃ i, e ≤ i ∧ i < e + k ∧ ¬ u 9 i = 0 ∧ u 4 i = nav) → ∃ j, j < 48 ∧ jm_po u nav k e = nI j
  | 0, e, _, ⟨i, h1, h2, _⟩ => by omega
  | k + 1, e, hk, ⟨i, h1, h2, h3, h4⟩ => by
    unfold jm_po
    split
    · exact (h.1 e (by omega)).2.1
    · rename_i q
      have : ¬ i = e := fun z => q ⟨by rw [← z]; exact h3, by rw [← z]; exact h4⟩
      exact jm_po_ok h k (e + 1) (by omega) ⟨i, by omega, by omega, h3, h4⟩
/-- the frame just made has an entry -/
theorem jm_ff_po {u : js_S} (h : jm_Sh u) {d url st : Int32} (hd : ∃ j, j < 48 ∧ d = nI j) (hu : jq 256 url) : ∃ j, j < 48 ∧ jm_po (jm_frameFor u d url st) (nI (js_free u 15 46 1)) 48 0 = nI j := by
  refine jm_po_ok (jm_ff_ok h hd hu).1 48 0 (by omega) ?_
  unfold jm_frameFor jm_write jm_wr
  generalize js_free u 15 46 1 = n
  generalize jm_make (jm_ff0 u d n) (nI n) url = v
  have he : js_free v 9 47 0 < 48 := js_f47
  refine ⟨js_free v 9 47 0, by omega, by omega, ?_, ?_⟩
  · rw [js_up_f (by decide), js_up_f (by decide), js_up_f (by decide), js_up_f (by decide), js_up_f (by decide), js_up_s]
    decide
  · rw [js_up_f (by decide), js_up_f (by decide), js_up_f (by decide), js_up_f (by decide), js_up_s]
theorem jm_lm_ok {u : js_S} (h : jm_Sh u) (hl : jq 256 (u 25 0)) {d st : Int32} (hd : ∃ j, j < 48 ∧ d = nI j) : jm_Sh (jm_lm u d st) := by
  unfold jm_lm
  split
  · rename_i q
    exact jm_Sh_25 (jm_ff_ok h hd (jm_wanted_ok h hl q)).1
  · exact jm_Sh_25 h
theorem jm_lwi_ok {u : js_S} (h : jm_Sh u) (hl : jq 256 (u 25 0)) {f st : Int32} (hp : ∃ j, j < 48 ∧ jm_po u f 48 0 = nI j) : jm_Sh (jm_lwi u f st) := by
  unfold jm_lwi
  split
  · rename_i q
    exact (jm_ff_ok h hp (jm_wanted_ok h hl q)).1
  · exact h
theorem jm_lw_ok {u : js_S} (h : jm_Sh u) {d to st k : Int32} (ht : jq 256 to) (hd : ∃ j, j < 48 ∧ d = nI j) : jm_Sh (jm_lw u d to st k) := by
  unfold jm_lw
  split
  · rename_i q
    have hw := jm_wanted_ok h ht q
    obtain ⟨s1, l1⟩ := jm_ff_ok (st := st) h hd hw
    exact jm_lwi_ok s1 l1 (jm_ff_po h hd hw)
  · exact h
theorem jm_load_ok {u : js_S} (h : jm_Sh u) {nav url st : Int32} (hu : jq 256 url) : jm_Sh (jm_load u nav url st) := by
  unfold jm_load jm_loadWindow jm_loadMiddle
  obtain ⟨s0, l0⟩ := jm_make_ok h (nav := 0) hu
  obtain ⟨s1, l1⟩ := jm_make_ok h (nav := nav) hu
  split
  · exact jm_Sh_25 (jm_lw_ok (jm_lw_ok s0 l0 ⟨_, js_f47, rfl⟩) l0 ⟨_, js_f47, rfl⟩)
  · split
    · exact jm_lm_ok s1 l1 ⟨_, js_f47, rfl⟩
    · exact s1
theorem jm_Sh_keep {u : js_S} (h : jm_Sh u) {x : Int32} : jm_Sh (jm_keep u x) := by
  unfold jm_keep
  split
  · exact h
  · exact jm_Sh_20 h
theorem jm_Sh_m0 {u : js_S} (h : jm_Sh u) : ∀ k, jm_Sh (jm_m0 u k)
  | 0 => h
  | k + 1 => jm_Sh_17 (jm_Sh_20 (jm_Sh_19 (jm_Sh_m0 h k)))
theorem jm_Sh_me {u : js_S} (h : jm_Sh u) {e : Nat} : jm_Sh (jm_me u e) := by
  unfold jm_me
  split
  · exact h
  · split
    · exact h
    · exact jm_Sh_keep (jm_Sh_keep (jm_Sh_19 h))
theorem jm_Sh_m1 {u : js_S} (h : jm_Sh u) : ∀ k, jm_Sh (jm_m1 u k)
  | 0 => h
  | k + 1 => jm_Sh_me (jm_Sh_m1 h k)
theorem jm_Sh_m2 {u : js_S} (h : jm_Sh u) : ∀ k, jm_Sh (jm_m2 u k)
  | 0 => h
  | k + 1 => jm_Sh_9 (jm_Sh_10 (jm_Sh_15 (jm_Sh_m2 h k)))
theorem jm_Sh_sh1 {u : js_S} (h : jm_Sh u) {d : Int32} : jm_Sh (jm_sh1 u d) := by
  unfold jm_sh1
  split
  · exact h
  · exact jm_Sh_17 h
theorem jm_Sh_show {u : js_S} (h : jm_Sh u) {d : Int32} : jm_Sh (jm_show u d) := by
  unfold jm_show jm_sh2
  split
  · exact jm_Sh_sh1 h
  · exact jm_Sh_17 (jm_Sh_sh1 h)
theorem jm_Sh_m3 {u : js_S} (h : jm_Sh u) : ∀ k, jm_Sh (jm_m3 u k)
  | 0 => h
  | k + 1 => by
    unfold jm_m3
    split
    · exact jm_Sh_m3 h k
    · exact jm_Sh_show (jm_Sh_m3 h k)
theorem jm_Sh_A3 {u : js_S} (h : jm_Sh u) : jm_Sh (jm_mkA3 u) := jm_Sh_m1 (jm_Sh_m1 (jm_Sh_m1 h 48) 48) 48
theorem jm_Sh_mark {u : js_S} (h : jm_Sh u) : jm_Sh (jm_mark u) := jm_Sh_m3 (jm_Sh_m3 (jm_Sh_m3 (jm_Sh_m2 (jm_Sh_A3 (jm_Sh_m0 h 48)) 48) 48) 48) 48
theorem jm_Sh_st : ∀ k {u : js_S}, jm_Sh u → jm_Sh (jm_st u k)
  | 0, _, h => h
  | k + 1, _, h => by
    unfold jm_st
    split
    · exact jm_Sh_st k (jm_Sh_21 h)
    · exact h
theorem jm_Sh_settle {u : js_S} (h : jm_Sh u) : jm_Sh (jm_settle u) := jm_Sh_mark (jm_Sh_st _ h)
theorem jm_Sh_co {u : js_S} (h : jm_Sh u) : ∀ k, jm_Sh (jm_co u k)
  | 0 => h
  | k + 1 => jm_Sh_9 (jm_Sh_co h k)
theorem jm_Sh_cut {u : js_S} (h : jm_Sh u) : jm_Sh (jm_cutOff u) := jm_Sh_mark (jm_Sh_co h 48)
