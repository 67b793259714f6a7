/-! Fields of the reference that its methods leave as they are. -/
theorem jm_keep_f {u : js_S} {x : Int32} {f i : Nat} (hf : ¬ f = 20) : jm_keep u x f i = u f i := by
  unfold jm_keep
  split
  · rfl
  · exact js_up_f hf
theorem jm_m0_f {u : js_S} {f i : Nat} (h1 : ¬ f = 17) (h2 : ¬ f = 19) (h3 : ¬ f = 20) : ∀ k, jm_m0 u k f i = u f i
  | 0 => rfl
  | k + 1 => by
    unfold jm_m0
    rw [js_up_f h1, js_up_f h3, js_up_f h2]
    exact jm_m0_f h1 h2 h3 k
theorem jm_me_f {u : js_S} {e f i : Nat} (h2 : ¬ f = 19) (h3 : ¬ f = 20) : jm_me u e f i = u f i := by
  unfold jm_me jm_me2 jm_me1
  split
  · rfl
  · split
    · rfl
    · rw [jm_keep_f h3, jm_keep_f h3, js_up_f h2]
theorem jm_m1_f {u : js_S} {f i : Nat} (h2 : ¬ f = 19) (h3 : ¬ f = 20) : ∀ k, jm_m1 u k f i = u f i
  | 0 => rfl
  | k + 1 => by
    unfold jm_m1
    rw [jm_me_f h2 h3]
    exact jm_m1_f h2 h3 k
theorem jm_m2_f {u : js_S} {f i : Nat} (h1 : ¬ f = 9) (h2 : ¬ f = 10) (h3 : ¬ f = 15) : ∀ k, jm_m2 u k f i = u f i
  | 0 => rfl
  | k + 1 => by
    unfold jm_m2 jm_n3 jm_n2 jm_n1
    rw [js_up_f h1, js_up_f h2, js_up_f h3]
    exact jm_m2_f h1 h2 h3 k
theorem jm_show_f {u : js_S} {d : Int32} {f i : Nat} (h : ¬ f = 17) : jm_show u d f i = u f i := by
  unfold jm_show jm_sh2 jm_sh1
  repeat' split
  all_goals first
    | rfl
    | rw [js_up_f h, js_up_f h]
    | rw [js_up_f h]
theorem jm_m3_f {u : js_S} {f i : Nat} (h : ¬ f = 17) : ∀ k, jm_m3 u k f i = u f i
  | 0 => rfl
  | k + 1 => by
    unfold jm_m3
    split
    · exact jm_m3_f h k
    · rw [jm_show_f h]
      exact jm_m3_f h k
theorem jm_mark_f {u : js_S} {f i : Nat} (h9 : ¬ f = 9) (h10 : ¬ f = 10) (h15 : ¬ f = 15) (h17 : ¬ f = 17) (h19 : ¬ f = 19) (h20 : ¬ f = 20) : jm_mark u f i = u f i := by
  unfold jm_mark jm_mkB3 jm_mkA3
  rw [jm_m3_f h17, jm_m3_f h17, jm_m3_f h17, jm_m2_f h9 h10 h15, jm_m1_f h19 h20, jm_m1_f h19 h20, jm_m1_f h19 h20, jm_m0_f h17 h19 h20]
theorem jm_mark_21 {u : js_S} : jm_mark u 21 0 = u 21 0 := jm_mark_f (by decide) (by decide) (by decide) (by decide) (by decide) (by decide)
theorem jm_co_f {u : js_S} {f i : Nat} (h : ¬ f = 9) : ∀ k, jm_co u k f i = u f i
  | 0 => rfl
  | k + 1 => by
    unfold jm_co
    rw [js_up_f h]
    exact jm_co_f h k
theorem jm_cut_21 {u : js_S} : jm_cutOff u 21 0 = u 21 0 := by
  unfold jm_cutOff
  rw [jm_mark_21, jm_co_f (by decide)]
theorem jm_fd_21 : ∀ k {u : js_S}, jm_fd u k 21 0 = u 21 0
  | 0, _ => rfl
  | k + 1, u => by
    unfold jm_fd
    split
    · rw [jm_fd_21 k, js_up_f (by decide)]
    · rfl
theorem jm_make_21 {u : js_S} {nav url : Int32} : jm_make u nav url 21 0 = u 21 0 := by
  unfold jm_make jm_mkB jm_mkA jm_mk1 jm_mkC jm_opq
  generalize js_free u 10 47 0 = d
  have e : ∀ b, jm_mkS (jm_mk0 u d) d url b 21 0 = u 21 0 := by
    intro b
    unfold jm_mkS jm_mk0
    rw [js_up_f (by decide), js_up_f (by decide), js_up_f (by decide), js_up_f (by decide), js_up_f (by decide)]
  repeat' split
  all_goals first
    | rw [js_up_f (by decide), js_up_f (by decide), e]
    | rw [js_up_f (by decide), e]
    | rw [js_up_f (by decide), js_up_f (by decide), jm_fd_21, e]
    | rw [js_up_f (by decide), js_up_f (by decide), js_up_f (by decide), jm_fd_21, e]
theorem jm_ff_21 {u : js_S} {d url st : Int32} : jm_frameFor u d url st 21 0 = u 21 0 := by
  unfold jm_frameFor jm_write jm_wr
  rw [js_up_f (by decide), js_up_f (by decide), js_up_f (by decide), js_up_f (by decide), js_up_f (by decide), js_up_f (by decide), jm_make_21]
  unfold jm_ff0 jm_ff1
  split
  · rw [js_up_f (by decide), js_up_f (by decide), js_up_f (by decide)]
  · rw [js_up_f (by decide), js_up_f (by decide), js_up_f (by decide)]
theorem jm_lw_21 {u : js_S} {d to st k : Int32} : jm_lw u d to st k 21 0 = u 21 0 := by
  unfold jm_lw jm_lwi
  split
  · split
    · rw [jm_ff_21, jm_ff_21]
    · rw [jm_ff_21]
  · rfl
theorem jm_load_21 {u : js_S} {nav url st : Int32} : jm_load u nav url st 21 0 = u 21 0 := by
  unfold jm_load jm_loadWindow jm_loadMiddle jm_lm
  split
  · rw [js_up_f (by decide), jm_lw_21, jm_lw_21, jm_make_21]
  · split
    · rw [js_up_f (by decide)]
      split
      · rw [jm_ff_21, jm_make_21]
      · rw [jm_make_21]
    · rw [jm_make_21]
/-- a step that one more may be added to -/
def jm_Nw (u : js_S) : Prop := ∃ k, k + 1 < 2 ^ 31 ∧ u 21 0 = nI k
theorem jm_Nw_of {u v : js_S} (h : jm_Nw u) (e : v 21 0 = u 21 0) : jm_Nw v := by
  obtain ⟨k, h1, h2⟩ := h
  exact ⟨k, h1, e.trans h2⟩
theorem jm_Nw_k {u : js_S} (h : jm_Nw u) : ∃ k, k < 2 ^ 31 ∧ u 21 0 = nI k := by
  obtain ⟨k, h1, h2⟩ := h
  exact ⟨k, by omega, h2⟩
theorem jm_Nw_up {u : js_S} (h : jm_Nw u) : ∃ k, k < 2 ^ 31 ∧ js_up u 21 0 (u 21 0 + 1) 21 0 = nI k := by
  obtain ⟨k, h1, h2⟩ := h
  exact ⟨k + 1, h1, by rw [js_up_s, h2, nI_1]⟩
theorem jq_ge {n : Nat} {x : Int32} (h : jq n x) (h0 : 0 ≤ x) : ∃ i, i < n ∧ x = nI i := jq_nn h (Int32.not_lt.mpr h0)
theorem jm_btw_ub {x : Int32} (h : ¬ jm_btw x (-1) 255 = 0) : jq 256 x := by
  unfold jm_btw at h
  split at h
  · exact absurd rfl h
  · split at h
    · exact absurd rfl h
    · rename_i h1 h2
      by_cases h0 : x < 0
      · refine Or.inl ?_
        rw [Int32.lt_iff_toInt_lt] at h0 h1
        rw [← Int32.toInt_inj]
        have e1 : (-1 : Int32).toInt = -1 := by decide
        have e2 : (0 : Int32).toInt = 0 := by decide
        omega
      · exact Or.inr (js_in 256 (by decide) h0 (fun q => h2 (Int32.lt_of_lt_of_le (by decide) q)))
theorem jm_nd_jq {v : js_S} (h : jm_Sh v) {e w : Int32} (he : ∃ i, i < 48 ∧ e = nI i) : jq 48 (jm_nd v e w) := by
  unfold jm_nd
  split
  · exact Or.inl rfl
  · exact Or.inr (jm_Spx h he)
theorem jm_nh_Sh {v : js_S} (h : jm_Sh v) {a b w : Int32} : jm_Sh (jm_nh v a b w) := by
  unfold jm_nh
  split
  · exact h
  · split
    · exact h
    · exact jm_Sh_24 h
theorem jm_nh_21 {v : js_S} {a b w : Int32} : jm_nh v a b w 21 0 = v 21 0 := by
  unfold jm_nh
  split
  · rfl
  · split
    · rfl
    · exact js_up_f (by decide)
theorem jm_ge_ex {s : js_S} {n : Nat} (h : ¬ jm_ge s n < 0) : ∃ i, i < 48 ∧ jm_ge s n = nI i := by
  unfold jm_ge at h ⊢
  split
  · rename_i q
    rw [if_pos q] at h
    exact absurd (by decide) h
  · exact jm_pr_ex
theorem jm_g1_Sh {u : js_S} (h : jm_Sh u) : ∀ k, jm_Sh (jm_g1 u k)
  | 0 => h
  | k + 1 => jm_Sh_18 (jm_g1_Sh h k)
theorem jm_g1_18 {u : js_S} : ∀ k i, i < k → jq 48 (jm_g1 u k 18 i)
  | 0, i, h => by omega
  | k + 1, i, h => by
    unfold jm_g1
    by_cases e : i = k
    · subst e
      rw [js_up_s]
      split
      · exact Or.inl rfl
      · exact Or.inr jm_pr_ex
    · rw [js_up_i e]
      exact jm_g1_18 k i (by omega)
theorem jm_gm_f {s : js_S} {a b : Int32} {f i : Nat} (h1 : ¬ f = 23) (h2 : ¬ f = 24) : jm_gm s a b f i = s f i := by
  unfold jm_gm jm_gh
  repeat' split
  all_goals first
    | rfl
    | rw [js_up_f h2, js_up_f h1]
theorem jm_g2_f {s : js_S} {f i : Nat} (h1 : ¬ f = 23) (h2 : ¬ f = 24) : ∀ k, jm_g2 s k f i = s f i
  | 0 => rfl
  | k + 1 => by
    unfold jm_g2
    rw [jm_gm_f h1 h2]
    exact jm_g2_f h1 h2 k
theorem jm_gm_Sh {s : js_S} (h : jm_Sh s) {a b : Int32} : jm_Sh (jm_gm s a b) := by
  unfold jm_gm jm_gh
  repeat' split
  all_goals first
    | exact h
    | exact jm_Sh_24 (jm_Sh_23 h)
theorem jm_g2_Sh {s : js_S} (h : jm_Sh s) : ∀ k, jm_Sh (jm_g2 s k)
  | 0 => h
  | k + 1 => jm_gm_Sh (jm_g2_Sh h k)
theorem jm_g2_18 {u : js_S} {to : Int32} {k i : Nat} (hi : i < 48) : jq 48 (jm_g2 (jm_mark (js_up (jm_g1 u 48) 21 0 to)) k 18 i) := by
  rw [jm_g2_f (by decide) (by decide), jm_mark_f (by decide) (by decide) (by decide) (by decide) (by decide) (by decide), js_up_f (by decide)]
  exact jm_g1_18 48 i hi
theorem jm_tk1_Sh {u : js_S} (h : jm_Sh u) {n d : Int32} (hd : ∃ j, j < 48 ∧ d = nI j) : jm_Sh (jm_tk1 u n d) := by
  unfold jm_tk1
  split
  · exact jm_Sh_13 h (jm_Srx h hd)
  · exact h
theorem jm_tk1_21 {u : js_S} {n d : Int32} : jm_tk1 u n d 21 0 = u 21 0 := by
  unfold jm_tk1
  split
  · exact js_up_f (by decide)
  · rfl
theorem jm_rwq {old url : Int32} (hu : jq 256 url) (ho : jq 256 old) : jq 256 (if url = -1 then old else url) := by
  split
  · exact ho
  · exact hu
