/-! For go: the aim is a place, the shape stays. -/
theorem js_aim {a : Int64} {k : Nat} (hk : k ≤ 40) (h1 : ¬ lg_cmp a 0 < 0) (h2 : lg_cmp a (nI k).toInt64 < 0) : ∃ i, i < 40 ∧ a.toInt32 = nI i := by
  rw [lg_cmp_lt] at h1 h2
  obtain ⟨j, hj, rfl⟩ := pk_lOf h1
  rw [nI_l (by omega), pk_lLT hj (by omega)] at h2
  exact ⟨j, by omega, lN_i j⟩
theorem jc_se_jq {u : js_S} {n st : Int32} : jq 40 (jc_shownEntry u n st) := by
  by_cases h : jc_shownEntry u n st = -1
  · exact Or.inl h
  · obtain ⟨i, h1, h2, -⟩ := jc_se_row h
    exact Or.inr ⟨i, h1, h2⟩
theorem jc_Sh_sh {a : Nat} : ∀ (k : Nat) {u : js_S}, jc_Sh u → jc_Sh (jc_sh u a k)
  | 0, _, h => h
  | k + 1, _, h => by
    unfold jc_sh
    split
    · exact jc_Sh_sh k (jc_Sh_20 h)
    · exact h
theorem jc_Sh_insS {u : js_S} (h : jc_Sh u) {st : Int32} {k : Nat} : jc_Sh (jc_insS u st k) := by
  unfold jc_insS
  split
  · exact h
  · exact jc_Sh_20 (jc_Sh_sh k h)
theorem jc_Sh_cu {u : js_S} (h : jc_Sh u) : ∀ k, jc_Sh (jc_cu u k).1
  | 0 => h
  | k + 1 => by
    unfold jc_cu
    split
    · exact jc_Sh_cu h k
    · exact jc_Sh_insS (jc_Sh_cu h k)
theorem jc_Sh_move {u : js_S} (h : jc_Sh u) {x y : Int32} : jc_Sh (jc_move u x y) := by
  unfold jc_move
  split
  · exact h
  · unfold jc_mv1
    split
    · exact jc_Sh_22 h
    · exact jc_Sh_23 (jc_Sh_22 h)
theorem jc_Sh_mv {u : js_S} (h : jc_Sh u) {st : Int32} : ∀ k, jc_Sh (jc_mv u st k)
  | 0 => h
  | k + 1 => by
    unfold jc_mv
    exact jc_Sh_move (jc_Sh_mv h k)
