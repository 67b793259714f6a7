/-! Every call keeps the relation. -/
theorem jz_T_of {K : Nat} {u v w x : js_S} (h : jz_T K u v) (hS : jz_S K w x) (h8 : ∀ j, w 8 j = u 8 j) (h12 : ∀ j, w 12 j = u 12 j) (h13 : ∀ j, w 13 j = u 13 j) (h6 : ∀ j, x 6 j = v 6 j) : jz_T K w x := by
  refine ⟨hS, fun d hd e n hn => ?_, fun i hi => ?_⟩
  · rw [h8] at e
    rw [h12, h13]
    exact h.2.1 d hd e n hn
  · rw [h6]; exact h.2.2 i hi
theorem jm_go2_6 {v : js_S} {to : Int32} {j : Nat} : jm_go2 v to 6 j = v 6 j := by
  unfold jm_go2
  rw [jm_g2_f (by decide) (by decide), jm_mark_f (by decide) (by decide) (by decide) (by decide) (by decide) (by decide), js_up_f (by decide), jm_g1_f (by decide)]
theorem jc_go2_f {u : js_S} {to : Int32} {f j : Nat} (h : f < 20) : jc_go2 u to f j = u f j := by
  unfold jc_go2
  rw [js_up_f (by omega), jc_mv_f (by omega) (by omega)]
theorem jz_goT {K : Nat} {u v : js_S} (h : jz_T K u v) (hK : K ≤ 600) (delta : Int32) : (jc_go u delta).1 = (jm_go v delta).1 ∧ jz_T K (jc_go u delta).2 (jm_go v delta).2 ∧ 0 < (jc_cu u 40).2 := by
  obtain ⟨a, b, c⟩ := jz_go h.1 hK delta
  have cf : ∀ f j, f < 20 → (jc_go u delta).2 f j = u f j := by
    intro f j hf
    have e := (jc_cu_ok (u := u) 40).1 f j (by omega)
    unfold jc_go
    generalize (jc_cu u 40).1 = w at e ⊢
    generalize (jc_cu u 40).2 = n
    unfold jc_go1
    split
    · exact e
    · split
      · exact (jc_go2_f hf).trans e
      · exact e
  have mf : ∀ j, (jm_go v delta).2 6 j = v 6 j := by
    intro j
    unfold jm_go
    generalize jm_stepAt v (lN (jm_cu v (ix (v 21 0))) + delta.toInt64) = z
    unfold jm_go1
    split
    · dsimp only
      exact jm_go2_6
    · rfl
  exact ⟨a, jz_T_of h b (fun j => cf 8 j (by omega)) (fun j => cf 12 j (by omega)) (fun j => cf 13 j (by omega)) mf, c⟩
theorem jz_lengthT {K : Nat} {u v : js_S} (h : jz_T K u v) : jz_T K (jc_cu u 40).1 v := by
  have e := (jc_cu_ok (u := u) 40).1
  have S := jz_length_S h.1
  generalize (jc_cu u 40).1 = w at e S
  exact jz_T_of h S (fun j => e 8 j (by omega)) (fun j => e 12 j (by omega)) (fun j => e 13 j (by omega)) (fun _ => rfl)
theorem jz_contentT {K : Nat} {u v : js_S} (h : jz_T K u v) (page a b strict : Int32) : (jc_content u page a b strict).1 = (jm_content v page a b strict).1 ∧ jz_T K (jc_content u page a b strict).2 (jm_content v page a b strict).2 := by
  obtain ⟨q, r⟩ := jz_content h.1 page a b strict
  refine ⟨q, jz_T_of h r ?_ ?_ ?_ ?_⟩
  · intro j; unfold jc_content; split
    · rfl
    · dsimp only; rw [js_up_f (by decide), js_up_f (by decide), js_up_f (by decide), js_up_f (by decide)]
  · intro j; unfold jc_content; split
    · rfl
    · dsimp only; rw [js_up_f (by decide), js_up_f (by decide), js_up_f (by decide), js_up_f (by decide)]
  · intro j; unfold jc_content; split
    · rfl
    · dsimp only; rw [js_up_f (by decide), js_up_f (by decide), js_up_f (by decide), js_up_f (by decide)]
  · intro j; unfold jm_content; split
    · rfl
    · dsimp only; rw [js_up_f (by decide), js_up_f (by decide), js_up_f (by decide), js_up_f (by decide)]
theorem jz_detourT {K : Nat} {u v : js_S} (h : jz_T K u v) (page url : Int32) : (jc_detour u page url).1 = (jm_detour v page url).1 ∧ jz_T K (jc_detour u page url).2 (jm_detour v page url).2 := by
  obtain ⟨q, r⟩ := jz_detour h.1 page url
  refine ⟨q, jz_T_of h r ?_ ?_ ?_ ?_⟩
  · intro j; unfold jc_detour; split
    · rfl
    · dsimp only; rw [js_up_f (by decide), js_up_f (by decide)]
  · intro j; unfold jc_detour; split
    · rfl
    · dsimp only; rw [js_up_f (by decide), js_up_f (by decide)]
  · intro j; unfold jc_detour; split
    · rfl
    · dsimp only; rw [js_up_f (by decide), js_up_f (by decide)]
  · intro j; unfold jm_detour; split
    · rfl
    · dsimp only; rw [js_up_f (by decide), js_up_f (by decide)]
theorem jz_faultT {K : Nat} {u v : js_S} (h : jz_T K u v) (page : Int32) : (jc_fault u page).1 = (jm_fault v page).1 ∧ jz_T K (jc_fault u page).2 (jm_fault v page).2 := by
  obtain ⟨q, r⟩ := jz_fault h.1 page
  refine ⟨q, jz_T_of h r ?_ ?_ ?_ ?_⟩
  · intro j; unfold jc_fault; split
    · rfl
    · dsimp only; rw [js_up_f (by decide)]
  · intro j; unfold jc_fault; split
    · rfl
    · dsimp only; rw [js_up_f (by decide)]
  · intro j; unfold jc_fault; split
    · rfl
    · dsimp only; rw [js_up_f (by decide)]
  · intro j; unfold jm_fault; split
    · rfl
    · dsimp only; rw [js_up_f (by decide)]
/-- what the reference's contracts want -/
theorem jz_Nw {K : Nat} {u v : js_S} (h : jz_T K u v) (hK : K + 1 < 2 ^ 31) : jm_Nw v := by
  obtain ⟨k, hk, e⟩ := h.1.2.1.2.2.2.2.2.2.2.1
  exact ⟨k, by omega, h.1.2.2.2.2.1.1.symm.trans e⟩
theorem jz_Mh {K : Nat} {u v : js_S} (h : jz_T K u v) : jm_Sh v := h.1.2.2.2.2.2.2
theorem jz_Ch {K : Nat} {u v : js_S} (h : jz_T K u v) : jc_Sh u := h.1.2.1.2.2.2.2.2.1
theorem jz_old {K : Nat} {u v : js_S} (h : jz_T K u v) (n : Int32) : jq 256 (v 6 (ix (jm_presentOf v n))) := by
  obtain ⟨i, hi, e⟩ := jm_pr_ex (u := v) (nav := n)
  rw [e, ix_nI (by omega)]
  exact h.2.2 i hi
