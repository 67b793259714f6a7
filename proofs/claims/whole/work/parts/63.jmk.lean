/-! The constructor's worlds, one cell after the other, and at the end in the numbering of the class. -/
theorem jc_mk_ext {aK : Nat → Nat} {cA : Nat → ClassId} {ad ad' : Nat → Nat} {n i a b c : Nat} (h : ∀ j, j < n → ad' j = ad j) (h6 : 6 ≤ n) (hi : 6 + i ≤ n) (ha : ∀ j, j < a → 38 + 3 * j < n) (hb : ∀ j, j < b → 39 + 3 * j < n) (hc : ∀ j, j < c → 40 + 3 * j < n) : jc_mk aK cA ad' i a b c = jc_mk aK cA ad i a b c := by
  have f1 : (fun j => if j < i then some (ad' (6 + j)) else none : Nat → Option Nat) = fun j => if j < i then some (ad (6 + j)) else none := by
    funext j
    split
    · rw [h _ (by omega)]
    · rfl
  have f2 : (fun j => if j < a then some (ad' (38 + 3 * j)) else none : Nat → Option Nat) = fun j => if j < a then some (ad (38 + 3 * j)) else none := by
    funext j
    split
    · rename_i q
      rw [h _ (ha j q)]
    · rfl
  have f3 : (fun j => if j < b then some (ad' (39 + 3 * j)) else none : Nat → Option Nat) = fun j => if j < b then some (ad (39 + 3 * j)) else none := by
    funext j
    split
    · rename_i q
      rw [h _ (hb j q)]
    · rfl
  have f4 : (fun j => if j < c then some (ad' (40 + 3 * j)) else none : Nat → Option Nat) = fun j => if j < c then some (ad (40 + 3 * j)) else none := by
    funext j
    split
    · rename_i q
      rw [h _ (hc j q)]
    · rfl
  funext k
  unfold jc_mk
  rw [f1, f2, f3, f4, h 1 (by omega), h 2 (by omega), h 3 (by omega), h 4 (by omega), h 5 (by omega)]
/-- one cell more, and a place of an array of references -/
theorem jc_grow1 {aK : Nat → Nat} {cA : Nat → ClassId} {ad : Nat → Nat} {n i a b c i' a' b' c' q k : Nat} {e : va_E} {ar : ClassId × Nat} {f : Nat → Option Nat} (hk : 0 < k ∧ k < 5) (h6 : 6 ≤ n) (hi : 6 + i ≤ n) (ha : ∀ j, j < a → 38 + 3 * j < n) (hb : ∀ j, j < b → 39 + 3 * j < n) (hc : ∀ j, j < c → 40 + 3 * j < n)
    (hoth : ∀ (x : Nat → Nat) (j : Nat), j < n + 1 → ¬ j = k → jc_mk aK cA x i' a' b' c' j = jc_mk aK cA x i a b c j) (hnew : jc_mk aK cA (va_up ad n q) i a b c n = e) (hf : jc_mk aK cA (va_up ad n q) i' a' b' c' k = jq_arr ar.1 ar.2 f) :
    (jx_W n ad (jc_mk aK cA ad i a b c) ++ [(q, e)]).set k (ad k, jq_arr ar.1 ar.2 f) = jx_W (n + 1) (va_up ad n q) (jc_mk aK cA (va_up ad n q) i' a' b' c') := by
  have hx : jc_mk aK cA (va_up ad n q) i a b c = jc_mk aK cA ad i a b c := jc_mk_ext (fun j hj => by simp [va_up, show ¬ j = n by omega]) h6 hi ha hb hc
  rw [jx_push, ← hf, show ad k = va_up ad n q k from by simp [va_up, show ¬ k = n by omega]]
  refine jx_set (by omega) (fun j hj hne => ?_)
  rw [hoth _ j hj hne, hx]
  by_cases hjn : j = n
  · subst hjn
    rw [← hx, hnew]
    simp [va_up]
  · simp [va_up, hjn]
theorem jc_mk_i {aK : Nat → Nat} {cA : Nat → ClassId} {ad : Nat → Nat} {i i' a b c j : Nat} (h : ¬ j = 1) : jc_mk aK cA ad i' a b c j = jc_mk aK cA ad i a b c j := by
  unfold jc_mk
  simp [h]
theorem jc_mk_a {aK : Nat → Nat} {cA : Nat → ClassId} {ad : Nat → Nat} {i a a' b c j : Nat} (h : ¬ j = 2) : jc_mk aK cA ad i a' b c j = jc_mk aK cA ad i a b c j := by
  unfold jc_mk
  simp [h]
theorem jc_mk_b {aK : Nat → Nat} {cA : Nat → ClassId} {ad : Nat → Nat} {i a b b' c j : Nat} (h : ¬ j = 3) : jc_mk aK cA ad i a b' c j = jc_mk aK cA ad i a b c j := by
  unfold jc_mk
  simp [h]
theorem jc_mk_c {aK : Nat → Nat} {cA : Nat → ClassId} {ad : Nat → Nat} {i a b c c' j : Nat} (h : ¬ j = 4) : jc_mk aK cA ad i a b c' j = jc_mk aK cA ad i a b c j := by
  unfold jc_mk
  simp [h]
theorem jc_up_fn {ad : Nat → Nat} {n i q o s : Nat} (ho : n = o + s * i) (hlt : ∀ j, j < i → o + s * j < n) : va_up (fun j => if j < i then some (ad (o + s * j)) else none : Nat → Option Nat) i (some q) = fun j => if j < i + 1 then some (va_up ad n q (o + s * j)) else none := by
  funext j
  by_cases h : j = i
  · subst h
    simp [va_up, ho]
  · by_cases h2 : j < i
    · have := hlt j h2
      simp [va_up, h, h2, show j < i + 1 by omega, show ¬ o + s * j = n by omega]
    · simp [va_up, h, h2, show ¬ j < i + 1 by omega]
theorem jc_mkA {aK : Nat → Nat} {cA : Nat → ClassId} {ad : Nat → Nat} {i q : Nat} (hi : i < 32) : (jx_W (6 + i) ad (jc_mk aK cA ad i 0 0 0) ++ [(q, (.inr (1, jc_fA aK js_A1 0) : va_E))]).set 1 (ad 1, jq_arr (cA 0) 32 (va_up (fun j => if j < i then some (ad (6 + j)) else none) i (some q))) = jx_W (6 + (i + 1)) (va_up ad (6 + i) q) (jc_mk aK cA (va_up ad (6 + i) q) (i + 1) 0 0 0) := by
  refine jc_grow1 (ar := (cA 0, 32)) (by omega) (by omega) (by omega) (fun j h => by omega) (fun j h => by omega) (fun j h => by omega) (fun x j _ h => jc_mk_i h) ?_ ?_
  · unfold jc_mk
    rw [if_neg (by omega), if_neg (by omega), if_neg (by omega), if_neg (by omega), if_neg (by omega), if_neg (by omega), if_pos (by omega)]
  · have := jc_up_fn (ad := ad) (n := 6 + i) (i := i) (q := q) (o := 6) (s := 1) (by omega) (fun j h => by omega)
    simp only [Nat.one_mul] at this
    rw [this]
    unfold jc_mk
    simp
theorem jc_mkN {aK : Nat → Nat} {cA : Nat → ClassId} {ad : Nat → Nat} {i q : Nat} (hi : i < 40) : (jx_W (38 + 3 * i) ad (jc_mk aK cA ad 32 i i i) ++ [(q, (.inr (2, [.int (nI i), .int 0, .int 0, .null]) : va_E))]).set 2 (ad 2, jq_arr (cA 1) 40 (va_up (fun j => if j < i then some (ad (38 + 3 * j)) else none) i (some q))) = jx_W (38 + 3 * i + 1) (va_up ad (38 + 3 * i) q) (jc_mk aK cA (va_up ad (38 + 3 * i) q) 32 (i + 1) i i) := by
  refine jc_grow1 (ar := (cA 1, 40)) (by omega) (by omega) (by omega) (fun j h => by omega) (fun j h => by omega) (fun j h => by omega) (fun x j _ h => jc_mk_a h) ?_ ?_
  · unfold jc_mk
    rw [if_neg (by omega), if_neg (by omega), if_neg (by omega), if_neg (by omega), if_neg (by omega), if_neg (by omega), if_neg (by omega), if_pos (by omega), show (38 + 3 * i - 38) / 3 = i by omega]
  · rw [jc_up_fn (ad := ad) (n := 38 + 3 * i) (i := i) (q := q) (o := 38) (s := 3) rfl (fun j h => by omega)]
    unfold jc_mk
    simp
theorem jc_mkD {aK : Nat → Nat} {cA : Nat → ClassId} {ad : Nat → Nat} {i q : Nat} (hi : i < 40) : (jx_W (38 + 3 * i + 1) ad (jc_mk aK cA ad 32 (i + 1) i i) ++ [(q, (.inr (3, jc_dD) : va_E))]).set 3 (ad 3, jq_arr (cA 2) 40 (va_up (fun j => if j < i then some (ad (39 + 3 * j)) else none) i (some q))) = jx_W (38 + 3 * i + 1 + 1) (va_up ad (38 + 3 * i + 1) q) (jc_mk aK cA (va_up ad (38 + 3 * i + 1) q) 32 (i + 1) (i + 1) i) := by
  refine jc_grow1 (ar := (cA 2, 40)) (by omega) (by omega) (by omega) (fun j h => by omega) (fun j h => by omega) (fun j h => by omega) (fun x j _ h => jc_mk_b h) ?_ ?_
  · unfold jc_mk
    rw [if_neg (by omega), if_neg (by omega), if_neg (by omega), if_neg (by omega), if_neg (by omega), if_neg (by omega), if_neg (by omega), if_neg (by omega), if_pos (by omega)]
  · rw [jc_up_fn (ad := ad) (n := 38 + 3 * i + 1) (i := i) (q := q) (o := 39) (s := 3) (by omega) (fun j h => by omega)]
    unfold jc_mk
    simp
theorem jc_mkE {aK : Nat → Nat} {cA : Nat → ClassId} {ad : Nat → Nat} {i q : Nat} (hi : i < 40) : (jx_W (38 + 3 * i + 1 + 1) ad (jc_mk aK cA ad 32 (i + 1) (i + 1) i) ++ [(q, (.inr (4, jc_dE) : va_E))]).set 4 (ad 4, jq_arr (cA 3) 40 (va_up (fun j => if j < i then some (ad (40 + 3 * j)) else none) i (some q))) = jx_W (38 + 3 * (i + 1)) (va_up ad (38 + 3 * i + 1 + 1) q) (jc_mk aK cA (va_up ad (38 + 3 * i + 1 + 1) q) 32 (i + 1) (i + 1) (i + 1)) := by
  refine jc_grow1 (ar := (cA 3, 40)) (by omega) (by omega) (by omega) (fun j h => by omega) (fun j h => by omega) (fun j h => by omega) (fun x j _ h => jc_mk_c h) ?_ ?_
  · unfold jc_mk
    rw [if_neg (by omega), if_neg (by omega), if_neg (by omega), if_neg (by omega), if_neg (by omega), if_neg (by omega), if_neg (by omega), if_neg (by omega), if_neg (by omega)]
  · rw [jc_up_fn (ad := ad) (n := 38 + 3 * i + 1 + 1) (i := i) (q := q) (o := 40) (s := 3) (by omega) (fun j h => by omega)]
    unfold jc_mk
    simp
def jp_n (k : Nat) : Nat := if k < 38 then k else if k < 78 then 38 + 3 * (k - 38) else if k < 118 then 39 + 3 * (k - 78) else 40 + 3 * (k - 118)
theorem jp_lt {k : Nat} (h : k < 158) : jp_n k < 158 := by
  unfold jp_n
  split
  · omega
  · split
    · omega
    · split <;> omega
theorem jp_inj {i j : Nat} (hi : i < 158) (hj : j < 158) (e : jp_n i = jp_n j) : i = j := by
  unfold jp_n at e
  repeat' split at e
  all_goals omega
theorem jc_fin {D : va_G} {aK : Nat → Nat} {cA : Nat → ClassId} {ad : Nat → Nat} {A : Nat → Prop} {H : Heap} (hP : va_P D classes (jx_W 158 ad (jc_mk aK cA ad 32 40 40 40)) H) (hD : va_D A (jx_W 158 ad (jc_mk aK cA ad 32 40 40 40))) :
    va_P D classes (jx_W 158 (fun k => ad (jp_n k)) (jc_cell (fun k => ad (jp_n k)) aK cA js_new)) H ∧ va_D A (jx_W 158 (fun k => ad (jp_n k)) (jc_cell (fun k => ad (jp_n k)) aK cA js_new)) := by
  refine ⟨fun k x hx => ?_, fun i j x y hx hy e => ?_, fun k x hx => ?_⟩
  · obtain ⟨hk, rfl⟩ := jx_in hx
    have h := hP (jp_n k) _ (jx_at (jp_lt hk))
    by_cases h0 : k = 0
    · subst h0
      exact h
    by_cases h1 : k = 1
    · subst h1
      rw [jc_c1]
      refine Eq.trans h (congrArg some (jx_arr (fun j hj => ?_)))
      simp [hj, jp_n, show 6 + j < 38 by omega]
    by_cases h2 : k = 2
    · subst h2
      rw [jc_c2]
      refine Eq.trans h (congrArg some (jx_arr (fun j hj => ?_)))
      simp [hj, jp_n, show ¬ 38 + j < 38 by omega, show 38 + j < 78 by omega]
    by_cases h3 : k = 3
    · subst h3
      rw [jc_c3]
      refine Eq.trans h (congrArg some (jx_arr (fun j hj => ?_)))
      simp [hj, jp_n, show ¬ 78 + j < 38 by omega, show ¬ 78 + j < 78 by omega, show 78 + j < 118 by omega]
    by_cases h4 : k = 4
    · subst h4
      rw [jc_c4]
      refine Eq.trans h (congrArg some (jx_arr (fun j hj => ?_)))
      simp [hj, jp_n, show ¬ 118 + j < 38 by omega, show ¬ 118 + j < 78 by omega, show ¬ 118 + j < 118 by omega]
    by_cases h5 : k = 5
    · subst h5
      rw [jc_c5]
      exact h
    have hb : jc_mk aK cA ad 32 40 40 40 (jp_n k) = jc_cell (fun k => ad (jp_n k)) aK cA js_new k := by
      by_cases h6 : k < 38
      · obtain ⟨i, rfl⟩ : ∃ i, k = 6 + i := ⟨k - 6, by omega⟩
        rw [jc_cA (by omega)]
        unfold jc_mk jp_n
        simp only [h6, if_true]
        rw [if_neg (by omega), if_neg (by omega), if_neg (by omega), if_neg (by omega), if_neg (by omega), if_neg (by omega)]
        simp [jc_fA, js_A1, js_new]
      by_cases h7 : k < 78
      · obtain ⟨i, rfl⟩ : ∃ i, k = 38 + i := ⟨k - 38, by omega⟩
        rw [jc_cN (by omega)]
        have e : jp_n (38 + i) = 38 + 3 * i := by
          unfold jp_n
          rw [if_neg (by omega), if_pos (by omega)]
          omega
        rw [e]
        unfold jc_mk
        rw [if_neg (by omega), if_neg (by omega), if_neg (by omega), if_neg (by omega), if_neg (by omega), if_neg (by omega), if_neg (by omega), if_pos (by omega), show (38 + 3 * i - 38) / 3 = i by omega]
        simp [jc_fN, js_new, jv_null]
      by_cases h8 : k < 118
      · obtain ⟨i, rfl⟩ : ∃ i, k = 78 + i := ⟨k - 78, by omega⟩
        rw [jc_cD (by omega)]
        have e : jp_n (78 + i) = 39 + 3 * i := by
          unfold jp_n
          rw [if_neg (by omega), if_neg (by omega), if_pos (by omega)]
          omega
        rw [e]
        unfold jc_mk
        rw [if_neg (by omega), if_neg (by omega), if_neg (by omega), if_neg (by omega), if_neg (by omega), if_neg (by omega), if_neg (by omega), if_neg (by omega), if_pos (by omega)]
        simp [jc_fD, jc_dD, js_new, jv_null]
      · obtain ⟨i, rfl⟩ : ∃ i, k = 118 + i := ⟨k - 118, by omega⟩
        rw [jc_cE (by omega)]
        have e : jp_n (118 + i) = 40 + 3 * i := by
          unfold jp_n
          rw [if_neg (by omega), if_neg (by omega), if_neg (by omega)]
          omega
        rw [e]
        unfold jc_mk
        rw [if_neg (by omega), if_neg (by omega), if_neg (by omega), if_neg (by omega), if_neg (by omega), if_neg (by omega), if_neg (by omega), if_neg (by omega), if_neg (by omega)]
        simp [jc_fE, jc_dE, js_new, jv_null]
    rw [← hb]
    exact h
  · obtain ⟨hi, rfl⟩ := jx_in hx
    obtain ⟨hj, rfl⟩ := jx_in hy
    exact jp_inj hi hj (jx_inj hD (jp_lt hi) (jp_lt hj) e)
  · obtain ⟨hk, rfl⟩ := jx_in hx
    exact jx_Aof hD (jp_lt hk)
