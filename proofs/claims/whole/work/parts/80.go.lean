/-! go -/
theorem jc_place_ok {s : js_S} {p n : Nat} (hu : jc_up s n) (hp : p < n) (he : s 20 p = s 21 0) : ∀ k i, i ≤ p → p ≤ i + k → jc_place s k i = p
  | 0, i, h1, h2 => by
    have : i = p := by omega
    subst this; rfl
  | k + 1, i, h1, h2 => by
    rw [jc_place]
    by_cases e : i = p
    · subst e
      rw [if_pos (by rw [he]; exact Int32.le_refl _)]
    · rw [if_neg]
      · exact jc_place_ok hu hp he k (i + 1) (by omega) (by omega)
      · rw [← he]
        exact Int32.not_le.mpr (hu i p (by omega) hp)
theorem nI_to64 {n : Nat} (h : n < 2 ^ 31) : (nI n).toInt64 = lN n := by
  apply Int64.toInt_inj.mp
  rw [lN_toInt h, Int32.toInt_toInt64, nI_toInt h]
theorem jz_aim {x : Int64} {n : Nat} (hn : n ≤ 40) (h1 : ¬ lg_cmp x 0 < 0) (h2 : lg_cmp x (nI n).toInt64 < 0) : ∃ a, a < n ∧ x = lN a ∧ x.toInt32 = nI a := by
  rw [lg_cmp_lt] at h1 h2
  have e : (nI n).toInt64 = lN n := nI_to64 (by omega)
  rw [e] at h2
  have g1 : (0 : Int) ≤ x.toInt := by
    have := Int64.not_lt.mp h1
    rw [Int64.le_iff_toInt_le] at this
    exact this
  have g2 : x.toInt < (n : Int) := by
    rw [Int64.lt_iff_toInt_lt, lN_toInt (by omega)] at h2
    exact h2
  have g3 : x = lN x.toInt.toNat := by
    apply Int64.toInt_inj.mp
    rw [lN_toInt (by omega)]
    omega
  refine ⟨x.toInt.toNat, by omega, g3, ?_⟩
  rw [g3, lN_i]
  congr 1
  rw [lN_toInt (by omega)]
  omega
/-- moves: what is counted for one navigable, by the tuples of before and after -/
theorem jc_move_f {s : js_S} {x y : Int32} {f j : Nat} (h1 : ¬ f = 22) (h2 : ¬ f = 23) : jc_move s x y f j = s f j := by
  unfold jc_move jc_mv1
  split
  · rfl
  · split
    · exact js_up_f h1
    · rw [js_up_f h2, js_up_f h1]
theorem jc_mv_f {s : js_S} {st : Int32} {f j : Nat} (h1 : ¬ f = 22) (h2 : ¬ f = 23) : ∀ k, jc_mv s st k f j = s f j
  | 0 => rfl
  | k + 1 => by rw [jc_mv, jc_move_f h1 h2, jc_mv_f h1 h2 k]
theorem jc_eA_eq {u w : js_S} (he : ∀ f j, 5 ≤ f → f ≤ 19 → w f j = u f j) {n st : Int32} : ∀ k, jc_eA w n st k = jc_eA u n st k
  | 0 => rfl
  | k + 1 => by
    rw [jc_eA, jc_eA, jc_eA_eq he k, he 14 k (by decide) (by decide), he 15 k (by decide) (by decide), he 16 k (by decide) (by decide), he 16 _ (by decide) (by decide)]
theorem jc_at_eq {u w : js_S} (he : ∀ f j, 5 ≤ f → f ≤ 19 → w f j = u f j) {n st : Int32} : jc_entryAt w n st = jc_entryAt u n st := jc_eA_eq he 40
theorem jc_held_eq {u w : js_S} (he : ∀ f j, 5 ≤ f → f ≤ 19 → w f j = u f j) {d st : Int32} : jc_held w d st = jc_held u d st := by
  unfold jc_held
  rw [he 9 _ (by decide) (by decide), jc_at_eq he, he 19 _ (by decide) (by decide)]
theorem jc_se_eq {u w : js_S} (he : ∀ f j, 5 ≤ f → f ≤ 19 → w f j = u f j) {n st : Int32} : jc_shownEntry w n st = jc_shownEntry u n st := by
  unfold jc_shownEntry
  have e : jc_up1 w (w 7 (ix n)) = jc_up1 u (u 7 (ix n)) := by
    unfold jc_up1
    rw [he 7 _ (by decide) (by decide), he 9 _ (by decide) (by decide), he 7 _ (by decide) (by decide)]
  rw [e, he 5 _ (by decide) (by decide), he 7 _ (by decide) (by decide), jc_held_eq he, jc_held_eq he, jc_at_eq he]
/-- the two counters of one move -/
def jg_d (a b : Option je_T) : Bool := match a, b with
  | some t, some t' => decide (¬ je_k t = je_k t' ∧ t.2.2.2.2 = t'.2.2.2.2)
  | _, _ => false
def jg_h (a b : Option je_T) : Bool := match a, b with
  | some t, some t' => decide (¬ jc_frag t.2.2.1 = jc_frag t'.2.2.1)
  | _, _ => false
def jg_p (x : Int32 × Int32) (a b : Option je_T) : Int32 × Int32 := if jg_d a b = true then (x.1 + 1, if jg_h a b = true then x.2 + 1 else x.2) else x
/-- a reference to a row of the class, as a tuple -/
def jg_r (u : js_S) (x : Int32) (a : Option je_T) : Prop := (x = -1 ∧ a = none) ∨ ∃ i t, i < 40 ∧ x = nI i ∧ jc_row u i = some t ∧ a = some t
def jg_m (v : js_S) (x : Int32) (a : Option je_T) : Prop := (x = -1 ∧ a = none) ∨ ∃ i t, i < 48 ∧ x = nI i ∧ jm_row v i = some t ∧ a = some t
theorem jc_move_p {u : js_S} (hk : jp_k u) {x y : Int32} {a b : Option je_T} (hx : jg_r u x a) (hy : jg_r u y b) : (jc_move u x y 22 0, jc_move u x y 23 0) = jg_p (u 22 0, u 23 0) a b := by
  unfold jg_p
  rcases hx with ⟨rfl, rfl⟩ | ⟨i, t, hi, rfl, r1, rfl⟩
  · rw [show jg_d none b = false from rfl]
    simp [jc_move]
  rcases hy with ⟨rfl, rfl⟩ | ⟨j, t', hj, rfl, r2, rfl⟩
  · rw [show jg_d (some t) none = false from rfl]
    simp [jc_move]
  have q1 := jc_row_some.mp r1
  have q2 := jc_row_some.mp r2
  have m1 : ¬ nI i = -1 := nI_m1 (by omega)
  have m2 : ¬ nI j = -1 := nI_m1 (by omega)
  have ek : nI i = nI j ↔ je_k t = je_k t' := by
    constructor
    · intro q
      have e := jn_inj (by omega) (by omega) q
      subst e
      rw [r1] at r2
      rw [Option.some.inj r2]
    · intro q
      rw [je_inj hk hi hj r1 r2 q]
  have ed : u 19 i = t.2.2.2.2 := by rw [q1.2]
  have ed' : u 19 j = t'.2.2.2.2 := by rw [q2.2]
  have eu : u 17 i = t.2.2.1 := by rw [q1.2]
  have eu' : u 17 j = t'.2.2.1 := by rw [q2.2]
  unfold jc_move jc_mv1
  rw [ix_nI (by omega), ix_nI (by omega), ed, ed']
  by_cases c : jg_d (some t) (some t') = true
  · have c2 : ¬ je_k t = je_k t' ∧ t.2.2.2.2 = t'.2.2.2.2 := of_decide_eq_true c
    rw [if_neg (by rintro (z | z | z | z); exact m1 z; exact m2 z; exact c2.1 (ek.mp z); exact z c2.2), if_pos c]
    rw [js_up_f (f := 22) (g := 17) (by decide), js_up_f (f := 22) (g := 17) (by decide), eu, eu']
    by_cases c3 : jc_frag t.2.2.1 = jc_frag t'.2.2.1
    · have h3 : ¬ jg_h (some t) (some t') = true := by
        intro z
        exact (of_decide_eq_true z : ¬ jc_frag t.2.2.1 = jc_frag t'.2.2.1) c3
      rw [if_pos c3, if_neg h3]
      simp [js_up]
    · have h3 : jg_h (some t) (some t') = true := decide_eq_true c3
      rw [if_neg c3, if_pos h3]
      simp [js_up]
  · have c2 : je_k t = je_k t' ∨ ¬ t.2.2.2.2 = t'.2.2.2.2 := by
      by_cases z : je_k t = je_k t'
      · exact Or.inl z
      · exact Or.inr (fun w => c (decide_eq_true ⟨z, w⟩))
    rw [if_pos (by rcases c2 with z | z; exact Or.inr (Or.inr (Or.inl (ek.mpr z))); exact Or.inr (Or.inr (Or.inr z))), if_neg c]
theorem jm_frag_eq {x : Int32} : jm_frag x = jc_frag x := rfl
/-- the reference compares the later one with the earlier one -/
theorem jm_gm_p {v : js_S} (hk : ((jm_es v).map je_k).Nodup) {x y : Int32} {a b : Option je_T} (hx : jg_m v x a) (hy : jg_m v y b) : (jm_gm v x y 23 0, jm_gm v x y 24 0) = jg_p (v 23 0, v 24 0) b a := by
  unfold jg_p
  rcases hx with ⟨rfl, rfl⟩ | ⟨i, t, hi, rfl, r1, rfl⟩
  · rw [show jg_d b none = false from by cases b <;> rfl]
    unfold jm_gm
    rw [if_pos (by decide)]
    simp
  have m1 : ¬ nI i < 0 := nI_pos (by omega)
  rcases hy with ⟨rfl, rfl⟩ | ⟨j, t', hj, rfl, r2, rfl⟩
  · rw [show jg_d none (some t) = false from rfl]
    unfold jm_gm
    rw [if_neg m1, if_pos (by decide)]
    simp
  have q1 := jm_row_some.mp r1
  have q2 := jm_row_some.mp r2
  have m2 : ¬ nI j < 0 := nI_pos (by omega)
  have ek : nI i = nI j ↔ je_k t' = je_k t := by
    constructor
    · intro q
      have e := jn_inj (by omega) (by omega) q
      subst e
      rw [r1] at r2
      rw [Option.some.inj r2]
    · intro q
      rw [je_inj hk hi hj r1 r2 q.symm]
  have ed : v 8 i = t.2.2.2.2 := by rw [q1.2]
  have ed' : v 8 j = t'.2.2.2.2 := by rw [q2.2]
  have eu : v 6 i = t.2.2.1 := by rw [q1.2]
  have eu' : v 6 j = t'.2.2.1 := by rw [q2.2]
  unfold jm_gm
  rw [if_neg m1, if_neg m2, ix_nI (by omega), ix_nI (by omega), ed, ed']
  by_cases c : jg_d (some t') (some t) = true
  · have c2 : ¬ je_k t' = je_k t ∧ t'.2.2.2.2 = t.2.2.2.2 := of_decide_eq_true c
    rw [if_neg (fun z => c2.1 (ek.mp z)), if_pos c2.2.symm, if_pos c]
    unfold jm_gh
    rw [ix_nI (by omega), ix_nI (by omega), js_up_f (f := 23) (g := 6) (by decide), js_up_f (f := 23) (g := 6) (by decide), eu, eu', jm_frag_eq, jm_frag_eq]
    by_cases c3 : jc_frag t.2.2.1 = jc_frag t'.2.2.1
    · have h3 : ¬ jg_h (some t') (some t) = true := by
        intro z
        exact (of_decide_eq_true z : ¬ jc_frag t'.2.2.1 = jc_frag t.2.2.1) c3.symm
      rw [if_pos c3, if_neg h3]
      simp [js_up]
    · have h3 : jg_h (some t') (some t) = true := decide_eq_true (fun z => c3 z.symm)
      rw [if_neg c3, if_pos h3]
      simp [js_up]
  · rw [if_neg c]
    by_cases z : nI i = nI j
    · rw [if_pos z]
    · rw [if_neg z, if_neg]
      exact fun w => c (decide_eq_true ⟨fun y => z (ek.mpr y), w.symm⟩)
