/-! The used steps: the class's array holds them rising. -/
theorem jc_at_ok {s : js_S} {st : Int32} : ∀ n, jc_at s st n ≤ n ∧ (jc_at s st n = 0 ∨ s 20 (jc_at s st n - 1) ≤ st) ∧ ∀ a, jc_at s st n ≤ a → a < n → st < s 20 a
  | 0 => ⟨Nat.le_refl _, Or.inl rfl, fun a h1 h2 => by omega⟩
  | k + 1 => by
    have ih := jc_at_ok (s := s) (st := st) k
    rw [jc_at]
    by_cases h : s 20 k ≤ st
    · rw [if_pos h]
      exact ⟨Nat.le_refl _, Or.inr (by simpa using h), fun a h1 h2 => by omega⟩
    · rw [if_neg h]
      refine ⟨by omega, ih.2.1, fun a h1 h2 => ?_⟩
      by_cases e : a = k
      · subst e; exact Int32.not_le.mp h
      · exact ih.2.2 a h1 (by omega)
theorem jc_sh_f {a : Nat} {f j : Nat} (hf : ¬ f = 20) : ∀ (k : Nat) (s : js_S), jc_sh s a k f j = s f j
  | 0, _ => rfl
  | k + 1, s => by
    rw [jc_sh]
    split
    · rw [jc_sh_f hf k, js_up_f hf]
    · rfl
theorem jc_sh_20 {a j : Nat} : ∀ (n : Nat) (s : js_S), jc_sh s a n 20 j = if a < j ∧ j ≤ n then s 20 (j - 1) else s 20 j
  | 0, s => by
    rw [if_neg (by omega)]; rfl
  | k + 1, s => by
    rw [jc_sh]
    by_cases h : a < k + 1
    · rw [if_pos h, jc_sh_20 k]
      by_cases h1 : a < j ∧ j ≤ k
      · rw [if_pos h1, if_pos (by omega), js_up_i (by omega)]
      · rw [if_neg h1]
        by_cases h2 : j = k + 1
        · subst h2; rw [js_up_s, if_pos (by omega)]; rfl
        · rw [js_up_i h2, if_neg (by omega)]
    · rw [if_neg h, if_neg (by omega)]
theorem jc_ins_20 {s : js_S} {st : Int32} {n j : Nat} : jc_ins s st n 20 j = if j = jc_at s st n then st else if jc_at s st n < j ∧ j ≤ n then s 20 (j - 1) else s 20 j := by
  unfold jc_ins
  by_cases h : j = jc_at s st n
  · rw [if_pos h, h, js_up_s]
  · rw [if_neg h, js_up_i h, jc_sh_20]
def jc_up (s : js_S) (n : Nat) : Prop := ∀ a b, a < b → b < n → s 20 a < s 20 b
theorem jc_ins_up {s : js_S} {st : Int32} {n : Nat} (hu : jc_up s n) (hq : ¬ jc_insQ s st n = true) : jc_up (jc_ins s st n) (n + 1) ∧ ∀ x, (∃ a, a < n + 1 ∧ jc_ins s st n 20 a = x) ↔ x = st ∨ ∃ a, a < n ∧ s 20 a = x := by
  obtain ⟨h1, h2, h3⟩ := jc_at_ok (s := s) (st := st) n
  have hlo : ∀ a, a < jc_at s st n → s 20 a < st := by
    intro a ha
    have e : s 20 (jc_at s st n - 1) < st := by
      rcases h2 with h2 | h2
      · omega
      · refine Int32.lt_of_le_of_ne h2 (fun q => hq ?_)
        unfold jc_insQ
        exact decide_eq_true ⟨by omega, q⟩
    by_cases e2 : a = jc_at s st n - 1
    · subst e2; exact e
    · exact Int32.lt_trans (hu a (jc_at s st n - 1) (by omega) (by omega)) e
  constructor
  · intro a b hab hb
    rw [jc_ins_20, jc_ins_20]
    by_cases a1 : a = jc_at s st n
    · rw [if_pos a1, if_neg (by omega), if_pos (by omega)]
      exact h3 (b - 1) (by omega) (by omega)
    · rw [if_neg a1]
      by_cases b1 : b = jc_at s st n
      · rw [if_pos b1, if_neg (by omega)]
        exact hlo a (by omega)
      · rw [if_neg b1]
        by_cases a2 : jc_at s st n < a ∧ a ≤ n
        · rw [if_pos a2, if_pos (by omega)]
          exact hu _ _ (by omega) (by omega)
        · rw [if_neg a2]
          by_cases b2 : jc_at s st n < b ∧ b ≤ n
          · rw [if_pos b2]
            by_cases e : a = b - 1
            · omega
            · exact hu _ _ (by omega) (by omega)
          · rw [if_neg b2]
            exact hu _ _ hab (by omega)
  · intro x
    constructor
    · rintro ⟨a, ha, e⟩
      rw [jc_ins_20] at e
      by_cases a1 : a = jc_at s st n
      · rw [if_pos a1] at e; exact Or.inl e.symm
      · rw [if_neg a1] at e
        by_cases a2 : jc_at s st n < a ∧ a ≤ n
        · rw [if_pos a2] at e; exact Or.inr ⟨a - 1, by omega, e⟩
        · rw [if_neg a2] at e; exact Or.inr ⟨a, by omega, e⟩
    · rintro (rfl | ⟨a, ha, e⟩)
      · exact ⟨jc_at s x n, by omega, by rw [jc_ins_20, if_pos rfl]⟩
      · by_cases a1 : a < jc_at s st n
        · exact ⟨a, by omega, by rw [jc_ins_20, if_neg (by omega), if_neg (by omega)]; exact e⟩
        · exact ⟨a + 1, by omega, by rw [jc_ins_20, if_neg (by omega), if_pos (by omega)]; exact e⟩
theorem jc_ins_f {s : js_S} {st : Int32} {n f j : Nat} (hf : ¬ f = 20) : jc_ins s st n f j = s f j := by
  unfold jc_ins
  rw [js_up_f hf, jc_sh_f hf]
theorem jc_cu_ok {u : js_S} : ∀ k, (∀ f j, ¬ f = 20 → (jc_cu u k).1 f j = u f j) ∧ jc_up (jc_cu u k).1 (jc_cu u k).2 ∧ ∀ x, (∃ a, a < (jc_cu u k).2 ∧ (jc_cu u k).1 20 a = x) ↔ ∃ t, t ∈ je_l (jc_row u) k ∧ t.2.1 = x
  | 0 => by
    refine ⟨fun _ _ _ => rfl, fun a b _ h => ?_, fun x => ?_⟩
    · exact absurd h (Nat.not_lt_zero _)
    · constructor
      · rintro ⟨a, h, -⟩; exact absurd h (Nat.not_lt_zero _)
      · rintro ⟨t, h, -⟩; simp [je_l] at h
  | k + 1 => by
    obtain ⟨i1, i2, i3⟩ := jc_cu_ok (u := u) k
    rw [jc_cu, i1 14 k (by decide), i1 16 k (by decide)]
    have hm : ∀ t, t ∈ je_l (jc_row u) (k + 1) ↔ (jc_row u k = some t ∨ t ∈ je_l (jc_row u) k) := by
      intro t
      rw [je_l, List.mem_append]
      simp
    by_cases h : u 14 k = 0
    · rw [if_pos h]
      refine ⟨i1, i2, fun x => (i3 x).trans ?_⟩
      constructor
      · rintro ⟨t, ht, e⟩; exact ⟨t, (hm t).mpr (Or.inr ht), e⟩
      · rintro ⟨t, ht, e⟩
        rcases (hm t).mp ht with q | q
        · exact absurd h (jc_row_some.mp q).1
        · exact ⟨t, q, e⟩
    · rw [if_neg h]
      have hx : ∀ x, (∃ t, t ∈ je_l (jc_row u) (k + 1) ∧ t.2.1 = x) ↔ (x = u 16 k ∨ ∃ t, t ∈ je_l (jc_row u) k ∧ t.2.1 = x) := by
        intro x
        constructor
        · rintro ⟨t, ht, e⟩
          rcases (hm t).mp ht with q | q
          · rw [(jc_row_some.mp q).2] at e; exact Or.inl e.symm
          · exact Or.inr ⟨t, q, e⟩
        · rintro (e | ⟨t, ht, e⟩)
          · exact ⟨_, (hm _).mpr (Or.inl (jc_row_some.mpr ⟨h, rfl⟩)), e.symm⟩
          · exact ⟨t, (hm t).mpr (Or.inr ht), e⟩
      by_cases hq : jc_insQ (jc_cu u k).1 (u 16 k) (jc_cu u k).2 = true
      · have e1 : jc_insS (jc_cu u k).1 (u 16 k) (jc_cu u k).2 = (jc_cu u k).1 := by unfold jc_insS; rw [if_pos hq]
        have e2 : jc_insN (jc_cu u k).1 (u 16 k) (jc_cu u k).2 = (jc_cu u k).2 := by unfold jc_insN; rw [if_pos hq]
        simp only [e1, e2]
        refine ⟨i1, i2, fun x => (i3 x).trans ?_⟩
        rw [hx x]
        constructor
        · exact Or.inr
        · rintro (rfl | q)
          · unfold jc_insQ at hq
            have hq2 := of_decide_eq_true hq
            have a := (jc_at_ok (s := (jc_cu u k).1) (st := u 16 k) (jc_cu u k).2).1
            exact (i3 _).mp ⟨_, by omega, hq2.2⟩
          · exact q
      · have e1 : jc_insS (jc_cu u k).1 (u 16 k) (jc_cu u k).2 = jc_ins (jc_cu u k).1 (u 16 k) (jc_cu u k).2 := by unfold jc_insS; rw [if_neg hq]
        have e2 : jc_insN (jc_cu u k).1 (u 16 k) (jc_cu u k).2 = (jc_cu u k).2 + 1 := by unfold jc_insN; rw [if_neg hq]
        simp only [e1, e2]
        obtain ⟨b1, b2⟩ := jc_ins_up i2 hq
        refine ⟨fun f j hf => (jc_ins_f hf).trans (i1 f j hf), b1, fun x => ?_⟩
        rw [b2 x, hx x, i3 x]
/-! and the reference looks them up -/
theorem jm_us_ne {v : js_S} {st : Int32} : ∀ k e, ¬ jm_us v st k e = 0 ↔ ∃ i, e ≤ i ∧ i < e + k ∧ ¬ v 9 i = 0 ∧ v 5 i = st
  | 0, e => by
    constructor
    · intro h; exact absurd rfl h
    · rintro ⟨i, h1, h2, -⟩; omega
  | k + 1, e => by
    rw [jm_us]
    by_cases h : v 9 e ≠ 0 ∧ v 5 e = st
    · rw [if_pos h]
      exact ⟨fun _ => ⟨e, by omega, by omega, h.1, h.2⟩, fun _ => by decide⟩
    · rw [if_neg h, jm_us_ne k (e + 1)]
      constructor
      · rintro ⟨i, h1, h2, h3⟩; exact ⟨i, by omega, by omega, h3⟩
      · rintro ⟨i, h1, h2, h3⟩
        by_cases e1 : i = e
        · subst e1; exact absurd h3 h
        · exact ⟨i, by omega, by omega, h3⟩
theorem jm_used_ne {v : js_S} {st : Int32} : ¬ jm_used v st = 0 ↔ ∃ t, t ∈ jm_es v ∧ t.2.1 = st := by
  unfold jm_used
  rw [jm_us_ne]
  constructor
  · rintro ⟨i, -, h2, h3, h4⟩; exact ⟨_, jm_mem.mpr ⟨i, by omega, h3, rfl⟩, h4⟩
  · rintro ⟨t, ht, e⟩
    obtain ⟨i, hi, h9, rfl⟩ := jm_mem.mp ht
    exact ⟨i, by omega, by omega, h9, e⟩
/-- A is the rising list of the n used steps, all of them below M -/
def jm_enum (v : js_S) (A : Nat → Nat) (n M : Nat) : Prop := (∀ a b, a < b → b < n → A a < A b) ∧ (∀ a, a < n → A a < M) ∧ ∀ x, x < M → (¬ jm_used v (nI x) = 0 ↔ ∃ a, a < n ∧ A a = x)
theorem jm_cu_ok {v : js_S} {A : Nat → Nat} {n M : Nat} (h : jm_enum v A n M) : ∀ k, k ≤ M → jm_cu v k ≤ n ∧ (∀ a, a < jm_cu v k → A a < k) ∧ (∀ a, jm_cu v k ≤ a → a < n → k ≤ A a)
  | 0, _ => ⟨Nat.zero_le _, fun a h => absurd h (Nat.not_lt_zero _), fun _ _ _ => Nat.zero_le _⟩
  | k + 1, hk => by
    obtain ⟨i1, i2, i3⟩ := jm_cu_ok h k (by omega)
    rw [jm_cu]
    by_cases e : jm_used v (nI k) ≠ 0
    · rw [if_pos e]
      obtain ⟨a, ha, rfl⟩ := (h.2.2 k (by omega)).mp e
      have e1 : a = jm_cu v (A a) := by
        by_cases q : a < jm_cu v (A a)
        · exact absurd (i2 a q) (Nat.lt_irrefl _)
        · by_cases q2 : a = jm_cu v (A a)
          · exact q2
          · exfalso
            have r1 := i3 (jm_cu v (A a)) (Nat.le_refl _) (by omega)
            have r2 := h.1 (jm_cu v (A a)) a (by omega) ha
            omega
      rw [← e1] at i2 i3 ⊢
      refine ⟨by omega, fun b hb => ?_, fun b hb hb2 => ?_⟩
      · by_cases q : b = a
        · subst q; omega
        · have := i2 b (by omega); omega
      · have := h.1 a b (by omega) hb2; omega
    · rw [if_neg e]
      refine ⟨i1, fun a ha => by have := i2 a ha; omega, fun a ha hb => ?_⟩
      have := i3 a ha hb
      by_cases q : A a = k
      · exact absurd ((h.2.2 k (by omega)).mpr ⟨a, hb, q⟩) e
      · omega
theorem jm_cu_all {v : js_S} {A : Nat → Nat} {n M : Nat} (h : jm_enum v A n M) : jm_cu v M = n := by
  obtain ⟨i1, i2, i3⟩ := jm_cu_ok h M (Nat.le_refl _)
  by_cases e : jm_cu v M = n
  · exact e
  · have a := i3 (jm_cu v M) (Nat.le_refl _) (by omega)
    have b := h.2.1 (jm_cu v M) (by omega)
    omega
theorem jm_cu_at {v : js_S} {A : Nat → Nat} {n M : Nat} (h : jm_enum v A n M) {a : Nat} (ha : a < n) : jm_cu v (A a) = a := by
  obtain ⟨i1, i2, i3⟩ := jm_cu_ok h (A a) (by have := h.2.1 a ha; omega)
  by_cases q : a < jm_cu v (A a)
  · exact absurd (i2 a q) (Nat.lt_irrefl _)
  · by_cases q2 : a = jm_cu v (A a)
    · exact q2.symm
    · exfalso
      have r1 := i3 (jm_cu v (A a)) (Nat.le_refl _) (by omega)
      have r2 := h.1 (jm_cu v (A a)) a (by omega) ha
      omega
theorem jm_sa_ok {v : js_S} {A : Nat → Nat} {n M : Nat} (h : jm_enum v A n M) (hn : n < 2 ^ 31) {x : Int64} : ∀ k t, k + t = M → (∀ a, jm_cu v t ≤ a → a < n → lN a = x → jm_sa v x k t (jm_cu v t) = nI (A a)) ∧ ((∀ a, jm_cu v t ≤ a → a < n → ¬ lN a = x) → jm_sa v x k t (jm_cu v t) = -1)
  | 0, t, hk => by
    have e : jm_cu v t = n := by rw [show t = M by omega]; exact jm_cu_all h
    exact ⟨fun a h1 h2 _ => by omega, fun _ => rfl⟩
  | k + 1, t, hk => by
    have ih := jm_sa_ok h hn (x := x) k (t + 1) (by omega)
    rw [jm_sa]
    by_cases e : jm_used v (nI t) = 0
    · have e2 : jm_cu v (t + 1) = jm_cu v t := by rw [jm_cu, if_neg (fun q => q e)]
      rw [if_pos e, ← e2]
      exact ih
    · have e2 : jm_cu v (t + 1) = jm_cu v t + 1 := by rw [jm_cu, if_pos e]
      obtain ⟨a, ha, e3⟩ := (h.2.2 t (by omega)).mp e
      have e4 : jm_cu v t = a := by rw [← e3]; exact jm_cu_at h ha
      rw [if_neg e, e4]
      rw [e2, e4] at ih
      by_cases c : lN a = x
      · rw [if_pos ((lg_cmp_eq _ _).mpr c)]
        refine ⟨fun b h1 h2 h3 => ?_, fun q => absurd c (q a (Nat.le_refl _) ha)⟩
        have e5 : b = a := (lN_eq (by omega) (by omega)).mp (h3.trans c.symm)
        rw [e5, e3]
      · rw [if_neg (fun q => c ((lg_cmp_eq _ _).mp q))]
        refine ⟨fun b h1 h2 h3 => ?_, fun q => ih.2 (fun b h1 h2 => q b (by omega) h2)⟩
        by_cases q : b = a
        · subst q; exact absurd h3 c
        · exact ih.1 b (by omega) h2 h3
