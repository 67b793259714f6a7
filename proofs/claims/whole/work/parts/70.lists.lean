/-! The entries of a store as a list of tuples: owner, step, url, state, document. -/
abbrev je_T : Type := Int32 × Int32 × Int32 × Int32 × Int32
abbrev je_k (t : je_T) : Int32 × Int32 := (t.1, t.2.1)
def je_l (f : Nat → Option je_T) : Nat → List je_T
  | 0 => []
  | k + 1 => (f k).toList ++ je_l f k
theorem je_mem {f : Nat → Option je_T} {t : je_T} : ∀ n, t ∈ je_l f n ↔ ∃ i, i < n ∧ f i = some t
  | 0 => by simp [je_l]
  | n + 1 => by
    rw [je_l, List.mem_append, je_mem n]
    constructor
    · rintro (h | ⟨i, hi, h⟩)
      · exact ⟨n, by omega, by simpa using h⟩
      · exact ⟨i, by omega, h⟩
    · rintro ⟨i, hi, h⟩
      by_cases e : i = n
      · subst e; exact Or.inl (by simpa using h)
      · exact Or.inr ⟨i, by omega, h⟩
theorem je_congr {f g : Nat → Option je_T} : ∀ n, (∀ i, i < n → f i = g i) → je_l f n = je_l g n
  | 0, _ => rfl
  | n + 1, h => by rw [je_l, je_l, je_congr n (fun i hi => h i (by omega)), h n (by omega)]
theorem je_out {f : Nat → Option je_T} {i : Nat} : ∀ n, i < n → (je_l f n).Perm ((f i).toList ++ je_l (fun j => if j = i then none else f j) n)
  | 0, h => by omega
  | n + 1, h => by
    by_cases e : i = n
    · subst e
      rw [je_l, je_l, je_congr (f := f) (g := fun j => if j = i then none else f j) i (fun j hj => by simp [show ¬ j = i by omega])]
      simp
    · have h1 := je_out (f := f) (i := i) n (by omega)
      rw [je_l, je_l]
      simp only [show ¬ n = i from fun q => e q.symm, if_false]
      refine (List.Perm.append_left _ h1).trans ?_
      rw [← List.append_assoc, ← List.append_assoc]
      exact List.Perm.append_right _ List.perm_append_comm
theorem je_add {f g : Nat → Option je_T} {i n : Nat} {t : je_T} (hi : i < n) (h0 : f i = none) (h1 : g i = some t) (h : ∀ j, j < n → ¬ j = i → g j = f j) : (je_l g n).Perm (t :: je_l f n) := by
  have a := je_out (f := g) n hi
  have b := je_out (f := f) n hi
  rw [h0] at b
  rw [h1] at a
  rw [je_congr (f := fun j => if j = i then none else g j) (g := fun j => if j = i then none else f j) n (fun j hj => by by_cases e : j = i <;> simp [e, h j hj])] at a
  exact a.trans (List.Perm.cons _ b.symm)
theorem je_set {f g : Nat → Option je_T} {i n : Nat} {t t' : je_T} (hi : i < n) (h0 : f i = some t) (h1 : g i = some t') (h : ∀ j, j < n → ¬ j = i → g j = f j) : ∃ L, (je_l f n).Perm (t :: L) ∧ (je_l g n).Perm (t' :: L) := by
  have a := je_out (f := g) n hi
  have b := je_out (f := f) n hi
  rw [h0] at b
  rw [h1] at a
  rw [je_congr (f := fun j => if j = i then none else g j) (g := fun j => if j = i then none else f j) n (fun j hj => by by_cases e : j = i <;> simp [e, h j hj])] at a
  exact ⟨_, b, a⟩
theorem je_filter {f g : Nat → Option je_T} {p : je_T → Bool} : ∀ n, (∀ i, i < n → g i = (f i).filter p) → je_l g n = (je_l f n).filter p
  | 0, _ => rfl
  | n + 1, h => by
    rw [je_l, je_l, je_filter n (fun i hi => h i (by omega)), h n (by omega), List.filter_append]
    congr 1
    cases f n with
    | none => rfl
    | some t => by_cases e : p t = true <;> simp [Option.filter, e]
theorem je_inj {f : Nat → Option je_T} {n i j : Nat} {t t' : je_T} (hn : ((je_l f n).map je_k).Nodup) (hi : i < n) (hj : j < n) (h : f i = some t) (h' : f j = some t') (hk : je_k t = je_k t') : i = j := by
  by_cases e : j = i
  · exact e.symm
  · exfalso
    have a := ((je_out (f := f) n hi).map je_k).nodup hn
    rw [h] at a
    have m : t' ∈ je_l (fun j => if j = i then none else f j) n := (je_mem n).mpr ⟨j, hj, by simp [e, h']⟩
    simp only [Option.toList_some, List.cons_append, List.nil_append, List.map_cons, List.nodup_cons] at a
    exact a.1 (hk ▸ List.mem_map_of_mem m)
theorem je_kin {L : List je_T} : (L.map je_k).Nodup → ∀ {t t' : je_T}, t ∈ L → t' ∈ L → je_k t = je_k t' → t = t' := by
  induction L with
  | nil => intro _ t t' h; simp at h
  | cons a L ih =>
    intro hn t t' h h' hk
    rw [List.map_cons, List.nodup_cons] at hn
    rcases List.mem_cons.mp h with rfl | h1
    · rcases List.mem_cons.mp h' with rfl | h2
      · rfl
      · exact absurd (hk ▸ List.mem_map_of_mem h2) hn.1
    · rcases List.mem_cons.mp h' with rfl | h2
      · exact absurd (hk ▸ List.mem_map_of_mem h1) hn.1
      · exact ih hn.2 h1 h2 hk
def jc_row (u : js_S) (i : Nat) : Option je_T := if u 14 i = 0 then none else some (u 15 i, u 16 i, u 17 i, u 18 i, u 19 i)
def jm_row (v : js_S) (i : Nat) : Option je_T := if v 9 i = 0 then none else some (v 4 i, v 5 i, v 6 i, v 7 i, v 8 i)
def jc_es (u : js_S) : List je_T := je_l (jc_row u) 40
def jm_es (v : js_S) : List je_T := je_l (jm_row v) 48
theorem jc_row_some {u : js_S} {i : Nat} {t : je_T} : jc_row u i = some t ↔ ¬ u 14 i = 0 ∧ t = (u 15 i, u 16 i, u 17 i, u 18 i, u 19 i) := by
  unfold jc_row
  by_cases h : u 14 i = 0
  · simp [h]
  · simp [h, eq_comm]
theorem jm_row_some {u : js_S} {i : Nat} {t : je_T} : jm_row u i = some t ↔ ¬ u 9 i = 0 ∧ t = (u 4 i, u 5 i, u 6 i, u 7 i, u 8 i) := by
  unfold jm_row
  by_cases h : u 9 i = 0
  · simp [h]
  · simp [h, eq_comm]
theorem jc_mem {u : js_S} {t : je_T} : t ∈ jc_es u ↔ ∃ i, i < 40 ∧ ¬ u 14 i = 0 ∧ t = (u 15 i, u 16 i, u 17 i, u 18 i, u 19 i) := by
  unfold jc_es
  rw [je_mem]
  simp only [jc_row_some]
theorem jm_mem {u : js_S} {t : je_T} : t ∈ jm_es u ↔ ∃ i, i < 48 ∧ ¬ u 9 i = 0 ∧ t = (u 4 i, u 5 i, u 6 i, u 7 i, u 8 i) := by
  unfold jm_es
  rw [je_mem]
  simp only [jm_row_some]
theorem jc_row_eq {u v : js_S} {i : Nat} (h : ∀ f, 14 ≤ f → f ≤ 19 → v f i = u f i) : jc_row v i = jc_row u i := by
  unfold jc_row
  rw [h 14 (by decide) (by decide), h 15 (by decide) (by decide), h 16 (by decide) (by decide), h 17 (by decide) (by decide), h 18 (by decide) (by decide), h 19 (by decide) (by decide)]
theorem jm_row_eq {u v : js_S} {i : Nat} (h : ∀ f, 4 ≤ f → f ≤ 9 → v f i = u f i) : jm_row v i = jm_row u i := by
  unfold jm_row
  rw [h 4 (by decide) (by decide), h 5 (by decide) (by decide), h 6 (by decide) (by decide), h 7 (by decide) (by decide), h 8 (by decide) (by decide), h 9 (by decide) (by decide)]
theorem jc_es_eq {u v : js_S} (h : ∀ f i, 14 ≤ f → f ≤ 19 → v f i = u f i) : jc_es v = jc_es u := je_congr 40 (fun i _ => jc_row_eq (fun f h1 h2 => h f i h1 h2))
theorem jm_es_eq {u v : js_S} (h : ∀ f i, 4 ≤ f → f ≤ 9 → v f i = u f i) : jm_es v = jm_es u := je_congr 48 (fun i _ => jm_row_eq (fun f h1 h2 => h f i h1 h2))
/-! counts -/
theorem je_len_c {u : js_S} : ∀ k, jm_cntF u 14 k = (je_l (jc_row u) k).length
  | 0 => rfl
  | k + 1 => by
    rw [je_l, List.length_append, ← je_len_c k, jm_cntF]
    unfold jc_row
    by_cases h : u 14 k = 0 <;> simp [h, Nat.add_comm]
theorem je_len_m {u : js_S} : ∀ k, jm_cntF u 9 k = (je_l (jm_row u) k).length
  | 0 => rfl
  | k + 1 => by
    rw [je_l, List.length_append, ← je_len_m k, jm_cntF]
    unfold jm_row
    by_cases h : u 9 k = 0 <;> simp [h, Nat.add_comm]
theorem jc_cntE_l {u : js_S} {st : Int32} : ∀ k, jc_cntE u st k = (je_l (jc_row u) k).countP (fun t => decide (¬ st < t.2.1))
  | 0 => rfl
  | k + 1 => by
    rw [je_l, List.countP_append, ← jc_cntE_l k, jc_cntE]
    unfold jc_row
    by_cases h : u 14 k = 0
    · simp [h]
    · by_cases h2 : st < u 16 k
      · simp [h, h2]
      · simp [h, h2, Nat.add_comm]
theorem jc_cntO_l {u : js_S} {o : Int32} : ∀ k, jc_cntO u o k = (je_l (jc_row u) k).countP (fun t => decide (t.1 = o))
  | 0 => rfl
  | k + 1 => by
    rw [je_l, List.countP_append, ← jc_cntO_l k, jc_cntO]
    unfold jc_row
    by_cases h : u 14 k = 0
    · simp [h]
    · by_cases h2 : u 15 k = o
      · simp [h, h2, Nat.add_comm]
      · simp [h, h2]
theorem jm_cntO_l {u : js_S} {o : Int32} : ∀ k, jm_cntO u o k = (je_l (jm_row u) k).countP (fun t => decide (t.1 = o))
  | 0 => rfl
  | k + 1 => by
    rw [je_l, List.countP_append, ← jm_cntO_l k, jm_cntO]
    unfold jm_row
    by_cases h : u 9 k = 0
    · simp [h]
    · by_cases h2 : u 4 k = o
      · simp [h, h2, Nat.add_comm]
      · simp [h, h2]
theorem jm_fu_l {u : js_S} {push : Int32} : ∀ k, jm_fu u push k = (je_l (jm_row u) k).countP (fun t => decide (push = 0 ∨ ¬ u 21 0 < t.2.1))
  | 0 => rfl
  | k + 1 => by
    rw [je_l, List.countP_append, ← jm_fu_l k, jm_fu]
    unfold jm_row
    by_cases h : u 9 k = 0
    · simp [h]
    · by_cases h2 : push = 0 ∨ ¬ u 21 0 < u 5 k
      · have h3 : push = 0 ∨ u 5 k ≤ u 21 0 := by simpa using h2
        simp [h, h3, Nat.add_comm]
      · have h3 : ¬ (push = 0 ∨ u 5 k ≤ u 21 0) := fun q => h2 (by simpa using q)
        simp [h, h3]
