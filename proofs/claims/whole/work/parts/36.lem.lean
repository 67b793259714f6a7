/-! Numbers of used steps. -/
theorem js_pred {a : Nat} (h : 0 < a) : nI a - 1 = nI (a - 1) := by
  obtain ⟨b, rfl⟩ : ∃ b, a = b + 1 := ⟨a - 1, by omega⟩
  exact nI_pred b
theorem js_pos {a : Nat} (h : ¬ nI a ≤ 0) : 0 < a := by
  rcases Nat.eq_zero_or_pos a with e | e
  · subst e
    exact absurd (by decide) h
  · exact e
theorem js_npos {a : Nat} (h : nI a ≤ 0) (ha : a < 2 ^ 31) : a = 0 := by
  rcases Nat.eq_zero_or_pos a with e | e
  · exact e
  · exact absurd h (nI_nle e ha)
theorem js_lt48 {x a : Nat} (hx : x < 2 ^ 31) (ha : a < 2 ^ 31) (h : ¬ nI x ≤ nI a) : a < x := Nat.not_le.mp (fun q => h ((nI_leI hx ha).mpr q))
theorem js_ge48 {x a : Nat} (hx : x < 2 ^ 31) (ha : a < 2 ^ 31) (h : nI x ≤ nI a) : ¬ a < x := Nat.not_lt.mpr ((nI_leI hx ha).mp h)
theorem jc_insQ_t {u : js_S} {st : Int32} {k a : Nat} (hf : a = jc_at u st k) (h0 : 0 < a) (h : u 20 (a - 1) = st) : jc_insQ u st k = true := by
  unfold jc_insQ
  rw [← hf]
  simp [h0, h]
theorem jc_insN_le {u : js_S} {st : Int32} {k : Nat} : jc_insN u st k ≤ k + 1 := by
  unfold jc_insN
  split <;> omega
theorem jc_cu_le {u : js_S} : ∀ i, (jc_cu u i).2 ≤ i
  | 0 => Nat.le_refl _
  | i + 1 => by
    have h := jc_cu_le (u := u) i
    unfold jc_cu
    split
    · omega
    · have := jc_insN_le (u := (jc_cu u i).1) (st := (jc_cu u i).1 16 i) (k := (jc_cu u i).2)
      show jc_insN _ _ _ ≤ i + 1
      omega
section JAU
variable {p : Program} {l : Launch} {e : Env} {R : Room} {s : State} {m : MethodId} {args : Array Value} {below : List Frame} {meth : Method} {c : Code} {H : Heap} {locs : List Loc} {cells slots : Nat} {Q : State → Prop} {cc : ByteArray} {pc nL : Nat} {ls : Array Slot} {rest : List Value} {own : String} {D : va_G} {aK : Nat → Nat} {ad : Nat → Nat} {cA : Nat → ClassId} {A : Nat → Prop} {u : js_S}
theorem jax_U (hc : jx_C p s m args c cc nL own D (jc_tys cA) aK A) (hh : jx_H D 158 ad (jc_cell ad aK cA u) A s.heap H locs) {x : Int32} (hx : ∃ i, i < 40 ∧ x = nI i) (hdg : decode cc pc = .ok (.iaload, 1))
    (kk : W p l e R s m args below meth c H locs cells slots Q (F0 m (pc + 1) ls (.int (u 20 (ix x)) :: rest))) : W p l e R s m args below meth c H locs cells slots Q (F0 m pc ls (.int x :: .ref (ad 5) :: rest)) := by
  obtain ⟨i, hi, rfl⟩ := hx
  rw [ix_nI (by omega)] at kk
  exact ja_U hc hh hi hdg kk
end JAU
