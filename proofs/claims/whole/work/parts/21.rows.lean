/-! References by the number of their row, -1 for null; the class's cells. -/
def jv (ad : Nat → Nat) (off : Nat) (x : Int32) : Value := va_rf (if x = -1 then none else some (ad (off + ix x)))
/-- a number of a row, or -1 -/
def jq (n : Nat) (x : Int32) : Prop := x = -1 ∨ ∃ i, i < n ∧ x = nI i
theorem jv_null {ad : Nat → Nat} {off : Nat} : jv ad off (-1) = .null := by simp [jv, va_rf]
theorem jv_ref {ad : Nat → Nat} {off : Nat} {x : Int32} (h : ¬ x = -1) : jv ad off x = .ref (ad (off + ix x)) := by simp [jv, va_rf, h]
theorem nI_m1 {i : Nat} (h : i < 2 ^ 31) : ¬ nI i = -1 := fun e => nI_pos h (by rw [e]; decide)
theorem jv_nI {ad : Nat → Nat} {off i : Nat} (h : i < 2 ^ 31) : jv ad off (nI i) = .ref (ad (off + i)) := by rw [jv_ref (nI_m1 h), ix_nI h]
theorem jv_or (ad : Nat → Nat) (off : Nat) (x : Int32) : jv ad off x = .null ∨ ∃ a, jv ad off x = .ref a := va_rf_or _
theorem jv_cat (ad : Nat → Nat) (off : Nat) (x : Int32) : (jv ad off x).category = 1 := by
  rcases jv_or ad off x with h | ⟨a, h⟩ <;> rw [h] <;> rfl
theorem vc_int (x : Int32) : (Value.int x).category = 1 := rfl
theorem vc_ref (a : Nat) : (Value.ref a).category = 1 := rfl
theorem vc_long (x : Int64) : (Value.long x).category = 2 := rfl
theorem jq_nI {n i : Nat} (h : i < n) : jq n (nI i) := Or.inr ⟨i, h, rfl⟩
theorem jq_m1 {n : Nat} : jq n (-1) := Or.inl rfl
theorem jq_ne {n : Nat} {x : Int32} (h : jq n x) (hx : ¬ x = -1) : ∃ i, i < n ∧ x = nI i := h.resolve_left hx
theorem jv_inj {ad : Nat → Nat} {off n : Nat} (hn : n < 2 ^ 31) (hi : ∀ i j, i < n → j < n → ad (off + i) = ad (off + j) → i = j) {x y : Int32} (hx : jq n x) (hy : jq n y) : ((if x = -1 then none else some (ad (off + ix x)) : Option Nat) = (if y = -1 then none else some (ad (off + ix y)))) ↔ x = y := by
  rcases hx with rfl | ⟨i, h1, rfl⟩ <;> rcases hy with rfl | ⟨j, h2, rfl⟩
  · simp
  · simp [nI_m1 (show j < 2 ^ 31 by omega), Ne.symm (nI_m1 (show j < 2 ^ 31 by omega))]
  · simp [nI_m1 (show i < 2 ^ 31 by omega)]
  · rw [if_neg (nI_m1 (show i < 2 ^ 31 by omega)), if_neg (nI_m1 (show j < 2 ^ 31 by omega)), ix_nI (show i < 2 ^ 31 by omega), ix_nI (show j < 2 ^ 31 by omega)]
    constructor
    · intro h
      rw [hi i j h1 h2 (Option.some.inj h)]
    · intro h
      rw [(nI_eq (show i < 2 ^ 31 by omega) (show j < 2 ^ 31 by omega)).mp h]
section JV
variable {p : Program} {l : Launch} {e : Env} {R : Room} {s : State} {m : MethodId} {args : Array Value} {below : List Frame} {meth : Method} {c : Code} {H : Heap} {locs : List Loc} {cells slots : Nat} {Q : State → Prop} {cc : ByteArray} {pc : Nat} {ls : Array Slot} {rest : List Value} {ad : Nat → Nat} {off : Nat}
theorem jv_aload_n (hexec : p.tables.exec = Jvm.exec) (hb : c.code = cc) {k : Fin 4} {i : Nat} {x : Int32} (hdg : decode cc pc = .ok (.aload_n k, 1)) (hi : (k : Nat) = i) (hl : ls[i]? = some (.val (jv ad off x)))
    (kk : W p l e R s m args below meth c H locs cells slots Q (F0 m (pc + 1) ls (jv ad off x :: rest))) : W p l e R s m args below meth c H locs cells slots Q (F0 m pc ls rest) := by
  rcases jv_or ad off x with h | ⟨a, h⟩ <;> rw [h] at hl kk
  · exact lv_aload_nN hexec hb hdg hi hl kk
  · exact lv_aload_n hexec hb hdg hi hl kk
theorem jv_aload (hexec : p.tables.exec = Jvm.exec) (hb : c.code = cc) {i : Nat} {x : Int32} (hdg : decode cc pc = .ok (.aload i, 2)) (hl : ls[i]? = some (.val (jv ad off x)))
    (kk : W p l e R s m args below meth c H locs cells slots Q (F0 m (pc + 2) ls (jv ad off x :: rest))) : W p l e R s m args below meth c H locs cells slots Q (F0 m pc ls rest) := by
  rcases jv_or ad off x with h | ⟨a, h⟩ <;> rw [h] at hl kk
  · exact lv_aloadN hexec hb hdg hl kk
  · exact lv_aload hexec hb hdg hl kk
theorem jv_astore_n (hexec : p.tables.exec = Jvm.exec) (hb : c.code = cc) {k : Fin 4} {i nL : Nat} {x : Int32} {lv lv' : List (Nat × Value)} (hdg : decode cc pc = .ok (.astore_n k, 1)) (hi : (k : Nat) = i) (h : lv_has ls nL lv) (hn : i < nL) (hl : (i, jv ad off x) :: lv.filter (fun q => !(q.1 == i) && !(q.1 + 1 == i && q.2.category == 2)) = lv')
    (kk : ∀ ls' : Array Slot, lv_has ls' nL lv' → W p l e R s m args below meth c H locs cells slots Q (F0 m (pc + 1) ls' rest)) : W p l e R s m args below meth c H locs cells slots Q (F0 m pc ls (jv ad off x :: rest)) := by
  rcases jv_or ad off x with h9 | ⟨a, h9⟩ <;> rw [h9] at hl ⊢
  · exact lv_astore_nN hexec hb hdg hi h hn hl kk
  · exact lv_astore_n hexec hb hdg hi h hn hl kk
theorem jv_astore (hexec : p.tables.exec = Jvm.exec) (hb : c.code = cc) {i nL : Nat} {x : Int32} {lv lv' : List (Nat × Value)} (hdg : decode cc pc = .ok (.astore i, 2)) (h : lv_has ls nL lv) (hn : i < nL) (hl : (i, jv ad off x) :: lv.filter (fun q => !(q.1 == i) && !(q.1 + 1 == i && q.2.category == 2)) = lv')
    (kk : ∀ ls' : Array Slot, lv_has ls' nL lv' → W p l e R s m args below meth c H locs cells slots Q (F0 m (pc + 2) ls' rest)) : W p l e R s m args below meth c H locs cells slots Q (F0 m pc ls (jv ad off x :: rest)) := by
  rcases jv_or ad off x with h9 | ⟨a, h9⟩ <;> rw [h9] at hl ⊢
  · exact lv_astoreN hexec hb hdg h hn hl kk
  · exact lv_astore hexec hb hdg h hn hl kk
theorem jv_ifnull (hexec : p.tables.exec = Jvm.exec) (hb : c.code = cc) {x : Int32} {o : Int} {tgt : Nat} (hdg : decode cc pc = .ok (.ifnull o, 3)) (ht : (pc : Int) + o = (tgt : Int))
    (kt : x = -1 → W p l e R s m args below meth c H locs cells slots Q (F0 m tgt ls rest)) (kf : ¬ x = -1 → W p l e R s m args below meth c H locs cells slots Q (F0 m (pc + 3) ls rest)) : W p l e R s m args below meth c H locs cells slots Q (F0 m pc ls (jv ad off x :: rest)) := by
  by_cases h : x = -1
  · have k := kt h
    subst h
    rw [jv_null]
    exact lv_ifnullN hexec hb hdg ht k
  · rw [jv_ref h]
    exact lv_ifnull hexec hb hdg (kf h)
theorem jv_ifnonnull (hexec : p.tables.exec = Jvm.exec) (hb : c.code = cc) {x : Int32} {o : Int} {tgt : Nat} (hdg : decode cc pc = .ok (.ifnonnull o, 3)) (ht : (pc : Int) + o = (tgt : Int))
    (kt : ¬ x = -1 → W p l e R s m args below meth c H locs cells slots Q (F0 m tgt ls rest)) (kf : x = -1 → W p l e R s m args below meth c H locs cells slots Q (F0 m (pc + 3) ls rest)) : W p l e R s m args below meth c H locs cells slots Q (F0 m pc ls (jv ad off x :: rest)) := by
  by_cases h : x = -1
  · have k := kf h
    subst h
    rw [jv_null]
    exact lv_ifnonnullN hexec hb hdg k
  · rw [jv_ref h]
    exact lv_ifnonnull hexec hb hdg ht (kt h)
theorem jv_acmp_ne (hexec : p.tables.exec = Jvm.exec) (hb : c.code = cc) {x y : Int32} {o : Int} {tgt n : Nat} (hn : n < 2 ^ 31) (hi : ∀ i j, i < n → j < n → ad (off + i) = ad (off + j) → i = j) (hx : jq n x) (hy : jq n y) (hdg : decode cc pc = .ok (.if_acmp .ne o, 3)) (ht : (pc : Int) + o = (tgt : Int))
    (kt : ¬ x = y → W p l e R s m args below meth c H locs cells slots Q (F0 m tgt ls rest)) (kf : x = y → W p l e R s m args below meth c H locs cells slots Q (F0 m (pc + 3) ls rest)) : W p l e R s m args below meth c H locs cells slots Q (F0 m pc ls (jv ad off y :: jv ad off x :: rest)) :=
  lv_acmp_ne hexec hb hdg ht (fun h => kt (fun e => h ((jv_inj hn hi hx hy).mpr e))) (fun h => kf ((jv_inj hn hi hx hy).mp h))
theorem jv_acmp_eq (hexec : p.tables.exec = Jvm.exec) (hb : c.code = cc) {x y : Int32} {o : Int} {tgt n : Nat} (hn : n < 2 ^ 31) (hi : ∀ i j, i < n → j < n → ad (off + i) = ad (off + j) → i = j) (hx : jq n x) (hy : jq n y) (hdg : decode cc pc = .ok (.if_acmp .eq o, 3)) (ht : (pc : Int) + o = (tgt : Int))
    (kt : x = y → W p l e R s m args below meth c H locs cells slots Q (F0 m tgt ls rest)) (kf : ¬ x = y → W p l e R s m args below meth c H locs cells slots Q (F0 m (pc + 3) ls rest)) : W p l e R s m args below meth c H locs cells slots Q (F0 m pc ls (jv ad off y :: jv ad off x :: rest)) :=
  lv_acmp_eq hexec hb hdg ht (fun h => kt ((jv_inj hn hi hx hy).mp h)) (fun h => kf (fun e => h ((jv_inj hn hi hx hy).mpr e)))
/-- null on the stack, as a reference by number -/
theorem jv_const (hexec : p.tables.exec = Jvm.exec) (hb : c.code = cc) (hdg : decode cc pc = .ok (.aconst_null, 1)) (k : W p l e R s m args below meth c H locs cells slots Q (F0 m (pc + 1) ls (jv ad off (-1) :: rest))) : W p l e R s m args below meth c H locs cells slots Q (F0 m pc ls rest) := by
  rw [jv_null] at k
  exact lv_null hexec hb hdg k
end JV
