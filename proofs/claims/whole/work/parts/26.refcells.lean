/-! The cells of the reference: 0 the object, 1 + f the array of field f (f < 21). -/
def jm_fM (ad : Nat → Nat) (s : js_S) : List Value := [.ref (ad 1), .ref (ad 2), .ref (ad 3), .ref (ad 4), .ref (ad 5), .ref (ad 6), .ref (ad 7), .ref (ad 8), .ref (ad 9), .ref (ad 10), .ref (ad 11), .ref (ad 12), .ref (ad 13), .ref (ad 14), .ref (ad 15), .ref (ad 16), .ref (ad 17), .ref (ad 18), .ref (ad 19), .ref (ad 20), .ref (ad 21), .int (s 21 0), .int (s 22 0), .int (s 23 0), .int (s 24 0), .int (s 25 0)]
def jm_ty (f : Nat) : Nat := if f = 3 ∨ f = 9 ∨ f = 10 ∨ f = 12 ∨ f = 15 ∨ f = 17 ∨ f = 19 ∨ f = 20 then 5 else 4
def jm_len (f : Nat) : Nat := if f < 4 then 32 else 48
def jm_cell (ad : Nat → Nat) (cA : Nat → ClassId) (s : js_S) (k : Nat) : va_E :=
  if k = 0 then .inr (5, jm_fM ad s) else .inl (cA (jm_ty (k - 1)), jm_len (k - 1), .inl (fun i => s (k - 1) i))
theorem jm_c0 {ad : Nat → Nat} {cA : Nat → ClassId} {s : js_S} : jm_cell ad cA s 0 = .inr (5, jm_fM ad s) := rfl
theorem jm_cf {ad : Nat → Nat} {cA : Nat → ClassId} {s : js_S} {f : Nat} : jm_cell ad cA s (1 + f) = .inl (cA (jm_ty f), jm_len f, .inl (fun i => s f i)) := by
  unfold jm_cell
  rw [if_neg (by omega), show 1 + f - 1 = f by omega]
theorem jm_len31 (f : Nat) : jm_len f < 2 ^ 31 := by
  unfold jm_len
  split <;> decide
theorem js_narz {v : Int32} (h : v = 0 ∨ v = 1) : vp_nar .boolean v = v := by
  rcases h with rfl | rfl <;> rfl
section JMA
variable {p : Program} {l : Launch} {e : Env} {R : Room} {s : State} {m : MethodId} {args : Array Value} {below : List Frame} {meth : Method} {c : Code} {H : Heap} {locs : List Loc} {cells slots : Nat} {Q : State → Prop} {cc : ByteArray} {pc nL : Nat} {ls : Array Slot} {rest : List Value} {own : String} {D : va_G} {aK : Nat → Nat} {ad : Nat → Nat} {cA : Nat → ClassId} {A : Nat → Prop} {u : js_S}
theorem jg_M (hc : jx_C p s m args c cc nL own D (jc_tys cA) aK A) (hh : jx_H D 22 ad (jm_cell ad cA u) A s.heap H locs) (k : Nat) (hk : k < 26) {v : Value} {idx : Nat} (hv : (jm_fM ad u)[k]? = some v) (hlink : Cond.fieldLink own idx (F_M k).1 (F_M k).2.1 (F_M k).2.2.1 ∈ jw_all) (hdg : decode cc pc = .ok (.getfield idx, 3))
    (kk : W p l e R s m args below meth c H locs cells slots Q (F0 m (pc + 3) ls (v :: rest))) : W p l e R s m args below meth c H locs cells slots Q (F0 m pc ls (.ref (ad 0) :: rest)) :=
  va_get (ci := 5) (C := R_M) (T := F_M) (N := 26) hc.1 hc.2.1 hc.2.2.2.2.1 jn_M hc.2.2.2.1 hc.2.2.2.2.2.1 hh.1 0 (by rw [jx_at (by omega), jm_c0]) rfl k hk (hc.2.2.2.2.1 _ hlink) (fun _ h => h) hv hdg kk
theorem jp_M (hc : jx_C p s m args c cc nL own D (jc_tys cA) aK A) (hh : jx_H D 22 ad (jm_cell ad cA u) A s.heap H locs) (k : Nat) (hk : k < 26) {v : Int32} {u' : js_S} {idx : Nat} (hlink : Cond.fieldLink own idx (F_M k).1 (F_M k).2.1 (F_M k).2.2.1 ∈ jw_all) (hfin : (F_M k).2.2.2 = false) (hd : parseFieldDescriptor (F_M k).2.2.1 = some .int) (hset : (jm_fM ad u).set k (.int v) = jm_fM ad u') (hoth : ∀ j, j < 22 → j ≠ 0 → jm_cell ad cA u' j = jm_cell ad cA u j) (hdg : decode cc pc = .ok (.putfield idx, 3))
    (kk : ∀ (H1 : Heap) (locs1 : List Loc), jx_H D 22 ad (jm_cell ad cA u') A s.heap H1 locs1 → W p l e R s m args below meth c H1 locs1 cells slots Q (F0 m (pc + 3) ls rest)) : W p l e R s m args below meth c H locs cells slots Q (F0 m pc ls (.int v :: .ref (ad 0) :: rest)) := by
  refine va_put (fs := jm_fM ad u) (ci := 5) (C := R_M) (T := F_M) (N := 26) hc.1 hc.2.1 hc.2.2.2.2.1 jn_M t_M t_M_ok n_M hc.2.2.2.1 hc.2.2.2.2.2.1 hh.1 hh.2.1 hh.2.2 0 (by rw [jx_at (by omega), jm_c0]) rfl k hk (hc.2.2.2.2.1 _ hlink) (fun _ h => h) hfin hd rfl rfl (show k < 26 from hk) hdg (fun H1 locs1 h1 h2 h3 => kk H1 locs1 ?_)
  have e : (jx_W 22 ad (jm_cell ad cA u)).set 0 (ad 0, .inr (5, (jm_fM ad u).set k (.int v))) = jx_W 22 ad (jm_cell ad cA u') := by
    rw [hset, ← jm_c0 (cA := cA)]
    exact jx_set (by omega) hoth
  rw [e] at h1 h2
  exact ⟨h1, h2, h3⟩
theorem jpm_21 (hc : jx_C p s m args c cc nL own D (jc_tys cA) aK A) (hh : jx_H D 22 ad (jm_cell ad cA u) A s.heap H locs) {v : Int32} {idx : Nat} (hlink : Cond.fieldLink own idx (F_M 21).1 (F_M 21).2.1 (F_M 21).2.2.1 ∈ jw_all) (hdg : decode cc pc = .ok (.putfield idx, 3))
    (kk : ∀ (H1 : Heap) (locs1 : List Loc), jx_H D 22 ad (jm_cell ad cA (js_up u 21 0 v)) A s.heap H1 locs1 → W p l e R s m args below meth c H1 locs1 cells slots Q (F0 m (pc + 3) ls rest)) : W p l e R s m args below meth c H locs cells slots Q (F0 m pc ls (.int v :: .ref (ad 0) :: rest)) :=
  jp_M hc hh 21 (by omega) hlink rfl (by decide +kernel) (by simp [jm_fM, js_up]) (fun j hj hne => by
    obtain ⟨f9, rfl⟩ : ∃ f9, j = 1 + f9 := ⟨j - 1, by omega⟩
    rw [jm_cf, jm_cf]
    have e9 : (fun i => js_up u 21 0 v f9 i) = (fun i => u f9 i) := by
      funext i
      exact js_up_f (by omega)
    rw [e9]) hdg kk
theorem jpm_22 (hc : jx_C p s m args c cc nL own D (jc_tys cA) aK A) (hh : jx_H D 22 ad (jm_cell ad cA u) A s.heap H locs) {v : Int32} {idx : Nat} (hlink : Cond.fieldLink own idx (F_M 22).1 (F_M 22).2.1 (F_M 22).2.2.1 ∈ jw_all) (hdg : decode cc pc = .ok (.putfield idx, 3))
    (kk : ∀ (H1 : Heap) (locs1 : List Loc), jx_H D 22 ad (jm_cell ad cA (js_up u 22 0 v)) A s.heap H1 locs1 → W p l e R s m args below meth c H1 locs1 cells slots Q (F0 m (pc + 3) ls rest)) : W p l e R s m args below meth c H locs cells slots Q (F0 m pc ls (.int v :: .ref (ad 0) :: rest)) :=
  jp_M hc hh 22 (by omega) hlink rfl (by decide +kernel) (by simp [jm_fM, js_up]) (fun j hj hne => by
    obtain ⟨f9, rfl⟩ : ∃ f9, j = 1 + f9 := ⟨j - 1, by omega⟩
    rw [jm_cf, jm_cf]
    have e9 : (fun i => js_up u 22 0 v f9 i) = (fun i => u f9 i) := by
      funext i
      exact js_up_f (by omega)
    rw [e9]) hdg kk
theorem jpm_23 (hc : jx_C p s m args c cc nL own D (jc_tys cA) aK A) (hh : jx_H D 22 ad (jm_cell ad cA u) A s.heap H locs) {v : Int32} {idx : Nat} (hlink : Cond.fieldLink own idx (F_M 23).1 (F_M 23).2.1 (F_M 23).2.2.1 ∈ jw_all) (hdg : decode cc pc = .ok (.putfield idx, 3))
    (kk : ∀ (H1 : Heap) (locs1 : List Loc), jx_H D 22 ad (jm_cell ad cA (js_up u 23 0 v)) A s.heap H1 locs1 → W p l e R s m args below meth c H1 locs1 cells slots Q (F0 m (pc + 3) ls rest)) : W p l e R s m args below meth c H locs cells slots Q (F0 m pc ls (.int v :: .ref (ad 0) :: rest)) :=
  jp_M hc hh 23 (by omega) hlink rfl (by decide +kernel) (by simp [jm_fM, js_up]) (fun j hj hne => by
    obtain ⟨f9, rfl⟩ : ∃ f9, j = 1 + f9 := ⟨j - 1, by omega⟩
    rw [jm_cf, jm_cf]
    have e9 : (fun i => js_up u 23 0 v f9 i) = (fun i => u f9 i) := by
      funext i
      exact js_up_f (by omega)
    rw [e9]) hdg kk
theorem jpm_24 (hc : jx_C p s m args c cc nL own D (jc_tys cA) aK A) (hh : jx_H D 22 ad (jm_cell ad cA u) A s.heap H locs) {v : Int32} {idx : Nat} (hlink : Cond.fieldLink own idx (F_M 24).1 (F_M 24).2.1 (F_M 24).2.2.1 ∈ jw_all) (hdg : decode cc pc = .ok (.putfield idx, 3))
    (kk : ∀ (H1 : Heap) (locs1 : List Loc), jx_H D 22 ad (jm_cell ad cA (js_up u 24 0 v)) A s.heap H1 locs1 → W p l e R s m args below meth c H1 locs1 cells slots Q (F0 m (pc + 3) ls rest)) : W p l e R s m args below meth c H locs cells slots Q (F0 m pc ls (.int v :: .ref (ad 0) :: rest)) :=
  jp_M hc hh 24 (by omega) hlink rfl (by decide +kernel) (by simp [jm_fM, js_up]) (fun j hj hne => by
    obtain ⟨f9, rfl⟩ : ∃ f9, j = 1 + f9 := ⟨j - 1, by omega⟩
    rw [jm_cf, jm_cf]
    have e9 : (fun i => js_up u 24 0 v f9 i) = (fun i => u f9 i) := by
      funext i
      exact js_up_f (by omega)
    rw [e9]) hdg kk
theorem jpm_25 (hc : jx_C p s m args c cc nL own D (jc_tys cA) aK A) (hh : jx_H D 22 ad (jm_cell ad cA u) A s.heap H locs) {v : Int32} {idx : Nat} (hlink : Cond.fieldLink own idx (F_M 25).1 (F_M 25).2.1 (F_M 25).2.2.1 ∈ jw_all) (hdg : decode cc pc = .ok (.putfield idx, 3))
    (kk : ∀ (H1 : Heap) (locs1 : List Loc), jx_H D 22 ad (jm_cell ad cA (js_up u 25 0 v)) A s.heap H1 locs1 → W p l e R s m args below meth c H1 locs1 cells slots Q (F0 m (pc + 3) ls rest)) : W p l e R s m args below meth c H locs cells slots Q (F0 m pc ls (.int v :: .ref (ad 0) :: rest)) :=
  jp_M hc hh 25 (by omega) hlink rfl (by decide +kernel) (by simp [jm_fM, js_up]) (fun j hj hne => by
    obtain ⟨f9, rfl⟩ : ∃ f9, j = 1 + f9 := ⟨j - 1, by omega⟩
    rw [jm_cf, jm_cf]
    have e9 : (fun i => js_up u 25 0 v f9 i) = (fun i => u f9 i) := by
      funext i
      exact js_up_f (by omega)
    rw [e9]) hdg kk
theorem jm_ild (hc : jx_C p s m args c cc nL own D (jc_tys cA) aK A) (hh : jx_H D 22 ad (jm_cell ad cA u) A s.heap H locs) (f : Nat) (hf : f < 21) (ht : jm_ty f = 4) {x : Int32} (hx : ∃ i, i < jm_len f ∧ x = nI i) (hdg : decode cc pc = .ok (.iaload, 1))
    (kk : W p l e R s m args below meth c H locs cells slots Q (F0 m (pc + 1) ls (.int (u f (ix x)) :: rest))) : W p l e R s m args below meth c H locs cells slots Q (F0 m pc ls (.int x :: .ref (ad (1 + f)) :: rest)) := by
  obtain ⟨i, hi, rfl⟩ := hx
  exact va_iald (cA := cA 4) (n := jm_len f) (f := fun i => u f i) hc.1 hc.2.1 hc.2.2.2.2.2.1 hh.1 (1 + f) 4 (by rw [jx_at (by omega), jm_cf, ht]) rfl (vp_in_nI hi (jm_len31 f)) hdg kk
theorem jm_zld (hc : jx_C p s m args c cc nL own D (jc_tys cA) aK A) (hh : jx_H D 22 ad (jm_cell ad cA u) A s.heap H locs) (f : Nat) (hf : f < 21) (ht : jm_ty f = 5) {x : Int32} (hx : ∃ i, i < jm_len f ∧ x = nI i) (hdg : decode cc pc = .ok (.baload, 1))
    (kk : W p l e R s m args below meth c H locs cells slots Q (F0 m (pc + 1) ls (.int (u f (ix x)) :: rest))) : W p l e R s m args below meth c H locs cells slots Q (F0 m pc ls (.int x :: .ref (ad (1 + f)) :: rest)) := by
  obtain ⟨i, hi, rfl⟩ := hx
  exact va_zald (cA := cA 5) (n := jm_len f) (f := fun i => u f i) hc.1 hc.2.1 hc.2.2.2.2.2.1 hh.1 (1 + f) 5 (by rw [jx_at (by omega), jm_cf, ht]) rfl (vp_in_nI hi (jm_len31 f)) hdg kk
theorem jm_oth {f i : Nat} {v : Int32} (hf : f < 21) : ∀ j, j < 22 → j ≠ 1 + f → jm_cell ad cA (js_up u f i v) j = jm_cell ad cA u j := by
  intro j hj hne
  by_cases h0 : j = 0
  · subst h0
    rw [jm_c0, jm_c0]
    simp only [jm_fM]
    rw [js_up_f (show ¬ 21 = f by omega), js_up_f (show ¬ 22 = f by omega), js_up_f (show ¬ 23 = f by omega), js_up_f (show ¬ 24 = f by omega), js_up_f (show ¬ 25 = f by omega)]
  · obtain ⟨f9, rfl⟩ : ∃ f9, j = 1 + f9 := ⟨j - 1, by omega⟩
    rw [jm_cf, jm_cf]
    have e9 : (fun i9 => js_up u f i v f9 i9) = (fun i9 => u f9 i9) := by
      funext i9
      exact js_up_f (by omega)
    rw [e9]
theorem jm_upd {f i : Nat} {v : Int32} : upd (fun j => u f j) i v = fun j => js_up u f i v f j := by
  funext j
  simp [upd, js_up]
theorem jm_ist (hc : jx_C p s m args c cc nL own D (jc_tys cA) aK A) (hh : jx_H D 22 ad (jm_cell ad cA u) A s.heap H locs) (f : Nat) (hf : f < 21) (ht : jm_ty f = 4) {x v : Int32} (hx : ∃ i, i < jm_len f ∧ x = nI i) (hdg : decode cc pc = .ok (.iastore, 1))
    (kk : ∀ (H1 : Heap) (locs1 : List Loc), jx_H D 22 ad (jm_cell ad cA (js_up u f (ix x) v)) A s.heap H1 locs1 → W p l e R s m args below meth c H1 locs1 cells slots Q (F0 m (pc + 1) ls rest)) : W p l e R s m args below meth c H locs cells slots Q (F0 m pc ls (.int v :: .int x :: .ref (ad (1 + f)) :: rest)) := by
  obtain ⟨i, hi, rfl⟩ := hx
  refine va_iast (cA := cA 4) (n := jm_len f) (f := fun i => u f i) hc.1 hc.2.1 hc.2.2.2.2.2.1 hh.1 hh.2.1 hh.2.2 (1 + f) 4 (by rw [jx_at (by omega), jm_cf, ht]) rfl (vp_in_nI hi (jm_len31 f)) hdg (fun H1 locs1 h1 h2 h3 => kk H1 locs1 ?_)
  have e : (jx_W 22 ad (jm_cell ad cA u)).set (1 + f) (ad (1 + f), .inl (cA 4, jm_len f, .inl (upd (fun j => u f j) (nI i).toNatClampNeg v))) = jx_W 22 ad (jm_cell ad cA (js_up u f (ix (nI i)) v)) := by
    rw [jm_upd, ← jx_set (ce' := jm_cell ad cA (js_up u f (ix (nI i)) v)) (show 1 + f < 22 by omega) (jm_oth hf), jm_cf, ht]
  rw [e] at h1 h2
  exact ⟨h1, h2, h3⟩
theorem jm_zst (hc : jx_C p s m args c cc nL own D (jc_tys cA) aK A) (hh : jx_H D 22 ad (jm_cell ad cA u) A s.heap H locs) (f : Nat) (hf : f < 21) (ht : jm_ty f = 5) {x v : Int32} (hx : ∃ i, i < jm_len f ∧ x = nI i) (hz : v = 0 ∨ v = 1) (hdg : decode cc pc = .ok (.bastore, 1))
    (kk : ∀ (H1 : Heap) (locs1 : List Loc), jx_H D 22 ad (jm_cell ad cA (js_up u f (ix x) v)) A s.heap H1 locs1 → W p l e R s m args below meth c H1 locs1 cells slots Q (F0 m (pc + 1) ls rest)) : W p l e R s m args below meth c H locs cells slots Q (F0 m pc ls (.int v :: .int x :: .ref (ad (1 + f)) :: rest)) := by
  obtain ⟨i, hi, rfl⟩ := hx
  refine va_zast (cA := cA 5) (n := jm_len f) (f := fun i => u f i) hc.1 hc.2.1 hc.2.2.2.2.2.1 hh.1 hh.2.1 hh.2.2 (1 + f) 5 (by rw [jx_at (by omega), jm_cf, ht]) rfl (vp_in_nI hi (jm_len31 f)) hdg (fun H1 locs1 h1 h2 h3 => kk H1 locs1 ?_)
  rw [js_narz hz] at h1 h2
  have e : (jx_W 22 ad (jm_cell ad cA u)).set (1 + f) (ad (1 + f), .inl (cA 5, jm_len f, .inl (upd (fun j => u f j) (nI i).toNatClampNeg v))) = jx_W 22 ad (jm_cell ad cA (js_up u f (ix (nI i)) v)) := by
    rw [jm_upd, ← jx_set (ce' := jm_cell ad cA (js_up u f (ix (nI i)) v)) (show 1 + f < 22 by omega) (jm_oth hf), jm_cf, ht]
  rw [e] at h1 h2
  exact ⟨h1, h2, h3⟩
end JMA
