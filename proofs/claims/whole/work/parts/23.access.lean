/-! Reading and writing the class's fields and arrays, by the store. -/
theorem jv_nar {ad : Nat → Nat} {off : Nat} {x : Int32} {C : String} : narrow (.object C) (jv ad off x) = jv ad off x := by
  rcases jv_or ad off x with h | ⟨a, h⟩ <;> rw [h] <;> rfl
theorem jv_fit {ad : Nat → Nat} {off : Nat} {x : Int32} {C : String} : fits (.object C) (jv ad off x) = true := by
  rcases jv_or ad off x with h | ⟨a, h⟩ <;> rw [h] <;> rfl
theorem js_nz {v : Int32} (h : v = 0 ∨ v = 1) : narrow .boolean (.int v) = .int v := by
  rcases h with rfl | rfl <;> rfl
section JACC
variable {p : Program} {l : Launch} {e : Env} {R : Room} {s : State} {m : MethodId} {args : Array Value} {below : List Frame} {meth : Method} {c : Code} {H : Heap} {locs : List Loc} {cells slots : Nat} {Q : State → Prop} {cc : ByteArray} {pc nL : Nat} {ls : Array Slot} {rest : List Value} {own : String} {D : va_G} {aK : Nat → Nat} {ad : Nat → Nat} {cA : Nat → ClassId} {A : Nat → Prop} {u : js_S}
theorem jg_J (hc : jx_C p s m args c cc nL own D (jc_tys cA) aK A) (hh : jx_H D 158 ad (jc_cell ad aK cA u) A s.heap H locs) (k : Nat) (hk : k < 9) {v : Value} {idx : Nat} (hv : (jc_fJ ad u)[k]? = some v) (hlink : Cond.fieldLink own idx (F_J k).1 (F_J k).2.1 (F_J k).2.2.1 ∈ jw_all) (hdg : decode cc pc = .ok (.getfield idx, 3))
    (kk : W p l e R s m args below meth c H locs cells slots Q (F0 m (pc + 3) ls (v :: rest))) : W p l e R s m args below meth c H locs cells slots Q (F0 m pc ls (.ref (ad 0) :: rest)) :=
  va_get (ci := 0) (C := R_J) (T := F_J) (N := 9) hc.1 hc.2.1 hc.2.2.2.2.1 jn_J hc.2.2.2.1 hc.2.2.2.2.2.1 hh.1 0 (by rw [jx_at (by omega), jc_cJ]) rfl k hk (hc.2.2.2.2.1 _ hlink) (fun _ h => h) hv hdg kk
theorem jp_J (hc : jx_C p s m args c cc nL own D (jc_tys cA) aK A) (hh : jx_H D 158 ad (jc_cell ad aK cA u) A s.heap H locs) (k : Nat) (hk : k < 9) {v : Value} {u' : js_S} {idx : Nat} {ty : FieldType} (hlink : Cond.fieldLink own idx (F_J k).1 (F_J k).2.1 (F_J k).2.2.1 ∈ jw_all) (hfin : (F_J k).2.2.2 = false) (hd : parseFieldDescriptor (F_J k).2.2.1 = some ty) (hn : narrow ty v = v) (hfit : fits ty v = true) (hset : (jc_fJ ad u).set k v = jc_fJ ad u') (hoth : ∀ j, j < 158 → j ≠ 0 → jc_cell ad aK cA u' j = jc_cell ad aK cA u j) (hdg : decode cc pc = .ok (.putfield idx, 3))
    (kk : ∀ (H1 : Heap) (locs1 : List Loc), jx_H D 158 ad (jc_cell ad aK cA u') A s.heap H1 locs1 → W p l e R s m args below meth c H1 locs1 cells slots Q (F0 m (pc + 3) ls rest)) : W p l e R s m args below meth c H locs cells slots Q (F0 m pc ls (v :: .ref (ad 0) :: rest)) := by
  refine va_put (fs := jc_fJ ad u) (ci := 0) (C := R_J) (T := F_J) (N := 9) hc.1 hc.2.1 hc.2.2.2.2.1 jn_J t_J t_J_ok n_J hc.2.2.2.1 hc.2.2.2.2.2.1 hh.1 hh.2.1 hh.2.2 0 (by rw [jx_at (by omega), jc_cJ]) rfl k hk (hc.2.2.2.2.1 _ hlink) (fun _ h => h) hfin hd hn hfit (show k < 9 from hk) hdg (fun H1 locs1 h1 h2 h3 => kk H1 locs1 ?_)
  have e : (jx_W 158 ad (jc_cell ad aK cA u)).set 0 (ad 0, .inr (0, (jc_fJ ad u).set k v)) = jx_W 158 ad (jc_cell ad aK cA u') := by
    rw [hset, ← jc_cJ (aK := aK) (cA := cA)]
    exact jx_set (by omega) hoth
  rw [e] at h1 h2
  exact ⟨h1, h2, h3⟩
theorem jg_A (hc : jx_C p s m args c cc nL own D (jc_tys cA) aK A) (hh : jx_H D 158 ad (jc_cell ad aK cA u) A s.heap H locs) {i : Nat} (hi : i < 32) (k : Nat) (hk : k < 5) {v : Value} {idx : Nat} (hv : (jc_fA aK u i)[k]? = some v) (hlink : Cond.fieldLink own idx (F_A k).1 (F_A k).2.1 (F_A k).2.2.1 ∈ jw_all) (hdg : decode cc pc = .ok (.getfield idx, 3))
    (kk : W p l e R s m args below meth c H locs cells slots Q (F0 m (pc + 3) ls (v :: rest))) : W p l e R s m args below meth c H locs cells slots Q (F0 m pc ls (jv ad 6 (nI i) :: rest)) := by
  rw [jv_nI (by omega)]
  exact va_get (ci := 1) (C := R_A) (T := F_A) (N := 5) hc.1 hc.2.1 hc.2.2.2.2.1 jn_A hc.2.2.2.1 hc.2.2.2.2.2.1 hh.1 (6 + i) (by rw [jx_at (by omega), jc_cA hi]) rfl k hk (hc.2.2.2.2.1 _ hlink) (fun _ h => h) hv hdg kk
theorem jgx_A (hc : jx_C p s m args c cc nL own D (jc_tys cA) aK A) (hh : jx_H D 158 ad (jc_cell ad aK cA u) A s.heap H locs) {x : Int32} (hx : ∃ i, i < 32 ∧ x = nI i) (k : Nat) (hk : k < 5) {v : Value} {idx : Nat} (hv : (jc_fA aK u (ix x))[k]? = some v) (hlink : Cond.fieldLink own idx (F_A k).1 (F_A k).2.1 (F_A k).2.2.1 ∈ jw_all) (hdg : decode cc pc = .ok (.getfield idx, 3))
    (kk : W p l e R s m args below meth c H locs cells slots Q (F0 m (pc + 3) ls (v :: rest))) : W p l e R s m args below meth c H locs cells slots Q (F0 m pc ls (jv ad 6 x :: rest)) := by
  obtain ⟨i, hi, rfl⟩ := hx
  rw [ix_nI (by omega)] at hv
  exact jg_A hc hh hi k hk hv hlink hdg kk
theorem jpx_A (hc : jx_C p s m args c cc nL own D (jc_tys cA) aK A) (hh : jx_H D 158 ad (jc_cell ad aK cA u) A s.heap H locs) {i : Nat} (hi : i < 32) (k : Nat) (hk : k < 5) {v : Value} {u' : js_S} {idx : Nat} {ty : FieldType} (hlink : Cond.fieldLink own idx (F_A k).1 (F_A k).2.1 (F_A k).2.2.1 ∈ jw_all) (hfin : (F_A k).2.2.2 = false) (hd : parseFieldDescriptor (F_A k).2.2.1 = some ty) (hn : narrow ty v = v) (hfit : fits ty v = true) (hset : (jc_fA aK u i).set k v = jc_fA aK u' i) (hoth : ∀ j, j < 158 → j ≠ 6 + i → jc_cell ad aK cA u' j = jc_cell ad aK cA u j) (hdg : decode cc pc = .ok (.putfield idx, 3))
    (kk : ∀ (H1 : Heap) (locs1 : List Loc), jx_H D 158 ad (jc_cell ad aK cA u') A s.heap H1 locs1 → W p l e R s m args below meth c H1 locs1 cells slots Q (F0 m (pc + 3) ls rest)) : W p l e R s m args below meth c H locs cells slots Q (F0 m pc ls (v :: jv ad 6 (nI i) :: rest)) := by
  rw [jv_nI (by omega)]
  refine va_put (fs := jc_fA aK u i) (ci := 1) (C := R_A) (T := F_A) (N := 5) hc.1 hc.2.1 hc.2.2.2.2.1 jn_A t_A t_A_ok n_A hc.2.2.2.1 hc.2.2.2.2.2.1 hh.1 hh.2.1 hh.2.2 (6 + i) (by rw [jx_at (by omega), jc_cA hi]) rfl k hk (hc.2.2.2.2.1 _ hlink) (fun _ h => h) hfin hd hn hfit (show k < 5 from hk) hdg (fun H1 locs1 h1 h2 h3 => kk H1 locs1 ?_)
  have e : (jx_W 158 ad (jc_cell ad aK cA u)).set (6 + i) (ad (6 + i), .inr (1, (jc_fA aK u i).set k v)) = jx_W 158 ad (jc_cell ad aK cA u') := by
    rw [hset, ← jc_cA (ad := ad) (aK := aK) (cA := cA) hi]
    exact jx_set (by omega) hoth
  rw [e] at h1 h2
  exact ⟨h1, h2, h3⟩
theorem jg_N (hc : jx_C p s m args c cc nL own D (jc_tys cA) aK A) (hh : jx_H D 158 ad (jc_cell ad aK cA u) A s.heap H locs) {i : Nat} (hi : i < 40) (k : Nat) (hk : k < 4) {v : Value} {idx : Nat} (hv : (jc_fN ad u i)[k]? = some v) (hlink : Cond.fieldLink own idx (F_N k).1 (F_N k).2.1 (F_N k).2.2.1 ∈ jw_all) (hdg : decode cc pc = .ok (.getfield idx, 3))
    (kk : W p l e R s m args below meth c H locs cells slots Q (F0 m (pc + 3) ls (v :: rest))) : W p l e R s m args below meth c H locs cells slots Q (F0 m pc ls (jv ad 38 (nI i) :: rest)) := by
  rw [jv_nI (by omega)]
  exact va_get (ci := 2) (C := R_N) (T := F_N) (N := 4) hc.1 hc.2.1 hc.2.2.2.2.1 jn_N hc.2.2.2.1 hc.2.2.2.2.2.1 hh.1 (38 + i) (by rw [jx_at (by omega), jc_cN hi]) rfl k hk (hc.2.2.2.2.1 _ hlink) (fun _ h => h) hv hdg kk
theorem jgx_N (hc : jx_C p s m args c cc nL own D (jc_tys cA) aK A) (hh : jx_H D 158 ad (jc_cell ad aK cA u) A s.heap H locs) {x : Int32} (hx : ∃ i, i < 40 ∧ x = nI i) (k : Nat) (hk : k < 4) {v : Value} {idx : Nat} (hv : (jc_fN ad u (ix x))[k]? = some v) (hlink : Cond.fieldLink own idx (F_N k).1 (F_N k).2.1 (F_N k).2.2.1 ∈ jw_all) (hdg : decode cc pc = .ok (.getfield idx, 3))
    (kk : W p l e R s m args below meth c H locs cells slots Q (F0 m (pc + 3) ls (v :: rest))) : W p l e R s m args below meth c H locs cells slots Q (F0 m pc ls (jv ad 38 x :: rest)) := by
  obtain ⟨i, hi, rfl⟩ := hx
  rw [ix_nI (by omega)] at hv
  exact jg_N hc hh hi k hk hv hlink hdg kk
theorem jpx_N (hc : jx_C p s m args c cc nL own D (jc_tys cA) aK A) (hh : jx_H D 158 ad (jc_cell ad aK cA u) A s.heap H locs) {i : Nat} (hi : i < 40) (k : Nat) (hk : k < 4) {v : Value} {u' : js_S} {idx : Nat} {ty : FieldType} (hlink : Cond.fieldLink own idx (F_N k).1 (F_N k).2.1 (F_N k).2.2.1 ∈ jw_all) (hfin : (F_N k).2.2.2 = false) (hd : parseFieldDescriptor (F_N k).2.2.1 = some ty) (hn : narrow ty v = v) (hfit : fits ty v = true) (hset : (jc_fN ad u i).set k v = jc_fN ad u' i) (hoth : ∀ j, j < 158 → j ≠ 38 + i → jc_cell ad aK cA u' j = jc_cell ad aK cA u j) (hdg : decode cc pc = .ok (.putfield idx, 3))
    (kk : ∀ (H1 : Heap) (locs1 : List Loc), jx_H D 158 ad (jc_cell ad aK cA u') A s.heap H1 locs1 → W p l e R s m args below meth c H1 locs1 cells slots Q (F0 m (pc + 3) ls rest)) : W p l e R s m args below meth c H locs cells slots Q (F0 m pc ls (v :: jv ad 38 (nI i) :: rest)) := by
  rw [jv_nI (by omega)]
  refine va_put (fs := jc_fN ad u i) (ci := 2) (C := R_N) (T := F_N) (N := 4) hc.1 hc.2.1 hc.2.2.2.2.1 jn_N t_N t_N_ok n_N hc.2.2.2.1 hc.2.2.2.2.2.1 hh.1 hh.2.1 hh.2.2 (38 + i) (by rw [jx_at (by omega), jc_cN hi]) rfl k hk (hc.2.2.2.2.1 _ hlink) (fun _ h => h) hfin hd hn hfit (show k < 4 from hk) hdg (fun H1 locs1 h1 h2 h3 => kk H1 locs1 ?_)
  have e : (jx_W 158 ad (jc_cell ad aK cA u)).set (38 + i) (ad (38 + i), .inr (2, (jc_fN ad u i).set k v)) = jx_W 158 ad (jc_cell ad aK cA u') := by
    rw [hset, ← jc_cN (ad := ad) (aK := aK) (cA := cA) hi]
    exact jx_set (by omega) hoth
  rw [e] at h1 h2
  exact ⟨h1, h2, h3⟩
theorem jg_D (hc : jx_C p s m args c cc nL own D (jc_tys cA) aK A) (hh : jx_H D 158 ad (jc_cell ad aK cA u) A s.heap H locs) {i : Nat} (hi : i < 40) (k : Nat) (hk : k < 6) {v : Value} {idx : Nat} (hv : (jc_fD ad u i)[k]? = some v) (hlink : Cond.fieldLink own idx (F_D k).1 (F_D k).2.1 (F_D k).2.2.1 ∈ jw_all) (hdg : decode cc pc = .ok (.getfield idx, 3))
    (kk : W p l e R s m args below meth c H locs cells slots Q (F0 m (pc + 3) ls (v :: rest))) : W p l e R s m args below meth c H locs cells slots Q (F0 m pc ls (jv ad 78 (nI i) :: rest)) := by
  rw [jv_nI (by omega)]
  exact va_get (ci := 3) (C := R_D) (T := F_D) (N := 6) hc.1 hc.2.1 hc.2.2.2.2.1 jn_D hc.2.2.2.1 hc.2.2.2.2.2.1 hh.1 (78 + i) (by rw [jx_at (by omega), jc_cD hi]) rfl k hk (hc.2.2.2.2.1 _ hlink) (fun _ h => h) hv hdg kk
theorem jgx_D (hc : jx_C p s m args c cc nL own D (jc_tys cA) aK A) (hh : jx_H D 158 ad (jc_cell ad aK cA u) A s.heap H locs) {x : Int32} (hx : ∃ i, i < 40 ∧ x = nI i) (k : Nat) (hk : k < 6) {v : Value} {idx : Nat} (hv : (jc_fD ad u (ix x))[k]? = some v) (hlink : Cond.fieldLink own idx (F_D k).1 (F_D k).2.1 (F_D k).2.2.1 ∈ jw_all) (hdg : decode cc pc = .ok (.getfield idx, 3))
    (kk : W p l e R s m args below meth c H locs cells slots Q (F0 m (pc + 3) ls (v :: rest))) : W p l e R s m args below meth c H locs cells slots Q (F0 m pc ls (jv ad 78 x :: rest)) := by
  obtain ⟨i, hi, rfl⟩ := hx
  rw [ix_nI (by omega)] at hv
  exact jg_D hc hh hi k hk hv hlink hdg kk
theorem jpx_D (hc : jx_C p s m args c cc nL own D (jc_tys cA) aK A) (hh : jx_H D 158 ad (jc_cell ad aK cA u) A s.heap H locs) {i : Nat} (hi : i < 40) (k : Nat) (hk : k < 6) {v : Value} {u' : js_S} {idx : Nat} {ty : FieldType} (hlink : Cond.fieldLink own idx (F_D k).1 (F_D k).2.1 (F_D k).2.2.1 ∈ jw_all) (hfin : (F_D k).2.2.2 = false) (hd : parseFieldDescriptor (F_D k).2.2.1 = some ty) (hn : narrow ty v = v) (hfit : fits ty v = true) (hset : (jc_fD ad u i).set k v = jc_fD ad u' i) (hoth : ∀ j, j < 158 → j ≠ 78 + i → jc_cell ad aK cA u' j = jc_cell ad aK cA u j) (hdg : decode cc pc = .ok (.putfield idx, 3))
    (kk : ∀ (H1 : Heap) (locs1 : List Loc), jx_H D 158 ad (jc_cell ad aK cA u') A s.heap H1 locs1 → W p l e R s m args below meth c H1 locs1 cells slots Q (F0 m (pc + 3) ls rest)) : W p l e R s m args below meth c H locs cells slots Q (F0 m pc ls (v :: jv ad 78 (nI i) :: rest)) := by
  rw [jv_nI (by omega)]
  refine va_put (fs := jc_fD ad u i) (ci := 3) (C := R_D) (T := F_D) (N := 6) hc.1 hc.2.1 hc.2.2.2.2.1 jn_D t_D t_D_ok n_D hc.2.2.2.1 hc.2.2.2.2.2.1 hh.1 hh.2.1 hh.2.2 (78 + i) (by rw [jx_at (by omega), jc_cD hi]) rfl k hk (hc.2.2.2.2.1 _ hlink) (fun _ h => h) hfin hd hn hfit (show k < 6 from hk) hdg (fun H1 locs1 h1 h2 h3 => kk H1 locs1 ?_)
  have e : (jx_W 158 ad (jc_cell ad aK cA u)).set (78 + i) (ad (78 + i), .inr (3, (jc_fD ad u i).set k v)) = jx_W 158 ad (jc_cell ad aK cA u') := by
    rw [hset, ← jc_cD (ad := ad) (aK := aK) (cA := cA) hi]
    exact jx_set (by omega) hoth
  rw [e] at h1 h2
  exact ⟨h1, h2, h3⟩
theorem jg_E (hc : jx_C p s m args c cc nL own D (jc_tys cA) aK A) (hh : jx_H D 158 ad (jc_cell ad aK cA u) A s.heap H locs) {i : Nat} (hi : i < 40) (k : Nat) (hk : k < 6) {v : Value} {idx : Nat} (hv : (jc_fE ad u i)[k]? = some v) (hlink : Cond.fieldLink own idx (F_E k).1 (F_E k).2.1 (F_E k).2.2.1 ∈ jw_all) (hdg : decode cc pc = .ok (.getfield idx, 3))
    (kk : W p l e R s m args below meth c H locs cells slots Q (F0 m (pc + 3) ls (v :: rest))) : W p l e R s m args below meth c H locs cells slots Q (F0 m pc ls (jv ad 118 (nI i) :: rest)) := by
  rw [jv_nI (by omega)]
  exact va_get (ci := 4) (C := R_E) (T := F_E) (N := 6) hc.1 hc.2.1 hc.2.2.2.2.1 jn_E hc.2.2.2.1 hc.2.2.2.2.2.1 hh.1 (118 + i) (by rw [jx_at (by omega), jc_cE hi]) rfl k hk (hc.2.2.2.2.1 _ hlink) (fun _ h => h) hv hdg kk
theorem jgx_E (hc : jx_C p s m args c cc nL own D (jc_tys cA) aK A) (hh : jx_H D 158 ad (jc_cell ad aK cA u) A s.heap H locs) {x : Int32} (hx : ∃ i, i < 40 ∧ x = nI i) (k : Nat) (hk : k < 6) {v : Value} {idx : Nat} (hv : (jc_fE ad u (ix x))[k]? = some v) (hlink : Cond.fieldLink own idx (F_E k).1 (F_E k).2.1 (F_E k).2.2.1 ∈ jw_all) (hdg : decode cc pc = .ok (.getfield idx, 3))
    (kk : W p l e R s m args below meth c H locs cells slots Q (F0 m (pc + 3) ls (v :: rest))) : W p l e R s m args below meth c H locs cells slots Q (F0 m pc ls (jv ad 118 x :: rest)) := by
  obtain ⟨i, hi, rfl⟩ := hx
  rw [ix_nI (by omega)] at hv
  exact jg_E hc hh hi k hk hv hlink hdg kk
theorem jpx_E (hc : jx_C p s m args c cc nL own D (jc_tys cA) aK A) (hh : jx_H D 158 ad (jc_cell ad aK cA u) A s.heap H locs) {i : Nat} (hi : i < 40) (k : Nat) (hk : k < 6) {v : Value} {u' : js_S} {idx : Nat} {ty : FieldType} (hlink : Cond.fieldLink own idx (F_E k).1 (F_E k).2.1 (F_E k).2.2.1 ∈ jw_all) (hfin : (F_E k).2.2.2 = false) (hd : parseFieldDescriptor (F_E k).2.2.1 = some ty) (hn : narrow ty v = v) (hfit : fits ty v = true) (hset : (jc_fE ad u i).set k v = jc_fE ad u' i) (hoth : ∀ j, j < 158 → j ≠ 118 + i → jc_cell ad aK cA u' j = jc_cell ad aK cA u j) (hdg : decode cc pc = .ok (.putfield idx, 3))
    (kk : ∀ (H1 : Heap) (locs1 : List Loc), jx_H D 158 ad (jc_cell ad aK cA u') A s.heap H1 locs1 → W p l e R s m args below meth c H1 locs1 cells slots Q (F0 m (pc + 3) ls rest)) : W p l e R s m args below meth c H locs cells slots Q (F0 m pc ls (v :: jv ad 118 (nI i) :: rest)) := by
  rw [jv_nI (by omega)]
  refine va_put (fs := jc_fE ad u i) (ci := 4) (C := R_E) (T := F_E) (N := 6) hc.1 hc.2.1 hc.2.2.2.2.1 jn_E t_E t_E_ok n_E hc.2.2.2.1 hc.2.2.2.2.2.1 hh.1 hh.2.1 hh.2.2 (118 + i) (by rw [jx_at (by omega), jc_cE hi]) rfl k hk (hc.2.2.2.2.1 _ hlink) (fun _ h => h) hfin hd hn hfit (show k < 6 from hk) hdg (fun H1 locs1 h1 h2 h3 => kk H1 locs1 ?_)
  have e : (jx_W 158 ad (jc_cell ad aK cA u)).set (118 + i) (ad (118 + i), .inr (4, (jc_fE ad u i).set k v)) = jx_W 158 ad (jc_cell ad aK cA u') := by
    rw [hset, ← jc_cE (ad := ad) (aK := aK) (cA := cA) hi]
    exact jx_set (by omega) hoth
  rw [e] at h1 h2
  exact ⟨h1, h2, h3⟩
theorem jo_21 {v : Int32} : ∀ j, j < 158 → j ≠ 0 → jc_cell ad aK cA (js_up u 21 0 v) j = jc_cell ad aK cA u j := by
  intro j hj hne
  exact jc_cell_eq hj (fun e9 => absurd e9 hne) (fun _ i9 => by simp [js_up]) (fun i9 _ _ => by simp [jc_fA, js_up]) (fun i9 _ _ => by simp [jc_fN, js_up]) (fun i9 _ _ => by simp [jc_fD, js_up]) (fun i9 _ _ => by simp [jc_fE, js_up])
theorem jo_22 {v : Int32} : ∀ j, j < 158 → j ≠ 0 → jc_cell ad aK cA (js_up u 22 0 v) j = jc_cell ad aK cA u j := by
  intro j hj hne
  exact jc_cell_eq hj (fun e9 => absurd e9 hne) (fun _ i9 => by simp [js_up]) (fun i9 _ _ => by simp [jc_fA, js_up]) (fun i9 _ _ => by simp [jc_fN, js_up]) (fun i9 _ _ => by simp [jc_fD, js_up]) (fun i9 _ _ => by simp [jc_fE, js_up])
theorem jo_23 {v : Int32} : ∀ j, j < 158 → j ≠ 0 → jc_cell ad aK cA (js_up u 23 0 v) j = jc_cell ad aK cA u j := by
  intro j hj hne
  exact jc_cell_eq hj (fun e9 => absurd e9 hne) (fun _ i9 => by simp [js_up]) (fun i9 _ _ => by simp [jc_fA, js_up]) (fun i9 _ _ => by simp [jc_fN, js_up]) (fun i9 _ _ => by simp [jc_fD, js_up]) (fun i9 _ _ => by simp [jc_fE, js_up])
theorem jo_24 {v : Int32} : ∀ j, j < 158 → j ≠ 0 → jc_cell ad aK cA (js_up u 24 0 v) j = jc_cell ad aK cA u j := by
  intro j hj hne
  exact jc_cell_eq hj (fun e9 => absurd e9 hne) (fun _ i9 => by simp [js_up]) (fun i9 _ _ => by simp [jc_fA, js_up]) (fun i9 _ _ => by simp [jc_fN, js_up]) (fun i9 _ _ => by simp [jc_fD, js_up]) (fun i9 _ _ => by simp [jc_fE, js_up])
theorem jo_0 {v : Int32} {i : Nat} : ∀ j, j < 158 → j ≠ 6 + i → jc_cell ad aK cA (js_up u 0 i v) j = jc_cell ad aK cA u j := by
  intro j hj hne
  exact jc_cell_eq hj (fun _ => by simp [jc_fJ, js_up]) (fun _ i9 => by simp [js_up]) (fun i9 _ e9 => by have n9 : ¬ i9 = i := (fun q => hne (by omega)); simp [jc_fA, js_up, n9]) (fun i9 _ _ => by simp [jc_fN, js_up]) (fun i9 _ _ => by simp [jc_fD, js_up]) (fun i9 _ _ => by simp [jc_fE, js_up])
theorem jo_1 {v : Int32} {i : Nat} : ∀ j, j < 158 → j ≠ 6 + i → jc_cell ad aK cA (js_up u 1 i v) j = jc_cell ad aK cA u j := by
  intro j hj hne
  exact jc_cell_eq hj (fun _ => by simp [jc_fJ, js_up]) (fun _ i9 => by simp [js_up]) (fun i9 _ e9 => by have n9 : ¬ i9 = i := (fun q => hne (by omega)); simp [jc_fA, js_up, n9]) (fun i9 _ _ => by simp [jc_fN, js_up]) (fun i9 _ _ => by simp [jc_fD, js_up]) (fun i9 _ _ => by simp [jc_fE, js_up])
theorem jo_2 {v : Int32} {i : Nat} : ∀ j, j < 158 → j ≠ 6 + i → jc_cell ad aK cA (js_up u 2 i v) j = jc_cell ad aK cA u j := by
  intro j hj hne
  exact jc_cell_eq hj (fun _ => by simp [jc_fJ, js_up]) (fun _ i9 => by simp [js_up]) (fun i9 _ e9 => by have n9 : ¬ i9 = i := (fun q => hne (by omega)); simp [jc_fA, js_up, n9]) (fun i9 _ _ => by simp [jc_fN, js_up]) (fun i9 _ _ => by simp [jc_fD, js_up]) (fun i9 _ _ => by simp [jc_fE, js_up])
theorem jo_3 {v : Int32} {i : Nat} : ∀ j, j < 158 → j ≠ 6 + i → jc_cell ad aK cA (js_up u 3 i v) j = jc_cell ad aK cA u j := by
  intro j hj hne
  exact jc_cell_eq hj (fun _ => by simp [jc_fJ, js_up]) (fun _ i9 => by simp [js_up]) (fun i9 _ e9 => by have n9 : ¬ i9 = i := (fun q => hne (by omega)); simp [jc_fA, js_up, n9]) (fun i9 _ _ => by simp [jc_fN, js_up]) (fun i9 _ _ => by simp [jc_fD, js_up]) (fun i9 _ _ => by simp [jc_fE, js_up])
theorem jo_4 {v : Int32} {i : Nat} : ∀ j, j < 158 → j ≠ 6 + i → jc_cell ad aK cA (js_up u 4 i v) j = jc_cell ad aK cA u j := by
  intro j hj hne
  exact jc_cell_eq hj (fun _ => by simp [jc_fJ, js_up]) (fun _ i9 => by simp [js_up]) (fun i9 _ e9 => by have n9 : ¬ i9 = i := (fun q => hne (by omega)); simp [jc_fA, js_up, n9]) (fun i9 _ _ => by simp [jc_fN, js_up]) (fun i9 _ _ => by simp [jc_fD, js_up]) (fun i9 _ _ => by simp [jc_fE, js_up])
theorem jo_5 {v : Int32} {i : Nat} : ∀ j, j < 158 → j ≠ 38 + i → jc_cell ad aK cA (js_up u 5 i v) j = jc_cell ad aK cA u j := by
  intro j hj hne
  exact jc_cell_eq hj (fun _ => by simp [jc_fJ, js_up]) (fun _ i9 => by simp [js_up]) (fun i9 _ _ => by simp [jc_fA, js_up]) (fun i9 _ e9 => by have n9 : ¬ i9 = i := (fun q => hne (by omega)); simp [jc_fN, js_up, n9]) (fun i9 _ _ => by simp [jc_fD, js_up]) (fun i9 _ _ => by simp [jc_fE, js_up])
theorem jo_6 {v : Int32} {i : Nat} : ∀ j, j < 158 → j ≠ 38 + i → jc_cell ad aK cA (js_up u 6 i v) j = jc_cell ad aK cA u j := by
  intro j hj hne
  exact jc_cell_eq hj (fun _ => by simp [jc_fJ, js_up]) (fun _ i9 => by simp [js_up]) (fun i9 _ _ => by simp [jc_fA, js_up]) (fun i9 _ e9 => by have n9 : ¬ i9 = i := (fun q => hne (by omega)); simp [jc_fN, js_up, n9]) (fun i9 _ _ => by simp [jc_fD, js_up]) (fun i9 _ _ => by simp [jc_fE, js_up])
theorem jo_7 {v : Int32} {i : Nat} : ∀ j, j < 158 → j ≠ 38 + i → jc_cell ad aK cA (js_up u 7 i v) j = jc_cell ad aK cA u j := by
  intro j hj hne
  exact jc_cell_eq hj (fun _ => by simp [jc_fJ, js_up]) (fun _ i9 => by simp [js_up]) (fun i9 _ _ => by simp [jc_fA, js_up]) (fun i9 _ e9 => by have n9 : ¬ i9 = i := (fun q => hne (by omega)); simp [jc_fN, js_up, n9]) (fun i9 _ _ => by simp [jc_fD, js_up]) (fun i9 _ _ => by simp [jc_fE, js_up])
theorem jo_8 {v : Int32} {i : Nat} : ∀ j, j < 158 → j ≠ 78 + i → jc_cell ad aK cA (js_up u 8 i v) j = jc_cell ad aK cA u j := by
  intro j hj hne
  exact jc_cell_eq hj (fun _ => by simp [jc_fJ, js_up]) (fun _ i9 => by simp [js_up]) (fun i9 _ _ => by simp [jc_fA, js_up]) (fun i9 _ _ => by simp [jc_fN, js_up]) (fun i9 _ e9 => by have n9 : ¬ i9 = i := (fun q => hne (by omega)); simp [jc_fD, js_up, n9]) (fun i9 _ _ => by simp [jc_fE, js_up])
theorem jo_9 {v : Int32} {i : Nat} : ∀ j, j < 158 → j ≠ 78 + i → jc_cell ad aK cA (js_up u 9 i v) j = jc_cell ad aK cA u j := by
  intro j hj hne
  exact jc_cell_eq hj (fun _ => by simp [jc_fJ, js_up]) (fun _ i9 => by simp [js_up]) (fun i9 _ _ => by simp [jc_fA, js_up]) (fun i9 _ _ => by simp [jc_fN, js_up]) (fun i9 _ e9 => by have n9 : ¬ i9 = i := (fun q => hne (by omega)); simp [jc_fD, js_up, n9]) (fun i9 _ _ => by simp [jc_fE, js_up])
theorem jo_10 {v : Int32} {i : Nat} : ∀ j, j < 158 → j ≠ 78 + i → jc_cell ad aK cA (js_up u 10 i v) j = jc_cell ad aK cA u j := by
  intro j hj hne
  exact jc_cell_eq hj (fun _ => by simp [jc_fJ, js_up]) (fun _ i9 => by simp [js_up]) (fun i9 _ _ => by simp [jc_fA, js_up]) (fun i9 _ _ => by simp [jc_fN, js_up]) (fun i9 _ e9 => by have n9 : ¬ i9 = i := (fun q => hne (by omega)); simp [jc_fD, js_up, n9]) (fun i9 _ _ => by simp [jc_fE, js_up])
theorem jo_11 {v : Int32} {i : Nat} : ∀ j, j < 158 → j ≠ 78 + i → jc_cell ad aK cA (js_up u 11 i v) j = jc_cell ad aK cA u j := by
  intro j hj hne
  exact jc_cell_eq hj (fun _ => by simp [jc_fJ, js_up]) (fun _ i9 => by simp [js_up]) (fun i9 _ _ => by simp [jc_fA, js_up]) (fun i9 _ _ => by simp [jc_fN, js_up]) (fun i9 _ e9 => by have n9 : ¬ i9 = i := (fun q => hne (by omega)); simp [jc_fD, js_up, n9]) (fun i9 _ _ => by simp [jc_fE, js_up])
theorem jo_12 {v : Int32} {i : Nat} : ∀ j, j < 158 → j ≠ 78 + i → jc_cell ad aK cA (js_up u 12 i v) j = jc_cell ad aK cA u j := by
  intro j hj hne
  exact jc_cell_eq hj (fun _ => by simp [jc_fJ, js_up]) (fun _ i9 => by simp [js_up]) (fun i9 _ _ => by simp [jc_fA, js_up]) (fun i9 _ _ => by simp [jc_fN, js_up]) (fun i9 _ e9 => by have n9 : ¬ i9 = i := (fun q => hne (by omega)); simp [jc_fD, js_up, n9]) (fun i9 _ _ => by simp [jc_fE, js_up])
theorem jo_13 {v : Int32} {i : Nat} : ∀ j, j < 158 → j ≠ 78 + i → jc_cell ad aK cA (js_up u 13 i v) j = jc_cell ad aK cA u j := by
  intro j hj hne
  exact jc_cell_eq hj (fun _ => by simp [jc_fJ, js_up]) (fun _ i9 => by simp [js_up]) (fun i9 _ _ => by simp [jc_fA, js_up]) (fun i9 _ _ => by simp [jc_fN, js_up]) (fun i9 _ e9 => by have n9 : ¬ i9 = i := (fun q => hne (by omega)); simp [jc_fD, js_up, n9]) (fun i9 _ _ => by simp [jc_fE, js_up])
theorem jo_14 {v : Int32} {i : Nat} : ∀ j, j < 158 → j ≠ 118 + i → jc_cell ad aK cA (js_up u 14 i v) j = jc_cell ad aK cA u j := by
  intro j hj hne
  exact jc_cell_eq hj (fun _ => by simp [jc_fJ, js_up]) (fun _ i9 => by simp [js_up]) (fun i9 _ _ => by simp [jc_fA, js_up]) (fun i9 _ _ => by simp [jc_fN, js_up]) (fun i9 _ _ => by simp [jc_fD, js_up]) (fun i9 _ e9 => by have n9 : ¬ i9 = i := (fun q => hne (by omega)); simp [jc_fE, js_up, n9])
theorem jo_15 {v : Int32} {i : Nat} : ∀ j, j < 158 → j ≠ 118 + i → jc_cell ad aK cA (js_up u 15 i v) j = jc_cell ad aK cA u j := by
  intro j hj hne
  exact jc_cell_eq hj (fun _ => by simp [jc_fJ, js_up]) (fun _ i9 => by simp [js_up]) (fun i9 _ _ => by simp [jc_fA, js_up]) (fun i9 _ _ => by simp [jc_fN, js_up]) (fun i9 _ _ => by simp [jc_fD, js_up]) (fun i9 _ e9 => by have n9 : ¬ i9 = i := (fun q => hne (by omega)); simp [jc_fE, js_up, n9])
theorem jo_16 {v : Int32} {i : Nat} : ∀ j, j < 158 → j ≠ 118 + i → jc_cell ad aK cA (js_up u 16 i v) j = jc_cell ad aK cA u j := by
  intro j hj hne
  exact jc_cell_eq hj (fun _ => by simp [jc_fJ, js_up]) (fun _ i9 => by simp [js_up]) (fun i9 _ _ => by simp [jc_fA, js_up]) (fun i9 _ _ => by simp [jc_fN, js_up]) (fun i9 _ _ => by simp [jc_fD, js_up]) (fun i9 _ e9 => by have n9 : ¬ i9 = i := (fun q => hne (by omega)); simp [jc_fE, js_up, n9])
theorem jo_17 {v : Int32} {i : Nat} : ∀ j, j < 158 → j ≠ 118 + i → jc_cell ad aK cA (js_up u 17 i v) j = jc_cell ad aK cA u j := by
  intro j hj hne
  exact jc_cell_eq hj (fun _ => by simp [jc_fJ, js_up]) (fun _ i9 => by simp [js_up]) (fun i9 _ _ => by simp [jc_fA, js_up]) (fun i9 _ _ => by simp [jc_fN, js_up]) (fun i9 _ _ => by simp [jc_fD, js_up]) (fun i9 _ e9 => by have n9 : ¬ i9 = i := (fun q => hne (by omega)); simp [jc_fE, js_up, n9])
theorem jo_18 {v : Int32} {i : Nat} : ∀ j, j < 158 → j ≠ 118 + i → jc_cell ad aK cA (js_up u 18 i v) j = jc_cell ad aK cA u j := by
  intro j hj hne
  exact jc_cell_eq hj (fun _ => by simp [jc_fJ, js_up]) (fun _ i9 => by simp [js_up]) (fun i9 _ _ => by simp [jc_fA, js_up]) (fun i9 _ _ => by simp [jc_fN, js_up]) (fun i9 _ _ => by simp [jc_fD, js_up]) (fun i9 _ e9 => by have n9 : ¬ i9 = i := (fun q => hne (by omega)); simp [jc_fE, js_up, n9])
theorem jo_19 {v : Int32} {i : Nat} : ∀ j, j < 158 → j ≠ 118 + i → jc_cell ad aK cA (js_up u 19 i v) j = jc_cell ad aK cA u j := by
  intro j hj hne
  exact jc_cell_eq hj (fun _ => by simp [jc_fJ, js_up]) (fun _ i9 => by simp [js_up]) (fun i9 _ _ => by simp [jc_fA, js_up]) (fun i9 _ _ => by simp [jc_fN, js_up]) (fun i9 _ _ => by simp [jc_fD, js_up]) (fun i9 _ e9 => by have n9 : ¬ i9 = i := (fun q => hne (by omega)); simp [jc_fE, js_up, n9])
theorem jp_21 (hc : jx_C p s m args c cc nL own D (jc_tys cA) aK A) (hh : jx_H D 158 ad (jc_cell ad aK cA u) A s.heap H locs) {v : Int32} {idx : Nat} (hlink : Cond.fieldLink own idx (F_J 5).1 (F_J 5).2.1 (F_J 5).2.2.1 ∈ jw_all) (hdg : decode cc pc = .ok (.putfield idx, 3))
    (kk : ∀ (H1 : Heap) (locs1 : List Loc), jx_H D 158 ad (jc_cell ad aK cA (js_up u 21 0 v)) A s.heap H1 locs1 → W p l e R s m args below meth c H1 locs1 cells slots Q (F0 m (pc + 3) ls rest)) : W p l e R s m args below meth c H locs cells slots Q (F0 m pc ls (.int v :: .ref (ad 0) :: rest)) :=
  jp_J hc hh 5 (by omega) (ty := .int) hlink rfl (by decide +kernel) rfl rfl (by simp [jc_fJ, js_up]) jo_21 hdg kk
theorem jp_22 (hc : jx_C p s m args c cc nL own D (jc_tys cA) aK A) (hh : jx_H D 158 ad (jc_cell ad aK cA u) A s.heap H locs) {v : Int32} {idx : Nat} (hlink : Cond.fieldLink own idx (F_J 6).1 (F_J 6).2.1 (F_J 6).2.2.1 ∈ jw_all) (hdg : decode cc pc = .ok (.putfield idx, 3))
    (kk : ∀ (H1 : Heap) (locs1 : List Loc), jx_H D 158 ad (jc_cell ad aK cA (js_up u 22 0 v)) A s.heap H1 locs1 → W p l e R s m args below meth c H1 locs1 cells slots Q (F0 m (pc + 3) ls rest)) : W p l e R s m args below meth c H locs cells slots Q (F0 m pc ls (.int v :: .ref (ad 0) :: rest)) :=
  jp_J hc hh 6 (by omega) (ty := .int) hlink rfl (by decide +kernel) rfl rfl (by simp [jc_fJ, js_up]) jo_22 hdg kk
theorem jp_23 (hc : jx_C p s m args c cc nL own D (jc_tys cA) aK A) (hh : jx_H D 158 ad (jc_cell ad aK cA u) A s.heap H locs) {v : Int32} {idx : Nat} (hlink : Cond.fieldLink own idx (F_J 7).1 (F_J 7).2.1 (F_J 7).2.2.1 ∈ jw_all) (hdg : decode cc pc = .ok (.putfield idx, 3))
    (kk : ∀ (H1 : Heap) (locs1 : List Loc), jx_H D 158 ad (jc_cell ad aK cA (js_up u 23 0 v)) A s.heap H1 locs1 → W p l e R s m args below meth c H1 locs1 cells slots Q (F0 m (pc + 3) ls rest)) : W p l e R s m args below meth c H locs cells slots Q (F0 m pc ls (.int v :: .ref (ad 0) :: rest)) :=
  jp_J hc hh 7 (by omega) (ty := .int) hlink rfl (by decide +kernel) rfl rfl (by simp [jc_fJ, js_up]) jo_23 hdg kk
theorem jp_24 (hc : jx_C p s m args c cc nL own D (jc_tys cA) aK A) (hh : jx_H D 158 ad (jc_cell ad aK cA u) A s.heap H locs) {v : Int32} {idx : Nat} (hlink : Cond.fieldLink own idx (F_J 8).1 (F_J 8).2.1 (F_J 8).2.2.1 ∈ jw_all) (hdg : decode cc pc = .ok (.putfield idx, 3))
    (kk : ∀ (H1 : Heap) (locs1 : List Loc), jx_H D 158 ad (jc_cell ad aK cA (js_up u 24 0 v)) A s.heap H1 locs1 → W p l e R s m args below meth c H1 locs1 cells slots Q (F0 m (pc + 3) ls rest)) : W p l e R s m args below meth c H locs cells slots Q (F0 m pc ls (.int v :: .ref (ad 0) :: rest)) :=
  jp_J hc hh 8 (by omega) (ty := .int) hlink rfl (by decide +kernel) rfl rfl (by simp [jc_fJ, js_up]) jo_24 hdg kk
theorem jp_0 (hc : jx_C p s m args c cc nL own D (jc_tys cA) aK A) (hh : jx_H D 158 ad (jc_cell ad aK cA u) A s.heap H locs) {i : Nat} (hi : i < 32) {v : Int32} {idx : Nat} (hlink : Cond.fieldLink own idx (F_A 0).1 (F_A 0).2.1 (F_A 0).2.2.1 ∈ jw_all) (hdg : decode cc pc = .ok (.putfield idx, 3))
    (kk : ∀ (H1 : Heap) (locs1 : List Loc), jx_H D 158 ad (jc_cell ad aK cA (js_up u 0 i v)) A s.heap H1 locs1 → W p l e R s m args below meth c H1 locs1 cells slots Q (F0 m (pc + 3) ls rest)) : W p l e R s m args below meth c H locs cells slots Q (F0 m pc ls (jv aK 0 v :: jv ad 6 (nI i) :: rest)) :=
  jpx_A hc hh hi 0 (by omega) (ty := .object "JointHistory$Kind") hlink rfl (by decide +kernel) jv_nar jv_fit (by simp [jc_fA, js_up]) jo_0 hdg kk
theorem jpy_0 (hc : jx_C p s m args c cc nL own D (jc_tys cA) aK A) (hh : jx_H D 158 ad (jc_cell ad aK cA u) A s.heap H locs) {x : Int32} (hx : ∃ i, i < 32 ∧ x = nI i) {v : Int32} {idx : Nat} (hlink : Cond.fieldLink own idx (F_A 0).1 (F_A 0).2.1 (F_A 0).2.2.1 ∈ jw_all) (hdg : decode cc pc = .ok (.putfield idx, 3))
    (kk : ∀ (H1 : Heap) (locs1 : List Loc), jx_H D 158 ad (jc_cell ad aK cA (js_up u 0 (ix x) v)) A s.heap H1 locs1 → W p l e R s m args below meth c H1 locs1 cells slots Q (F0 m (pc + 3) ls rest)) : W p l e R s m args below meth c H locs cells slots Q (F0 m pc ls (jv aK 0 v :: jv ad 6 x :: rest)) := by
  obtain ⟨i, hi, rfl⟩ := hx
  rw [ix_nI (by omega)] at kk
  exact jp_0 hc hh hi hlink hdg kk
theorem jp_1 (hc : jx_C p s m args c cc nL own D (jc_tys cA) aK A) (hh : jx_H D 158 ad (jc_cell ad aK cA u) A s.heap H locs) {i : Nat} (hi : i < 32) {v : Int32} {idx : Nat} (hlink : Cond.fieldLink own idx (F_A 1).1 (F_A 1).2.1 (F_A 1).2.2.1 ∈ jw_all) (hdg : decode cc pc = .ok (.putfield idx, 3))
    (kk : ∀ (H1 : Heap) (locs1 : List Loc), jx_H D 158 ad (jc_cell ad aK cA (js_up u 1 i v)) A s.heap H1 locs1 → W p l e R s m args below meth c H1 locs1 cells slots Q (F0 m (pc + 3) ls rest)) : W p l e R s m args below meth c H locs cells slots Q (F0 m pc ls (.int v :: jv ad 6 (nI i) :: rest)) :=
  jpx_A hc hh hi 1 (by omega) (ty := .int) hlink rfl (by decide +kernel) rfl rfl (by simp [jc_fA, js_up]) jo_1 hdg kk
theorem jpy_1 (hc : jx_C p s m args c cc nL own D (jc_tys cA) aK A) (hh : jx_H D 158 ad (jc_cell ad aK cA u) A s.heap H locs) {x : Int32} (hx : ∃ i, i < 32 ∧ x = nI i) {v : Int32} {idx : Nat} (hlink : Cond.fieldLink own idx (F_A 1).1 (F_A 1).2.1 (F_A 1).2.2.1 ∈ jw_all) (hdg : decode cc pc = .ok (.putfield idx, 3))
    (kk : ∀ (H1 : Heap) (locs1 : List Loc), jx_H D 158 ad (jc_cell ad aK cA (js_up u 1 (ix x) v)) A s.heap H1 locs1 → W p l e R s m args below meth c H1 locs1 cells slots Q (F0 m (pc + 3) ls rest)) : W p l e R s m args below meth c H locs cells slots Q (F0 m pc ls (.int v :: jv ad 6 x :: rest)) := by
  obtain ⟨i, hi, rfl⟩ := hx
  rw [ix_nI (by omega)] at kk
  exact jp_1 hc hh hi hlink hdg kk
theorem jp_2 (hc : jx_C p s m args c cc nL own D (jc_tys cA) aK A) (hh : jx_H D 158 ad (jc_cell ad aK cA u) A s.heap H locs) {i : Nat} (hi : i < 32) {v : Int32} {idx : Nat} (hlink : Cond.fieldLink own idx (F_A 2).1 (F_A 2).2.1 (F_A 2).2.2.1 ∈ jw_all) (hdg : decode cc pc = .ok (.putfield idx, 3))
    (kk : ∀ (H1 : Heap) (locs1 : List Loc), jx_H D 158 ad (jc_cell ad aK cA (js_up u 2 i v)) A s.heap H1 locs1 → W p l e R s m args below meth c H1 locs1 cells slots Q (F0 m (pc + 3) ls rest)) : W p l e R s m args below meth c H locs cells slots Q (F0 m pc ls (.int v :: jv ad 6 (nI i) :: rest)) :=
  jpx_A hc hh hi 2 (by omega) (ty := .int) hlink rfl (by decide +kernel) rfl rfl (by simp [jc_fA, js_up]) jo_2 hdg kk
theorem jpy_2 (hc : jx_C p s m args c cc nL own D (jc_tys cA) aK A) (hh : jx_H D 158 ad (jc_cell ad aK cA u) A s.heap H locs) {x : Int32} (hx : ∃ i, i < 32 ∧ x = nI i) {v : Int32} {idx : Nat} (hlink : Cond.fieldLink own idx (F_A 2).1 (F_A 2).2.1 (F_A 2).2.2.1 ∈ jw_all) (hdg : decode cc pc = .ok (.putfield idx, 3))
    (kk : ∀ (H1 : Heap) (locs1 : List Loc), jx_H D 158 ad (jc_cell ad aK cA (js_up u 2 (ix x) v)) A s.heap H1 locs1 → W p l e R s m args below meth c H1 locs1 cells slots Q (F0 m (pc + 3) ls rest)) : W p l e R s m args below meth c H locs cells slots Q (F0 m pc ls (.int v :: jv ad 6 x :: rest)) := by
  obtain ⟨i, hi, rfl⟩ := hx
  rw [ix_nI (by omega)] at kk
  exact jp_2 hc hh hi hlink hdg kk
theorem jp_3 (hc : jx_C p s m args c cc nL own D (jc_tys cA) aK A) (hh : jx_H D 158 ad (jc_cell ad aK cA u) A s.heap H locs) {i : Nat} (hi : i < 32) {v : Int32} (hz : v = 0 ∨ v = 1) {idx : Nat} (hlink : Cond.fieldLink own idx (F_A 3).1 (F_A 3).2.1 (F_A 3).2.2.1 ∈ jw_all) (hdg : decode cc pc = .ok (.putfield idx, 3))
    (kk : ∀ (H1 : Heap) (locs1 : List Loc), jx_H D 158 ad (jc_cell ad aK cA (js_up u 3 i v)) A s.heap H1 locs1 → W p l e R s m args below meth c H1 locs1 cells slots Q (F0 m (pc + 3) ls rest)) : W p l e R s m args below meth c H locs cells slots Q (F0 m pc ls (.int v :: jv ad 6 (nI i) :: rest)) :=
  jpx_A hc hh hi 3 (by omega) (ty := .boolean) hlink rfl (by decide +kernel) (js_nz hz) (by rcases hz with rfl | rfl <;> rfl) (by simp [jc_fA, js_up]) jo_3 hdg kk
theorem jpy_3 (hc : jx_C p s m args c cc nL own D (jc_tys cA) aK A) (hh : jx_H D 158 ad (jc_cell ad aK cA u) A s.heap H locs) {x : Int32} (hx : ∃ i, i < 32 ∧ x = nI i) {v : Int32} (hz : v = 0 ∨ v = 1) {idx : Nat} (hlink : Cond.fieldLink own idx (F_A 3).1 (F_A 3).2.1 (F_A 3).2.2.1 ∈ jw_all) (hdg : decode cc pc = .ok (.putfield idx, 3))
    (kk : ∀ (H1 : Heap) (locs1 : List Loc), jx_H D 158 ad (jc_cell ad aK cA (js_up u 3 (ix x) v)) A s.heap H1 locs1 → W p l e R s m args below meth c H1 locs1 cells slots Q (F0 m (pc + 3) ls rest)) : W p l e R s m args below meth c H locs cells slots Q (F0 m pc ls (.int v :: jv ad 6 x :: rest)) := by
  obtain ⟨i, hi, rfl⟩ := hx
  rw [ix_nI (by omega)] at kk
  exact jp_3 hc hh hi hz hlink hdg kk
theorem jp_4 (hc : jx_C p s m args c cc nL own D (jc_tys cA) aK A) (hh : jx_H D 158 ad (jc_cell ad aK cA u) A s.heap H locs) {i : Nat} (hi : i < 32) {v : Int32} {idx : Nat} (hlink : Cond.fieldLink own idx (F_A 4).1 (F_A 4).2.1 (F_A 4).2.2.1 ∈ jw_all) (hdg : decode cc pc = .ok (.putfield idx, 3))
    (kk : ∀ (H1 : Heap) (locs1 : List Loc), jx_H D 158 ad (jc_cell ad aK cA (js_up u 4 i v)) A s.heap H1 locs1 → W p l e R s m args below meth c H1 locs1 cells slots Q (F0 m (pc + 3) ls rest)) : W p l e R s m args below meth c H locs cells slots Q (F0 m pc ls (.int v :: jv ad 6 (nI i) :: rest)) :=
  jpx_A hc hh hi 4 (by omega) (ty := .int) hlink rfl (by decide +kernel) rfl rfl (by simp [jc_fA, js_up]) jo_4 hdg kk
theorem jpy_4 (hc : jx_C p s m args c cc nL own D (jc_tys cA) aK A) (hh : jx_H D 158 ad (jc_cell ad aK cA u) A s.heap H locs) {x : Int32} (hx : ∃ i, i < 32 ∧ x = nI i) {v : Int32} {idx : Nat} (hlink : Cond.fieldLink own idx (F_A 4).1 (F_A 4).2.1 (F_A 4).2.2.1 ∈ jw_all) (hdg : decode cc pc = .ok (.putfield idx, 3))
    (kk : ∀ (H1 : Heap) (locs1 : List Loc), jx_H D 158 ad (jc_cell ad aK cA (js_up u 4 (ix x) v)) A s.heap H1 locs1 → W p l e R s m args below meth c H1 locs1 cells slots Q (F0 m (pc + 3) ls rest)) : W p l e R s m args below meth c H locs cells slots Q (F0 m pc ls (.int v :: jv ad 6 x :: rest)) := by
  obtain ⟨i, hi, rfl⟩ := hx
  rw [ix_nI (by omega)] at kk
  exact jp_4 hc hh hi hlink hdg kk
theorem jp_5 (hc : jx_C p s m args c cc nL own D (jc_tys cA) aK A) (hh : jx_H D 158 ad (jc_cell ad aK cA u) A s.heap H locs) {i : Nat} (hi : i < 40) {v : Int32} (hz : v = 0 ∨ v = 1) {idx : Nat} (hlink : Cond.fieldLink own idx (F_N 1).1 (F_N 1).2.1 (F_N 1).2.2.1 ∈ jw_all) (hdg : decode cc pc = .ok (.putfield idx, 3))
    (kk : ∀ (H1 : Heap) (locs1 : List Loc), jx_H D 158 ad (jc_cell ad aK cA (js_up u 5 i v)) A s.heap H1 locs1 → W p l e R s m args below meth c H1 locs1 cells slots Q (F0 m (pc + 3) ls rest)) : W p l e R s m args below meth c H locs cells slots Q (F0 m pc ls (.int v :: jv ad 38 (nI i) :: rest)) :=
  jpx_N hc hh hi 1 (by omega) (ty := .boolean) hlink rfl (by decide +kernel) (js_nz hz) (by rcases hz with rfl | rfl <;> rfl) (by simp [jc_fN, js_up]) jo_5 hdg kk
theorem jpy_5 (hc : jx_C p s m args c cc nL own D (jc_tys cA) aK A) (hh : jx_H D 158 ad (jc_cell ad aK cA u) A s.heap H locs) {x : Int32} (hx : ∃ i, i < 40 ∧ x = nI i) {v : Int32} (hz : v = 0 ∨ v = 1) {idx : Nat} (hlink : Cond.fieldLink own idx (F_N 1).1 (F_N 1).2.1 (F_N 1).2.2.1 ∈ jw_all) (hdg : decode cc pc = .ok (.putfield idx, 3))
    (kk : ∀ (H1 : Heap) (locs1 : List Loc), jx_H D 158 ad (jc_cell ad aK cA (js_up u 5 (ix x) v)) A s.heap H1 locs1 → W p l e R s m args below meth c H1 locs1 cells slots Q (F0 m (pc + 3) ls rest)) : W p l e R s m args below meth c H locs cells slots Q (F0 m pc ls (.int v :: jv ad 38 x :: rest)) := by
  obtain ⟨i, hi, rfl⟩ := hx
  rw [ix_nI (by omega)] at kk
  exact jp_5 hc hh hi hz hlink hdg kk
theorem jp_6 (hc : jx_C p s m args c cc nL own D (jc_tys cA) aK A) (hh : jx_H D 158 ad (jc_cell ad aK cA u) A s.heap H locs) {i : Nat} (hi : i < 40) {v : Int32} {idx : Nat} (hlink : Cond.fieldLink own idx (F_N 2).1 (F_N 2).2.1 (F_N 2).2.2.1 ∈ jw_all) (hdg : decode cc pc = .ok (.putfield idx, 3))
    (kk : ∀ (H1 : Heap) (locs1 : List Loc), jx_H D 158 ad (jc_cell ad aK cA (js_up u 6 i v)) A s.heap H1 locs1 → W p l e R s m args below meth c H1 locs1 cells slots Q (F0 m (pc + 3) ls rest)) : W p l e R s m args below meth c H locs cells slots Q (F0 m pc ls (.int v :: jv ad 38 (nI i) :: rest)) :=
  jpx_N hc hh hi 2 (by omega) (ty := .int) hlink rfl (by decide +kernel) rfl rfl (by simp [jc_fN, js_up]) jo_6 hdg kk
theorem jpy_6 (hc : jx_C p s m args c cc nL own D (jc_tys cA) aK A) (hh : jx_H D 158 ad (jc_cell ad aK cA u) A s.heap H locs) {x : Int32} (hx : ∃ i, i < 40 ∧ x = nI i) {v : Int32} {idx : Nat} (hlink : Cond.fieldLink own idx (F_N 2).1 (F_N 2).2.1 (F_N 2).2.2.1 ∈ jw_all) (hdg : decode cc pc = .ok (.putfield idx, 3))
    (kk : ∀ (H1 : Heap) (locs1 : List Loc), jx_H D 158 ad (jc_cell ad aK cA (js_up u 6 (ix x) v)) A s.heap H1 locs1 → W p l e R s m args below meth c H1 locs1 cells slots Q (F0 m (pc + 3) ls rest)) : W p l e R s m args below meth c H locs cells slots Q (F0 m pc ls (.int v :: jv ad 38 x :: rest)) := by
  obtain ⟨i, hi, rfl⟩ := hx
  rw [ix_nI (by omega)] at kk
  exact jp_6 hc hh hi hlink hdg kk
theorem jp_7 (hc : jx_C p s m args c cc nL own D (jc_tys cA) aK A) (hh : jx_H D 158 ad (jc_cell ad aK cA u) A s.heap H locs) {i : Nat} (hi : i < 40) {v : Int32} {idx : Nat} (hlink : Cond.fieldLink own idx (F_N 3).1 (F_N 3).2.1 (F_N 3).2.2.1 ∈ jw_all) (hdg : decode cc pc = .ok (.putfield idx, 3))
    (kk : ∀ (H1 : Heap) (locs1 : List Loc), jx_H D 158 ad (jc_cell ad aK cA (js_up u 7 i v)) A s.heap H1 locs1 → W p l e R s m args below meth c H1 locs1 cells slots Q (F0 m (pc + 3) ls rest)) : W p l e R s m args below meth c H locs cells slots Q (F0 m pc ls (jv ad 78 v :: jv ad 38 (nI i) :: rest)) :=
  jpx_N hc hh hi 3 (by omega) (ty := .object "JointHistory$Document") hlink rfl (by decide +kernel) jv_nar jv_fit (by simp [jc_fN, js_up]) jo_7 hdg kk
theorem jpy_7 (hc : jx_C p s m args c cc nL own D (jc_tys cA) aK A) (hh : jx_H D 158 ad (jc_cell ad aK cA u) A s.heap H locs) {x : Int32} (hx : ∃ i, i < 40 ∧ x = nI i) {v : Int32} {idx : Nat} (hlink : Cond.fieldLink own idx (F_N 3).1 (F_N 3).2.1 (F_N 3).2.2.1 ∈ jw_all) (hdg : decode cc pc = .ok (.putfield idx, 3))
    (kk : ∀ (H1 : Heap) (locs1 : List Loc), jx_H D 158 ad (jc_cell ad aK cA (js_up u 7 (ix x) v)) A s.heap H1 locs1 → W p l e R s m args below meth c H1 locs1 cells slots Q (F0 m (pc + 3) ls rest)) : W p l e R s m args below meth c H locs cells slots Q (F0 m pc ls (jv ad 78 v :: jv ad 38 x :: rest)) := by
  obtain ⟨i, hi, rfl⟩ := hx
  rw [ix_nI (by omega)] at kk
  exact jp_7 hc hh hi hlink hdg kk
theorem jp_8 (hc : jx_C p s m args c cc nL own D (jc_tys cA) aK A) (hh : jx_H D 158 ad (jc_cell ad aK cA u) A s.heap H locs) {i : Nat} (hi : i < 40) {v : Int32} (hz : v = 0 ∨ v = 1) {idx : Nat} (hlink : Cond.fieldLink own idx (F_D 0).1 (F_D 0).2.1 (F_D 0).2.2.1 ∈ jw_all) (hdg : decode cc pc = .ok (.putfield idx, 3))
    (kk : ∀ (H1 : Heap) (locs1 : List Loc), jx_H D 158 ad (jc_cell ad aK cA (js_up u 8 i v)) A s.heap H1 locs1 → W p l e R s m args below meth c H1 locs1 cells slots Q (F0 m (pc + 3) ls rest)) : W p l e R s m args below meth c H locs cells slots Q (F0 m pc ls (.int v :: jv ad 78 (nI i) :: rest)) :=
  jpx_D hc hh hi 0 (by omega) (ty := .boolean) hlink rfl (by decide +kernel) (js_nz hz) (by rcases hz with rfl | rfl <;> rfl) (by simp [jc_fD, js_up]) jo_8 hdg kk
theorem jpy_8 (hc : jx_C p s m args c cc nL own D (jc_tys cA) aK A) (hh : jx_H D 158 ad (jc_cell ad aK cA u) A s.heap H locs) {x : Int32} (hx : ∃ i, i < 40 ∧ x = nI i) {v : Int32} (hz : v = 0 ∨ v = 1) {idx : Nat} (hlink : Cond.fieldLink own idx (F_D 0).1 (F_D 0).2.1 (F_D 0).2.2.1 ∈ jw_all) (hdg : decode cc pc = .ok (.putfield idx, 3))
    (kk : ∀ (H1 : Heap) (locs1 : List Loc), jx_H D 158 ad (jc_cell ad aK cA (js_up u 8 (ix x) v)) A s.heap H1 locs1 → W p l e R s m args below meth c H1 locs1 cells slots Q (F0 m (pc + 3) ls rest)) : W p l e R s m args below meth c H locs cells slots Q (F0 m pc ls (.int v :: jv ad 78 x :: rest)) := by
  obtain ⟨i, hi, rfl⟩ := hx
  rw [ix_nI (by omega)] at kk
  exact jp_8 hc hh hi hz hlink hdg kk
theorem jp_9 (hc : jx_C p s m args c cc nL own D (jc_tys cA) aK A) (hh : jx_H D 158 ad (jc_cell ad aK cA u) A s.heap H locs) {i : Nat} (hi : i < 40) {v : Int32} {idx : Nat} (hlink : Cond.fieldLink own idx (F_D 1).1 (F_D 1).2.1 (F_D 1).2.2.1 ∈ jw_all) (hdg : decode cc pc = .ok (.putfield idx, 3))
    (kk : ∀ (H1 : Heap) (locs1 : List Loc), jx_H D 158 ad (jc_cell ad aK cA (js_up u 9 i v)) A s.heap H1 locs1 → W p l e R s m args below meth c H1 locs1 cells slots Q (F0 m (pc + 3) ls rest)) : W p l e R s m args below meth c H locs cells slots Q (F0 m pc ls (jv ad 38 v :: jv ad 78 (nI i) :: rest)) :=
  jpx_D hc hh hi 1 (by omega) (ty := .object "JointHistory$Navigable") hlink rfl (by decide +kernel) jv_nar jv_fit (by simp [jc_fD, js_up]) jo_9 hdg kk
theorem jpy_9 (hc : jx_C p s m args c cc nL own D (jc_tys cA) aK A) (hh : jx_H D 158 ad (jc_cell ad aK cA u) A s.heap H locs) {x : Int32} (hx : ∃ i, i < 40 ∧ x = nI i) {v : Int32} {idx : Nat} (hlink : Cond.fieldLink own idx (F_D 1).1 (F_D 1).2.1 (F_D 1).2.2.1 ∈ jw_all) (hdg : decode cc pc = .ok (.putfield idx, 3))
    (kk : ∀ (H1 : Heap) (locs1 : List Loc), jx_H D 158 ad (jc_cell ad aK cA (js_up u 9 (ix x) v)) A s.heap H1 locs1 → W p l e R s m args below meth c H1 locs1 cells slots Q (F0 m (pc + 3) ls rest)) : W p l e R s m args below meth c H locs cells slots Q (F0 m pc ls (jv ad 38 v :: jv ad 78 x :: rest)) := by
  obtain ⟨i, hi, rfl⟩ := hx
  rw [ix_nI (by omega)] at kk
  exact jp_9 hc hh hi hlink hdg kk
theorem jp_10 (hc : jx_C p s m args c cc nL own D (jc_tys cA) aK A) (hh : jx_H D 158 ad (jc_cell ad aK cA u) A s.heap H locs) {i : Nat} (hi : i < 40) {v : Int32} {idx : Nat} (hlink : Cond.fieldLink own idx (F_D 2).1 (F_D 2).2.1 (F_D 2).2.2.1 ∈ jw_all) (hdg : decode cc pc = .ok (.putfield idx, 3))
    (kk : ∀ (H1 : Heap) (locs1 : List Loc), jx_H D 158 ad (jc_cell ad aK cA (js_up u 10 i v)) A s.heap H1 locs1 → W p l e R s m args below meth c H1 locs1 cells slots Q (F0 m (pc + 3) ls rest)) : W p l e R s m args below meth c H locs cells slots Q (F0 m pc ls (.int v :: jv ad 78 (nI i) :: rest)) :=
  jpx_D hc hh hi 2 (by omega) (ty := .int) hlink rfl (by decide +kernel) rfl rfl (by simp [jc_fD, js_up]) jo_10 hdg kk
theorem jpy_10 (hc : jx_C p s m args c cc nL own D (jc_tys cA) aK A) (hh : jx_H D 158 ad (jc_cell ad aK cA u) A s.heap H locs) {x : Int32} (hx : ∃ i, i < 40 ∧ x = nI i) {v : Int32} {idx : Nat} (hlink : Cond.fieldLink own idx (F_D 2).1 (F_D 2).2.1 (F_D 2).2.2.1 ∈ jw_all) (hdg : decode cc pc = .ok (.putfield idx, 3))
    (kk : ∀ (H1 : Heap) (locs1 : List Loc), jx_H D 158 ad (jc_cell ad aK cA (js_up u 10 (ix x) v)) A s.heap H1 locs1 → W p l e R s m args below meth c H1 locs1 cells slots Q (F0 m (pc + 3) ls rest)) : W p l e R s m args below meth c H locs cells slots Q (F0 m pc ls (.int v :: jv ad 78 x :: rest)) := by
  obtain ⟨i, hi, rfl⟩ := hx
  rw [ix_nI (by omega)] at kk
  exact jp_10 hc hh hi hlink hdg kk
theorem jp_11 (hc : jx_C p s m args c cc nL own D (jc_tys cA) aK A) (hh : jx_H D 158 ad (jc_cell ad aK cA u) A s.heap H locs) {i : Nat} (hi : i < 40) {v : Int32} (hz : v = 0 ∨ v = 1) {idx : Nat} (hlink : Cond.fieldLink own idx (F_D 3).1 (F_D 3).2.1 (F_D 3).2.2.1 ∈ jw_all) (hdg : decode cc pc = .ok (.putfield idx, 3))
    (kk : ∀ (H1 : Heap) (locs1 : List Loc), jx_H D 158 ad (jc_cell ad aK cA (js_up u 11 i v)) A s.heap H1 locs1 → W p l e R s m args below meth c H1 locs1 cells slots Q (F0 m (pc + 3) ls rest)) : W p l e R s m args below meth c H locs cells slots Q (F0 m pc ls (.int v :: jv ad 78 (nI i) :: rest)) :=
  jpx_D hc hh hi 3 (by omega) (ty := .boolean) hlink rfl (by decide +kernel) (js_nz hz) (by rcases hz with rfl | rfl <;> rfl) (by simp [jc_fD, js_up]) jo_11 hdg kk
theorem jpy_11 (hc : jx_C p s m args c cc nL own D (jc_tys cA) aK A) (hh : jx_H D 158 ad (jc_cell ad aK cA u) A s.heap H locs) {x : Int32} (hx : ∃ i, i < 40 ∧ x = nI i) {v : Int32} (hz : v = 0 ∨ v = 1) {idx : Nat} (hlink : Cond.fieldLink own idx (F_D 3).1 (F_D 3).2.1 (F_D 3).2.2.1 ∈ jw_all) (hdg : decode cc pc = .ok (.putfield idx, 3))
    (kk : ∀ (H1 : Heap) (locs1 : List Loc), jx_H D 158 ad (jc_cell ad aK cA (js_up u 11 (ix x) v)) A s.heap H1 locs1 → W p l e R s m args below meth c H1 locs1 cells slots Q (F0 m (pc + 3) ls rest)) : W p l e R s m args below meth c H locs cells slots Q (F0 m pc ls (.int v :: jv ad 78 x :: rest)) := by
  obtain ⟨i, hi, rfl⟩ := hx
  rw [ix_nI (by omega)] at kk
  exact jp_11 hc hh hi hz hlink hdg kk
theorem jp_12 (hc : jx_C p s m args c cc nL own D (jc_tys cA) aK A) (hh : jx_H D 158 ad (jc_cell ad aK cA u) A s.heap H locs) {i : Nat} (hi : i < 40) {v : Int32} {idx : Nat} (hlink : Cond.fieldLink own idx (F_D 4).1 (F_D 4).2.1 (F_D 4).2.2.1 ∈ jw_all) (hdg : decode cc pc = .ok (.putfield idx, 3))
    (kk : ∀ (H1 : Heap) (locs1 : List Loc), jx_H D 158 ad (jc_cell ad aK cA (js_up u 12 i v)) A s.heap H1 locs1 → W p l e R s m args below meth c H1 locs1 cells slots Q (F0 m (pc + 3) ls rest)) : W p l e R s m args below meth c H locs cells slots Q (F0 m pc ls (jv ad 38 v :: jv ad 78 (nI i) :: rest)) :=
  jpx_D hc hh hi 4 (by omega) (ty := .object "JointHistory$Navigable") hlink rfl (by decide +kernel) jv_nar jv_fit (by simp [jc_fD, js_up]) jo_12 hdg kk
theorem jpy_12 (hc : jx_C p s m args c cc nL own D (jc_tys cA) aK A) (hh : jx_H D 158 ad (jc_cell ad aK cA u) A s.heap H locs) {x : Int32} (hx : ∃ i, i < 40 ∧ x = nI i) {v : Int32} {idx : Nat} (hlink : Cond.fieldLink own idx (F_D 4).1 (F_D 4).2.1 (F_D 4).2.2.1 ∈ jw_all) (hdg : decode cc pc = .ok (.putfield idx, 3))
    (kk : ∀ (H1 : Heap) (locs1 : List Loc), jx_H D 158 ad (jc_cell ad aK cA (js_up u 12 (ix x) v)) A s.heap H1 locs1 → W p l e R s m args below meth c H1 locs1 cells slots Q (F0 m (pc + 3) ls rest)) : W p l e R s m args below meth c H locs cells slots Q (F0 m pc ls (jv ad 38 v :: jv ad 78 x :: rest)) := by
  obtain ⟨i, hi, rfl⟩ := hx
  rw [ix_nI (by omega)] at kk
  exact jp_12 hc hh hi hlink hdg kk
theorem jp_13 (hc : jx_C p s m args c cc nL own D (jc_tys cA) aK A) (hh : jx_H D 158 ad (jc_cell ad aK cA u) A s.heap H locs) {i : Nat} (hi : i < 40) {v : Int32} {idx : Nat} (hlink : Cond.fieldLink own idx (F_D 5).1 (F_D 5).2.1 (F_D 5).2.2.1 ∈ jw_all) (hdg : decode cc pc = .ok (.putfield idx, 3))
    (kk : ∀ (H1 : Heap) (locs1 : List Loc), jx_H D 158 ad (jc_cell ad aK cA (js_up u 13 i v)) A s.heap H1 locs1 → W p l e R s m args below meth c H1 locs1 cells slots Q (F0 m (pc + 3) ls rest)) : W p l e R s m args below meth c H locs cells slots Q (F0 m pc ls (jv ad 38 v :: jv ad 78 (nI i) :: rest)) :=
  jpx_D hc hh hi 5 (by omega) (ty := .object "JointHistory$Navigable") hlink rfl (by decide +kernel) jv_nar jv_fit (by simp [jc_fD, js_up]) jo_13 hdg kk
theorem jpy_13 (hc : jx_C p s m args c cc nL own D (jc_tys cA) aK A) (hh : jx_H D 158 ad (jc_cell ad aK cA u) A s.heap H locs) {x : Int32} (hx : ∃ i, i < 40 ∧ x = nI i) {v : Int32} {idx : Nat} (hlink : Cond.fieldLink own idx (F_D 5).1 (F_D 5).2.1 (F_D 5).2.2.1 ∈ jw_all) (hdg : decode cc pc = .ok (.putfield idx, 3))
    (kk : ∀ (H1 : Heap) (locs1 : List Loc), jx_H D 158 ad (jc_cell ad aK cA (js_up u 13 (ix x) v)) A s.heap H1 locs1 → W p l e R s m args below meth c H1 locs1 cells slots Q (F0 m (pc + 3) ls rest)) : W p l e R s m args below meth c H locs cells slots Q (F0 m pc ls (jv ad 38 v :: jv ad 78 x :: rest)) := by
  obtain ⟨i, hi, rfl⟩ := hx
  rw [ix_nI (by omega)] at kk
  exact jp_13 hc hh hi hlink hdg kk
theorem jp_14 (hc : jx_C p s m args c cc nL own D (jc_tys cA) aK A) (hh : jx_H D 158 ad (jc_cell ad aK cA u) A s.heap H locs) {i : Nat} (hi : i < 40) {v : Int32} (hz : v = 0 ∨ v = 1) {idx : Nat} (hlink : Cond.fieldLink own idx (F_E 0).1 (F_E 0).2.1 (F_E 0).2.2.1 ∈ jw_all) (hdg : decode cc pc = .ok (.putfield idx, 3))
    (kk : ∀ (H1 : Heap) (locs1 : List Loc), jx_H D 158 ad (jc_cell ad aK cA (js_up u 14 i v)) A s.heap H1 locs1 → W p l e R s m args below meth c H1 locs1 cells slots Q (F0 m (pc + 3) ls rest)) : W p l e R s m args below meth c H locs cells slots Q (F0 m pc ls (.int v :: jv ad 118 (nI i) :: rest)) :=
  jpx_E hc hh hi 0 (by omega) (ty := .boolean) hlink rfl (by decide +kernel) (js_nz hz) (by rcases hz with rfl | rfl <;> rfl) (by simp [jc_fE, js_up]) jo_14 hdg kk
theorem jpy_14 (hc : jx_C p s m args c cc nL own D (jc_tys cA) aK A) (hh : jx_H D 158 ad (jc_cell ad aK cA u) A s.heap H locs) {x : Int32} (hx : ∃ i, i < 40 ∧ x = nI i) {v : Int32} (hz : v = 0 ∨ v = 1) {idx : Nat} (hlink : Cond.fieldLink own idx (F_E 0).1 (F_E 0).2.1 (F_E 0).2.2.1 ∈ jw_all) (hdg : decode cc pc = .ok (.putfield idx, 3))
    (kk : ∀ (H1 : Heap) (locs1 : List Loc), jx_H D 158 ad (jc_cell ad aK cA (js_up u 14 (ix x) v)) A s.heap H1 locs1 → W p l e R s m args below meth c H1 locs1 cells slots Q (F0 m (pc + 3) ls rest)) : W p l e R s m args below meth c H locs cells slots Q (F0 m pc ls (.int v :: jv ad 118 x :: rest)) := by
  obtain ⟨i, hi, rfl⟩ := hx
  rw [ix_nI (by omega)] at kk
  exact jp_14 hc hh hi hz hlink hdg kk
theorem jp_15 (hc : jx_C p s m args c cc nL own D (jc_tys cA) aK A) (hh : jx_H D 158 ad (jc_cell ad aK cA u) A s.heap H locs) {i : Nat} (hi : i < 40) {v : Int32} {idx : Nat} (hlink : Cond.fieldLink own idx (F_E 1).1 (F_E 1).2.1 (F_E 1).2.2.1 ∈ jw_all) (hdg : decode cc pc = .ok (.putfield idx, 3))
    (kk : ∀ (H1 : Heap) (locs1 : List Loc), jx_H D 158 ad (jc_cell ad aK cA (js_up u 15 i v)) A s.heap H1 locs1 → W p l e R s m args below meth c H1 locs1 cells slots Q (F0 m (pc + 3) ls rest)) : W p l e R s m args below meth c H locs cells slots Q (F0 m pc ls (jv ad 38 v :: jv ad 118 (nI i) :: rest)) :=
  jpx_E hc hh hi 1 (by omega) (ty := .object "JointHistory$Navigable") hlink rfl (by decide +kernel) jv_nar jv_fit (by simp [jc_fE, js_up]) jo_15 hdg kk
theorem jpy_15 (hc : jx_C p s m args c cc nL own D (jc_tys cA) aK A) (hh : jx_H D 158 ad (jc_cell ad aK cA u) A s.heap H locs) {x : Int32} (hx : ∃ i, i < 40 ∧ x = nI i) {v : Int32} {idx : Nat} (hlink : Cond.fieldLink own idx (F_E 1).1 (F_E 1).2.1 (F_E 1).2.2.1 ∈ jw_all) (hdg : decode cc pc = .ok (.putfield idx, 3))
    (kk : ∀ (H1 : Heap) (locs1 : List Loc), jx_H D 158 ad (jc_cell ad aK cA (js_up u 15 (ix x) v)) A s.heap H1 locs1 → W p l e R s m args below meth c H1 locs1 cells slots Q (F0 m (pc + 3) ls rest)) : W p l e R s m args below meth c H locs cells slots Q (F0 m pc ls (jv ad 38 v :: jv ad 118 x :: rest)) := by
  obtain ⟨i, hi, rfl⟩ := hx
  rw [ix_nI (by omega)] at kk
  exact jp_15 hc hh hi hlink hdg kk
theorem jp_16 (hc : jx_C p s m args c cc nL own D (jc_tys cA) aK A) (hh : jx_H D 158 ad (jc_cell ad aK cA u) A s.heap H locs) {i : Nat} (hi : i < 40) {v : Int32} {idx : Nat} (hlink : Cond.fieldLink own idx (F_E 2).1 (F_E 2).2.1 (F_E 2).2.2.1 ∈ jw_all) (hdg : decode cc pc = .ok (.putfield idx, 3))
    (kk : ∀ (H1 : Heap) (locs1 : List Loc), jx_H D 158 ad (jc_cell ad aK cA (js_up u 16 i v)) A s.heap H1 locs1 → W p l e R s m args below meth c H1 locs1 cells slots Q (F0 m (pc + 3) ls rest)) : W p l e R s m args below meth c H locs cells slots Q (F0 m pc ls (.int v :: jv ad 118 (nI i) :: rest)) :=
  jpx_E hc hh hi 2 (by omega) (ty := .int) hlink rfl (by decide +kernel) rfl rfl (by simp [jc_fE, js_up]) jo_16 hdg kk
theorem jpy_16 (hc : jx_C p s m args c cc nL own D (jc_tys cA) aK A) (hh : jx_H D 158 ad (jc_cell ad aK cA u) A s.heap H locs) {x : Int32} (hx : ∃ i, i < 40 ∧ x = nI i) {v : Int32} {idx : Nat} (hlink : Cond.fieldLink own idx (F_E 2).1 (F_E 2).2.1 (F_E 2).2.2.1 ∈ jw_all) (hdg : decode cc pc = .ok (.putfield idx, 3))
    (kk : ∀ (H1 : Heap) (locs1 : List Loc), jx_H D 158 ad (jc_cell ad aK cA (js_up u 16 (ix x) v)) A s.heap H1 locs1 → W p l e R s m args below meth c H1 locs1 cells slots Q (F0 m (pc + 3) ls rest)) : W p l e R s m args below meth c H locs cells slots Q (F0 m pc ls (.int v :: jv ad 118 x :: rest)) := by
  obtain ⟨i, hi, rfl⟩ := hx
  rw [ix_nI (by omega)] at kk
  exact jp_16 hc hh hi hlink hdg kk
theorem jp_17 (hc : jx_C p s m args c cc nL own D (jc_tys cA) aK A) (hh : jx_H D 158 ad (jc_cell ad aK cA u) A s.heap H locs) {i : Nat} (hi : i < 40) {v : Int32} {idx : Nat} (hlink : Cond.fieldLink own idx (F_E 3).1 (F_E 3).2.1 (F_E 3).2.2.1 ∈ jw_all) (hdg : decode cc pc = .ok (.putfield idx, 3))
    (kk : ∀ (H1 : Heap) (locs1 : List Loc), jx_H D 158 ad (jc_cell ad aK cA (js_up u 17 i v)) A s.heap H1 locs1 → W p l e R s m args below meth c H1 locs1 cells slots Q (F0 m (pc + 3) ls rest)) : W p l e R s m args below meth c H locs cells slots Q (F0 m pc ls (.int v :: jv ad 118 (nI i) :: rest)) :=
  jpx_E hc hh hi 3 (by omega) (ty := .int) hlink rfl (by decide +kernel) rfl rfl (by simp [jc_fE, js_up]) jo_17 hdg kk
theorem jpy_17 (hc : jx_C p s m args c cc nL own D (jc_tys cA) aK A) (hh : jx_H D 158 ad (jc_cell ad aK cA u) A s.heap H locs) {x : Int32} (hx : ∃ i, i < 40 ∧ x = nI i) {v : Int32} {idx : Nat} (hlink : Cond.fieldLink own idx (F_E 3).1 (F_E 3).2.1 (F_E 3).2.2.1 ∈ jw_all) (hdg : decode cc pc = .ok (.putfield idx, 3))
    (kk : ∀ (H1 : Heap) (locs1 : List Loc), jx_H D 158 ad (jc_cell ad aK cA (js_up u 17 (ix x) v)) A s.heap H1 locs1 → W p l e R s m args below meth c H1 locs1 cells slots Q (F0 m (pc + 3) ls rest)) : W p l e R s m args below meth c H locs cells slots Q (F0 m pc ls (.int v :: jv ad 118 x :: rest)) := by
  obtain ⟨i, hi, rfl⟩ := hx
  rw [ix_nI (by omega)] at kk
  exact jp_17 hc hh hi hlink hdg kk
theorem jp_18 (hc : jx_C p s m args c cc nL own D (jc_tys cA) aK A) (hh : jx_H D 158 ad (jc_cell ad aK cA u) A s.heap H locs) {i : Nat} (hi : i < 40) {v : Int32} {idx : Nat} (hlink : Cond.fieldLink own idx (F_E 4).1 (F_E 4).2.1 (F_E 4).2.2.1 ∈ jw_all) (hdg : decode cc pc = .ok (.putfield idx, 3))
    (kk : ∀ (H1 : Heap) (locs1 : List Loc), jx_H D 158 ad (jc_cell ad aK cA (js_up u 18 i v)) A s.heap H1 locs1 → W p l e R s m args below meth c H1 locs1 cells slots Q (F0 m (pc + 3) ls rest)) : W p l e R s m args below meth c H locs cells slots Q (F0 m pc ls (.int v :: jv ad 118 (nI i) :: rest)) :=
  jpx_E hc hh hi 4 (by omega) (ty := .int) hlink rfl (by decide +kernel) rfl rfl (by simp [jc_fE, js_up]) jo_18 hdg kk
theorem jpy_18 (hc : jx_C p s m args c cc nL own D (jc_tys cA) aK A) (hh : jx_H D 158 ad (jc_cell ad aK cA u) A s.heap H locs) {x : Int32} (hx : ∃ i, i < 40 ∧ x = nI i) {v : Int32} {idx : Nat} (hlink : Cond.fieldLink own idx (F_E 4).1 (F_E 4).2.1 (F_E 4).2.2.1 ∈ jw_all) (hdg : decode cc pc = .ok (.putfield idx, 3))
    (kk : ∀ (H1 : Heap) (locs1 : List Loc), jx_H D 158 ad (jc_cell ad aK cA (js_up u 18 (ix x) v)) A s.heap H1 locs1 → W p l e R s m args below meth c H1 locs1 cells slots Q (F0 m (pc + 3) ls rest)) : W p l e R s m args below meth c H locs cells slots Q (F0 m pc ls (.int v :: jv ad 118 x :: rest)) := by
  obtain ⟨i, hi, rfl⟩ := hx
  rw [ix_nI (by omega)] at kk
  exact jp_18 hc hh hi hlink hdg kk
theorem jp_19 (hc : jx_C p s m args c cc nL own D (jc_tys cA) aK A) (hh : jx_H D 158 ad (jc_cell ad aK cA u) A s.heap H locs) {i : Nat} (hi : i < 40) {v : Int32} {idx : Nat} (hlink : Cond.fieldLink own idx (F_E 5).1 (F_E 5).2.1 (F_E 5).2.2.1 ∈ jw_all) (hdg : decode cc pc = .ok (.putfield idx, 3))
    (kk : ∀ (H1 : Heap) (locs1 : List Loc), jx_H D 158 ad (jc_cell ad aK cA (js_up u 19 i v)) A s.heap H1 locs1 → W p l e R s m args below meth c H1 locs1 cells slots Q (F0 m (pc + 3) ls rest)) : W p l e R s m args below meth c H locs cells slots Q (F0 m pc ls (jv ad 78 v :: jv ad 118 (nI i) :: rest)) :=
  jpx_E hc hh hi 5 (by omega) (ty := .object "JointHistory$Document") hlink rfl (by decide +kernel) jv_nar jv_fit (by simp [jc_fE, js_up]) jo_19 hdg kk
theorem jpy_19 (hc : jx_C p s m args c cc nL own D (jc_tys cA) aK A) (hh : jx_H D 158 ad (jc_cell ad aK cA u) A s.heap H locs) {x : Int32} (hx : ∃ i, i < 40 ∧ x = nI i) {v : Int32} {idx : Nat} (hlink : Cond.fieldLink own idx (F_E 5).1 (F_E 5).2.1 (F_E 5).2.2.1 ∈ jw_all) (hdg : decode cc pc = .ok (.putfield idx, 3))
    (kk : ∀ (H1 : Heap) (locs1 : List Loc), jx_H D 158 ad (jc_cell ad aK cA (js_up u 19 (ix x) v)) A s.heap H1 locs1 → W p l e R s m args below meth c H1 locs1 cells slots Q (F0 m (pc + 3) ls rest)) : W p l e R s m args below meth c H locs cells slots Q (F0 m pc ls (jv ad 78 v :: jv ad 118 x :: rest)) := by
  obtain ⟨i, hi, rfl⟩ := hx
  rw [ix_nI (by omega)] at kk
  exact jp_19 hc hh hi hlink hdg kk
theorem ja_A (hc : jx_C p s m args c cc nL own D (jc_tys cA) aK A) (hh : jx_H D 158 ad (jc_cell ad aK cA u) A s.heap H locs) {i : Nat} (hi : i < 32) (hdg : decode cc pc = .ok (.aaload, 1))
    (kk : W p l e R s m args below meth c H locs cells slots Q (F0 m (pc + 1) ls (jv ad 6 (nI i) :: rest))) : W p l e R s m args below meth c H locs cells slots Q (F0 m pc ls (.int (nI i) :: .ref (ad 1) :: rest)) := by
  refine va_aldq (C := "JointHistory$Answer") (cA := cA 0) (n := 32) (f := fun i => some (ad (6 + i))) hc.1 hc.2.1 hc.2.2.2.2.2.1 hh.1 1 0 (by rw [jx_at (by omega), jc_c1]) rfl (vp_in_nI hi (by omega)) hdg ?_
  rw [jv_nI (by omega)] at kk
  rw [show (nI i).toNatClampNeg = i from ix_nI (by omega)]
  exact kk
theorem jax_A (hc : jx_C p s m args c cc nL own D (jc_tys cA) aK A) (hh : jx_H D 158 ad (jc_cell ad aK cA u) A s.heap H locs) {x : Int32} (hx : ∃ i, i < 32 ∧ x = nI i) (hdg : decode cc pc = .ok (.aaload, 1))
    (kk : W p l e R s m args below meth c H locs cells slots Q (F0 m (pc + 1) ls (jv ad 6 x :: rest))) : W p l e R s m args below meth c H locs cells slots Q (F0 m pc ls (.int x :: .ref (ad 1) :: rest)) := by
  obtain ⟨i, hi, rfl⟩ := hx
  exact ja_A hc hh hi hdg kk
theorem jl_A (hc : jx_C p s m args c cc nL own D (jc_tys cA) aK A) (hh : jx_H D 158 ad (jc_cell ad aK cA u) A s.heap H locs) (hdg : decode cc pc = .ok (.arraylength, 1))
    (kk : W p l e R s m args below meth c H locs cells slots Q (F0 m (pc + 1) ls (.int (nI 32) :: rest))) : W p l e R s m args below meth c H locs cells slots Q (F0 m pc ls (.ref (ad 1) :: rest)) :=
  va_alen (cA := cA 0) (x := (32, .inr (.inr (.inr (.inr (fun i => some (ad (6 + i)))))))) (ty := .object "JointHistory$Answer") hc.1 hc.2.1 hc.2.2.2.2.2.1 hh.1 1 0 (by rw [jx_at (by omega), jc_c1]) rfl rfl hdg kk
theorem ja_N (hc : jx_C p s m args c cc nL own D (jc_tys cA) aK A) (hh : jx_H D 158 ad (jc_cell ad aK cA u) A s.heap H locs) {i : Nat} (hi : i < 40) (hdg : decode cc pc = .ok (.aaload, 1))
    (kk : W p l e R s m args below meth c H locs cells slots Q (F0 m (pc + 1) ls (jv ad 38 (nI i) :: rest))) : W p l e R s m args below meth c H locs cells slots Q (F0 m pc ls (.int (nI i) :: .ref (ad 2) :: rest)) := by
  refine va_aldq (C := "JointHistory$Navigable") (cA := cA 1) (n := 40) (f := fun i => some (ad (38 + i))) hc.1 hc.2.1 hc.2.2.2.2.2.1 hh.1 2 1 (by rw [jx_at (by omega), jc_c2]) rfl (vp_in_nI hi (by omega)) hdg ?_
  rw [jv_nI (by omega)] at kk
  rw [show (nI i).toNatClampNeg = i from ix_nI (by omega)]
  exact kk
theorem jax_N (hc : jx_C p s m args c cc nL own D (jc_tys cA) aK A) (hh : jx_H D 158 ad (jc_cell ad aK cA u) A s.heap H locs) {x : Int32} (hx : ∃ i, i < 40 ∧ x = nI i) (hdg : decode cc pc = .ok (.aaload, 1))
    (kk : W p l e R s m args below meth c H locs cells slots Q (F0 m (pc + 1) ls (jv ad 38 x :: rest))) : W p l e R s m args below meth c H locs cells slots Q (F0 m pc ls (.int x :: .ref (ad 2) :: rest)) := by
  obtain ⟨i, hi, rfl⟩ := hx
  exact ja_N hc hh hi hdg kk
theorem jl_N (hc : jx_C p s m args c cc nL own D (jc_tys cA) aK A) (hh : jx_H D 158 ad (jc_cell ad aK cA u) A s.heap H locs) (hdg : decode cc pc = .ok (.arraylength, 1))
    (kk : W p l e R s m args below meth c H locs cells slots Q (F0 m (pc + 1) ls (.int (nI 40) :: rest))) : W p l e R s m args below meth c H locs cells slots Q (F0 m pc ls (.ref (ad 2) :: rest)) :=
  va_alen (cA := cA 1) (x := (40, .inr (.inr (.inr (.inr (fun i => some (ad (38 + i)))))))) (ty := .object "JointHistory$Navigable") hc.1 hc.2.1 hc.2.2.2.2.2.1 hh.1 2 1 (by rw [jx_at (by omega), jc_c2]) rfl rfl hdg kk
theorem ja_D (hc : jx_C p s m args c cc nL own D (jc_tys cA) aK A) (hh : jx_H D 158 ad (jc_cell ad aK cA u) A s.heap H locs) {i : Nat} (hi : i < 40) (hdg : decode cc pc = .ok (.aaload, 1))
    (kk : W p l e R s m args below meth c H locs cells slots Q (F0 m (pc + 1) ls (jv ad 78 (nI i) :: rest))) : W p l e R s m args below meth c H locs cells slots Q (F0 m pc ls (.int (nI i) :: .ref (ad 3) :: rest)) := by
  refine va_aldq (C := "JointHistory$Document") (cA := cA 2) (n := 40) (f := fun i => some (ad (78 + i))) hc.1 hc.2.1 hc.2.2.2.2.2.1 hh.1 3 2 (by rw [jx_at (by omega), jc_c3]) rfl (vp_in_nI hi (by omega)) hdg ?_
  rw [jv_nI (by omega)] at kk
  rw [show (nI i).toNatClampNeg = i from ix_nI (by omega)]
  exact kk
theorem jax_D (hc : jx_C p s m args c cc nL own D (jc_tys cA) aK A) (hh : jx_H D 158 ad (jc_cell ad aK cA u) A s.heap H locs) {x : Int32} (hx : ∃ i, i < 40 ∧ x = nI i) (hdg : decode cc pc = .ok (.aaload, 1))
    (kk : W p l e R s m args below meth c H locs cells slots Q (F0 m (pc + 1) ls (jv ad 78 x :: rest))) : W p l e R s m args below meth c H locs cells slots Q (F0 m pc ls (.int x :: .ref (ad 3) :: rest)) := by
  obtain ⟨i, hi, rfl⟩ := hx
  exact ja_D hc hh hi hdg kk
theorem jl_D (hc : jx_C p s m args c cc nL own D (jc_tys cA) aK A) (hh : jx_H D 158 ad (jc_cell ad aK cA u) A s.heap H locs) (hdg : decode cc pc = .ok (.arraylength, 1))
    (kk : W p l e R s m args below meth c H locs cells slots Q (F0 m (pc + 1) ls (.int (nI 40) :: rest))) : W p l e R s m args below meth c H locs cells slots Q (F0 m pc ls (.ref (ad 3) :: rest)) :=
  va_alen (cA := cA 2) (x := (40, .inr (.inr (.inr (.inr (fun i => some (ad (78 + i)))))))) (ty := .object "JointHistory$Document") hc.1 hc.2.1 hc.2.2.2.2.2.1 hh.1 3 2 (by rw [jx_at (by omega), jc_c3]) rfl rfl hdg kk
theorem ja_E (hc : jx_C p s m args c cc nL own D (jc_tys cA) aK A) (hh : jx_H D 158 ad (jc_cell ad aK cA u) A s.heap H locs) {i : Nat} (hi : i < 40) (hdg : decode cc pc = .ok (.aaload, 1))
    (kk : W p l e R s m args below meth c H locs cells slots Q (F0 m (pc + 1) ls (jv ad 118 (nI i) :: rest))) : W p l e R s m args below meth c H locs cells slots Q (F0 m pc ls (.int (nI i) :: .ref (ad 4) :: rest)) := by
  refine va_aldq (C := "JointHistory$Entry") (cA := cA 3) (n := 40) (f := fun i => some (ad (118 + i))) hc.1 hc.2.1 hc.2.2.2.2.2.1 hh.1 4 3 (by rw [jx_at (by omega), jc_c4]) rfl (vp_in_nI hi (by omega)) hdg ?_
  rw [jv_nI (by omega)] at kk
  rw [show (nI i).toNatClampNeg = i from ix_nI (by omega)]
  exact kk
theorem jax_E (hc : jx_C p s m args c cc nL own D (jc_tys cA) aK A) (hh : jx_H D 158 ad (jc_cell ad aK cA u) A s.heap H locs) {x : Int32} (hx : ∃ i, i < 40 ∧ x = nI i) (hdg : decode cc pc = .ok (.aaload, 1))
    (kk : W p l e R s m args below meth c H locs cells slots Q (F0 m (pc + 1) ls (jv ad 118 x :: rest))) : W p l e R s m args below meth c H locs cells slots Q (F0 m pc ls (.int x :: .ref (ad 4) :: rest)) := by
  obtain ⟨i, hi, rfl⟩ := hx
  exact ja_E hc hh hi hdg kk
theorem jl_E (hc : jx_C p s m args c cc nL own D (jc_tys cA) aK A) (hh : jx_H D 158 ad (jc_cell ad aK cA u) A s.heap H locs) (hdg : decode cc pc = .ok (.arraylength, 1))
    (kk : W p l e R s m args below meth c H locs cells slots Q (F0 m (pc + 1) ls (.int (nI 40) :: rest))) : W p l e R s m args below meth c H locs cells slots Q (F0 m pc ls (.ref (ad 4) :: rest)) :=
  va_alen (cA := cA 3) (x := (40, .inr (.inr (.inr (.inr (fun i => some (ad (118 + i)))))))) (ty := .object "JointHistory$Entry") hc.1 hc.2.1 hc.2.2.2.2.2.1 hh.1 4 3 (by rw [jx_at (by omega), jc_c4]) rfl rfl hdg kk
theorem ja_U (hc : jx_C p s m args c cc nL own D (jc_tys cA) aK A) (hh : jx_H D 158 ad (jc_cell ad aK cA u) A s.heap H locs) {i : Nat} (hi : i < 40) (hdg : decode cc pc = .ok (.iaload, 1))
    (kk : W p l e R s m args below meth c H locs cells slots Q (F0 m (pc + 1) ls (.int (u 20 i) :: rest))) : W p l e R s m args below meth c H locs cells slots Q (F0 m pc ls (.int (nI i) :: .ref (ad 5) :: rest)) := by
  refine va_iald (cA := cA 4) (n := 40) (f := fun i => u 20 i) hc.1 hc.2.1 hc.2.2.2.2.2.1 hh.1 5 4 (by rw [jx_at (by omega), jc_c5]) rfl (vp_in_nI hi (by omega)) hdg ?_
  rw [show (nI i).toNatClampNeg = i from ix_nI (by omega)]
  exact kk
theorem jo_U {v : Int32} {i : Nat} : ∀ j, j < 158 → j ≠ 5 → jc_cell ad aK cA (js_up u 20 i v) j = jc_cell ad aK cA u j := by
  intro j hj hne
  exact jc_cell_eq hj (fun _ => by simp [jc_fJ, js_up]) (fun e9 => absurd e9 hne) (fun i9 _ _ => by simp [jc_fA, js_up]) (fun i9 _ _ => by simp [jc_fN, js_up]) (fun i9 _ _ => by simp [jc_fD, js_up]) (fun i9 _ _ => by simp [jc_fE, js_up])
theorem jp_U (hc : jx_C p s m args c cc nL own D (jc_tys cA) aK A) (hh : jx_H D 158 ad (jc_cell ad aK cA u) A s.heap H locs) {i : Nat} (hi : i < 40) {v : Int32} (hdg : decode cc pc = .ok (.iastore, 1))
    (kk : ∀ (H1 : Heap) (locs1 : List Loc), jx_H D 158 ad (jc_cell ad aK cA (js_up u 20 i v)) A s.heap H1 locs1 → W p l e R s m args below meth c H1 locs1 cells slots Q (F0 m (pc + 1) ls rest)) : W p l e R s m args below meth c H locs cells slots Q (F0 m pc ls (.int v :: .int (nI i) :: .ref (ad 5) :: rest)) := by
  refine va_iast (cA := cA 4) (n := 40) (f := fun i => u 20 i) hc.1 hc.2.1 hc.2.2.2.2.2.1 hh.1 hh.2.1 hh.2.2 5 4 (by rw [jx_at (by omega), jc_c5]) rfl (vp_in_nI hi (by omega)) hdg (fun H1 locs1 h1 h2 h3 => kk H1 locs1 ?_)
  have e : (jx_W 158 ad (jc_cell ad aK cA u)).set 5 (ad 5, .inl (cA 4, 40, .inl (upd (fun i => u 20 i) (nI i).toNatClampNeg v))) = jx_W 158 ad (jc_cell ad aK cA (js_up u 20 i v)) := by
    have e2 : upd (fun i => u 20 i) (nI i).toNatClampNeg v = fun j => js_up u 20 i v 20 j := by
      funext j
      rw [show (nI i).toNatClampNeg = i from ix_nI (by omega)]
      simp [upd, js_up]
    rw [e2, ← jc_c5 (ad := ad) (aK := aK) (cA := cA) (s := js_up u 20 i v)]
    exact jx_set (by omega) jo_U
  rw [e] at h1 h2
  exact ⟨h1, h2, h3⟩
/-- a constant of Kind -/
theorem jk_get (hc : jx_C p s m args c cc nL own D (jc_tys cA) aK A) (hh : jx_H D 158 ad (jc_cell ad aK cA u) A s.heap H locs) {j : Nat} (hj : j < 3) {idx : Nat} (hlink : Cond.fieldLink own idx "JointHistory$Kind" (["CONTENT", "DETOUR", "FAULT"].getD j "") "LJointHistory$Kind;" ∈ jw_all) (hdg : decode cc pc = .ok (.getstatic idx, 3))
    (kk : W p l e R s m args below meth c H locs cells slots Q (F0 m (pc + 3) ls (jv aK 0 (nI j) :: rest))) : W p l e R s m args below meth c H locs cells slots Q (F0 m pc ls rest) := by
  rw [jv_nI (by omega), show 0 + j = j by omega] at kk
  exact va_gets hc.1 hc.2.1 (hc.2.2.2.2.2.2.1.1 j hj).1 hh.2.2 hc.2.2.2.1 (hc.2.2.2.2.1 _ hlink) (fun _ h => h) hdg kk
theorem jk_inj (hc : jx_C p s m args c cc nL own D (jc_tys cA) aK A) : ∀ i j, i < 3 → j < 3 → aK (0 + i) = aK (0 + j) → i = j := by
  intro i j hi hj h
  rw [show 0 + i = i by omega, show 0 + j = j by omega] at h
  exact hc.2.2.2.2.2.2.1.2 i j hi hj h
theorem jd_inj {n off k : Nat} {ce : Nat → va_E} {H0 : Heap} (hh : jx_H D n ad ce A H0 H locs) (h : off + k ≤ n) : ∀ i j, i < k → j < k → ad (off + i) = ad (off + j) → i = j := by
  intro i j hi hj e
  have := jx_inj hh.2.1 (show off + i < n by omega) (show off + j < n by omega) e
  omega
end JACC
