/-! Growing worlds: one more cell, made by a constructor. -/
theorem jx_push {k : Nat} {ad : Nat → Nat} {ce : Nat → va_E} {q : Nat} {e : va_E} : jx_W k ad ce ++ [(q, e)] = jx_W (k + 1) (va_up ad k q) (va_up ce k e) := by
  unfold jx_W
  rw [List.range_succ, List.map_append]
  congr 1
  · apply List.map_congr_left
    intro j hj
    have := List.mem_range.mp hj
    simp [va_up, show ¬ j = k by omega]
  · simp [va_up]
theorem jx_ext {k : Nat} {ad ad' : Nat → Nat} {ce ce' : Nat → va_E} (h1 : ∀ j, j < k → ad j = ad' j) (h2 : ∀ j, j < k → ce j = ce' j) : jx_W k ad ce = jx_W k ad' ce' := by
  unfold jx_W
  apply List.map_congr_left
  intro j hj
  have := List.mem_range.mp hj
  rw [h1 j this, h2 j this]
theorem jx_last {ws : va_W} {x : Nat × va_E} : (ws ++ [x])[ws.length]? = some x := by simp
theorem jx_one {D : va_G} {ws : va_W} {q : Nat} {A : Nat → Prop} {ce : Nat → va_E} {H0 H : Heap} {locs : List Loc} (hP : va_P D classes (ws ++ [(q, ce 0)]) H) (hD : va_D A (ws ++ [(q, ce 0)])) (hS : va_S A H0 H locs) : jx_H D 1 (fun _ => q) ce A H0 H locs := by
  refine ⟨fun k x hx => ?_, ⟨fun i j x y hx hy _ => ?_, fun k x hx => ?_⟩, hS⟩
  · obtain ⟨h1, rfl⟩ := jx_in hx
    obtain rfl : k = 0 := by omega
    exact hP ws.length _ jx_last
  · obtain ⟨h1, -⟩ := jx_in hx
    obtain ⟨h2, -⟩ := jx_in hy
    omega
  · obtain ⟨h1, rfl⟩ := jx_in hx
    exact hD.2 ws.length (q, ce 0) jx_last
theorem jx_back {D : va_G} {ws : va_W} {q : Nat} {A : Nat → Prop} {e e' : va_E} {H H1 : Heap} (hP : va_P D classes (ws ++ [(q, e)]) H) (hD : va_D A (ws ++ [(q, e)])) (hk : ∀ a : Nat, a < H.size → ¬ jx_A 1 (fun _ => q) H.size a → H1[a]? = H[a]?) (h1 : va_at D classes (q, e') H1) : va_P D classes (ws ++ [(q, e')]) H1 ∧ va_D A (ws ++ [(q, e')]) := by
  constructor
  · refine va_P.app (fun k x hx => ?_) (fun k x hx => ?_)
    · have hkl : k < ws.length := (List.getElem?_eq_some_iff.mp hx).1
      have hx' : (ws ++ [(q, e)])[k]? = some x := by rw [List.getElem?_append_left hkl]; exact hx
      have hlt := (hP k x hx').lt
      refine (hP k x hx').kept (hk x.1 hlt (fun h => ?_))
      rcases h with ⟨_, -, h⟩ | h
      · have := hD.1 k ws.length x (q, e) hx' jx_last h
        omega
      · omega
    · have hkl := (List.getElem?_eq_some_iff.mp hx).1
      obtain rfl : k = 0 := by simpa using hkl
      cases hx
      exact h1
  · refine ⟨fun i j x y hx hy hxy => ?_, fun k x hx => ?_⟩
    · have key : ∀ (k : Nat) (z : Nat × va_E), (ws ++ [(q, e')])[k]? = some z → ∃ z', (ws ++ [(q, e)])[k]? = some z' ∧ z'.1 = z.1 := by
        intro k z hz
        by_cases hkl : k < ws.length
        · rw [List.getElem?_append_left hkl] at hz
          exact ⟨z, by rw [List.getElem?_append_left hkl]; exact hz, rfl⟩
        · rw [List.getElem?_append_right (by omega)] at hz
          have hl := (List.getElem?_eq_some_iff.mp hz).1
          have hk0 : k - ws.length = 0 := by simpa using hl
          rw [hk0] at hz
          cases hz
          exact ⟨(q, e), by rw [List.getElem?_append_right (by omega), hk0]; rfl, rfl⟩
      obtain ⟨x', a1, a2⟩ := key i x hx
      obtain ⟨y', b1, b2⟩ := key j y hy
      exact hD.1 i j x' y' a1 b1 (a2.trans (hxy.trans b2.symm))
    · by_cases hkl : k < ws.length
      · rw [List.getElem?_append_left hkl] at hx
        exact hD.2 k x (by rw [List.getElem?_append_left hkl]; exact hx)
      · rw [List.getElem?_append_right (by omega)] at hx
        have hl := (List.getElem?_eq_some_iff.mp hx).1
        have hk0 : k - ws.length = 0 := by simpa using hl
        rw [hk0] at hx
        cases hx
        exact hD.2 ws.length (q, e) jx_last
section JXK
variable {p : Program} {l : Launch} {e : Env} {R : Room} {s : State} {m : MethodId} {args : Array Value} {below : List Frame} {meth : Method} {c : Code} {H : Heap} {locs : List Loc} {cells slots : Nat} {Q : State → Prop} {cc : ByteArray} {pc nL : Nat} {ls : Array Slot} {own : String} {D : va_G} {tys : List (ClassId × FieldType)} {aK : Nat → Nat} {ce : js_S → Nat → va_E} {A : Nat → Prop} {u : js_S}
theorem jx_ctorN {post : Unit → js_S → Prop} {y : MethodName} {b : ByteArray} {nL' idx k q : Nat} {rm : Room} {st : List Value} {ws : va_W} {host : String} (As rest : List Value) (hc : jx_C p s m args c cc nL own D tys aK A) (hP : va_P D classes (ws ++ [(q, ce u 0)]) H) (hD : va_D A (ws ++ [(q, ce u 0)])) (hS : va_S A s.heap H locs)
    (hM : jx_M l y b nL' none rm D tys aK 1 (fun _ => q) ce (.ref q :: As) u (fun _ : Unit => none) post) (hcode : Cond.code y b nL' none ∈ jw_all) (hnw : va_Nw (.methodLinkNest own idx y host) s) (hini : Cond.initialized y.cls ∈ jw_all) (hins : Cond.instanceMethod y ∈ jw_all) (hy1 : y.name = "<init>")
    (hd : y.cls ≠ "java/lang/invoke/MethodHandle" ∧ y.cls ≠ "java/lang/invoke/VarHandle" ∧ (parseMethodDescriptor y.desc).map (fun d => d.parameters.length) = some k)
    (hrm : rm.cells = 0 ∧ rm.slots = 0 ∧ rm.frames + 1 ≤ R.frames ∧ 8 + (nL' + 11) + rm.locals ≤ R.locals) (hk : As.length = k) (hls : ls.size = nL) (hst : st = As.reverse ++ .ref q :: rest) (hro : (rest.map fun v => v.category).sum ≤ 8) (hcs : cells ≤ R.cells ∧ slots ≤ R.slots) (hdg : decode cc pc = .ok (.invokespecial idx, 3))
    (kk : ∀ (u' : js_S) (H1 : Heap) (locs1 : List Loc), post () u' → va_P D classes (ws ++ [(q, ce u' 0)]) H1 → va_D A (ws ++ [(q, ce u' 0)]) → va_S A s.heap H1 locs1 → W p l e R s m args below meth c H1 locs1 cells slots Q (F0 m (pc + 3) ls rest)) : W p l e R s m args below meth c H locs cells slots Q (F0 m pc ls st) := by
  subst hst
  have hh : jx_H D 1 (fun _ => q) (ce u) A s.heap H locs := jx_one hP hD hS
  have hts := hc.2.2.2.2.1
  refine jx_go (rest := rest) (va_runIN (n := k) (nL := nL) (Ts := jw_all) (own := own) (As := As) ⟨hc.1, hc.2.1, hc.2.2.1, hc.2.2.2.1, hts⟩ (hM H.size) ⟨va_cnB k hts (jx_good hcode) rfl hrm.1 hrm.2.1 hnw (hts _ hini) hd hrm.2.2, hy1, hts _ hins⟩ ⟨jx_blind, jx_pre hc hh⟩ rfl hk hls rfl (lv_room hro) hdg hcs) hS (fun q _ h => jx_sub hc hh q h) (jx_sub hc hh) ?_
  intro r u' H1 locs1 hp hP1 hz hk1 hS1
  obtain ⟨g1, g2⟩ := jx_back (e' := ce u' 0) hP hD hk1 (hP1 0 (q, ce u' 0) rfl)
  exact kk u' H1 locs1 hp g1 g2 hS1
theorem jx_ctorI {post : Unit → js_S → Prop} {y : MethodName} {b : ByteArray} {nL' idx k q : Nat} {rm : Room} {st : List Value} {ws : va_W} (As rest : List Value) (hc : jx_C p s m args c cc nL own D tys aK A) (hP : va_P D classes (ws ++ [(q, ce u 0)]) H) (hD : va_D A (ws ++ [(q, ce u 0)])) (hS : va_S A s.heap H locs)
    (hM : jx_M l y b nL' none rm D tys aK 1 (fun _ => q) ce (.ref q :: As) u (fun _ : Unit => none) post) (hcode : Cond.code y b nL' none ∈ jw_all) (hlk : Cond.methodLink own idx y ∈ jw_all) (hini : Cond.initialized y.cls ∈ jw_all) (hins : Cond.instanceMethod y ∈ jw_all) (hy1 : y.name = "<init>")
    (hd : y.cls ≠ "java/lang/invoke/MethodHandle" ∧ y.cls ≠ "java/lang/invoke/VarHandle" ∧ (parseMethodDescriptor y.desc).map (fun d => d.parameters.length) = some k)
    (hrm : rm.cells = 0 ∧ rm.slots = 0 ∧ rm.frames + 1 ≤ R.frames ∧ 8 + (nL' + 11) + rm.locals ≤ R.locals) (hk : As.length = k) (hls : ls.size = nL) (hst : st = As.reverse ++ .ref q :: rest) (hro : (rest.map fun v => v.category).sum ≤ 8) (hcs : cells ≤ R.cells ∧ slots ≤ R.slots) (hdg : decode cc pc = .ok (.invokespecial idx, 3))
    (kk : ∀ (u' : js_S) (H1 : Heap) (locs1 : List Loc), post () u' → va_P D classes (ws ++ [(q, ce u' 0)]) H1 → va_D A (ws ++ [(q, ce u' 0)]) → va_S A s.heap H1 locs1 → W p l e R s m args below meth c H1 locs1 cells slots Q (F0 m (pc + 3) ls rest)) : W p l e R s m args below meth c H locs cells slots Q (F0 m pc ls st) := by
  subst hst
  have hh : jx_H D 1 (fun _ => q) (ce u) A s.heap H locs := jx_one hP hD hS
  have hts := hc.2.2.2.2.1
  refine jx_go (rest := rest) (va_runI (n := k) (nL := nL) (Ts := jw_all) (own := own) (As := As) ⟨hc.1, hc.2.1, hc.2.2.1, hc.2.2.2.1, hts⟩ (hM H.size) ⟨callB_of k hts (jx_good hcode) rfl hrm.1 hrm.2.1 (hts _ hini) (hts _ hlk) hd hrm.2.2, hy1, hts _ hins⟩ ⟨jx_blind, jx_pre hc hh⟩ rfl hk hls rfl (lv_room hro) hdg hcs) hS (fun q _ h => jx_sub hc hh q h) (jx_sub hc hh) ?_
  intro r u' H1 locs1 hp hP1 hz hk1 hS1
  obtain ⟨g1, g2⟩ := jx_back (e' := ce u' 0) hP hD hk1 (hP1 0 (q, ce u' 0) rfl)
  exact kk u' H1 locs1 hp g1 g2 hS1
end JXK
/-- an array's cell speaks of its places alone -/
theorem jx_arr {cA : ClassId} {n : Nat} {f g : Nat → Option Nat} (h : ∀ j, j < n → f j = g j) : vp_cell cA (n, .inr (.inr (.inr (.inr f)))) = vp_cell cA (n, .inr (.inr (.inr (.inr g)))) := by
  rw [vp_cell_q, vp_cell_q]
  unfold arrV
  congr 2
  funext j
  show va_rf (f j.val) = va_rf (g j.val)
  rw [h j.val j.isLt]
theorem jx_arri {cA : ClassId} {n : Nat} {f g : Nat → Int32} (h : ∀ j, j < n → f j = g j) : vp_cell cA (n, .inl f) = vp_cell cA (n, .inl g) := by
  rw [vp_cell_i, vp_cell_i]
  unfold arrV
  congr 2
  funext j
  show Value.int (f j.val) = Value.int (g j.val)
  rw [h j.val j.isLt]
/-- two array classes of one type are one -/
theorem jx_ty {U : State} {a b : ClassId} {C : String} (h1 : va_RA U a (.object C)) (h2 : va_RA U b (.object C)) : a = b := by
  obtain ⟨_, _, -, -, -, e1⟩ := h1
  obtain ⟨_, _, -, -, -, e2⟩ := h2
  exact Option.some.inj (e1.symm.trans e2)
theorem jx_tyi {U : State} {a b : ClassId} (h1 : va_RA U a .int) (h2 : va_RA U b .int) : a = b := Option.some.inj ((show U.vm.findClass _ = some a from h1).symm.trans h2)
theorem jx_tyz {U : State} {a b : ClassId} (h1 : va_RA U a .boolean) (h2 : va_RA U b .boolean) : a = b := Option.some.inj ((show U.vm.findClass _ = some a from h1).symm.trans h2)
