/-! One kind of world for both classes: n cells at ad 0 .. ad (n - 1), their contents a function of the store; contracts, calls and ends in one form. -/
def jx_W (n : Nat) (ad : Nat → Nat) (ce : Nat → va_E) : va_W := (List.range n).map (fun k => (ad k, ce k))
theorem jx_at {n : Nat} {ad : Nat → Nat} {ce : Nat → va_E} {k : Nat} (h : k < n) : (jx_W n ad ce)[k]? = some (ad k, ce k) := by
  simp [jx_W, h]
theorem jx_in {n : Nat} {ad : Nat → Nat} {ce : Nat → va_E} {k : Nat} {q : Nat × va_E} (h : (jx_W n ad ce)[k]? = some q) : k < n ∧ q = (ad k, ce k) := by
  by_cases hk : k < n
  · rw [jx_at hk] at h
    exact ⟨hk, (Option.some.inj h).symm⟩
  · rw [List.getElem?_eq_none (by simp [jx_W]; omega)] at h
    cases h
theorem jx_set {n : Nat} {ad : Nat → Nat} {ce ce' : Nat → va_E} {k : Nat} (hk : k < n) (h : ∀ j, j < n → j ≠ k → ce' j = ce j) : (jx_W n ad ce).set k (ad k, ce' k) = jx_W n ad ce' := by
  apply List.ext_getElem?
  intro j
  by_cases hj : j < n
  · rw [jx_at hj]
    by_cases hjk : j = k
    · subst hjk
      rw [List.getElem?_set_self (by simp [jx_W]; omega)]
    · rw [List.getElem?_set_ne (Ne.symm hjk), jx_at hj, h j hj hjk]
  · rw [List.getElem?_eq_none (by simp [jx_W]; omega), List.getElem?_eq_none (by simp [jx_W]; omega)]
def jx_A (n : Nat) (ad : Nat → Nat) (sz : Nat) : Nat → Prop := fun q => (∃ k, k < n ∧ q = ad k) ∨ sz ≤ q
theorem jx_D {n : Nat} {ad : Nat → Nat} {ce : Nat → va_E} {A : Nat → Prop} {sz : Nat} (h : va_D A (jx_W n ad ce)) : va_D (jx_A n ad sz) (jx_W n ad ce) :=
  ⟨h.1, fun k q hk => Or.inl ⟨k, (jx_in hk).1, by rw [(jx_in hk).2]⟩⟩
/-- va_D speaks of addresses alone -/
theorem jx_Dce {n : Nat} {ad : Nat → Nat} {ce ce' : Nat → va_E} {A : Nat → Prop} (h : va_D A (jx_W n ad ce)) : va_D A (jx_W n ad ce') := by
  refine ⟨fun i j p q hp hq e => ?_, fun k q hk => ?_⟩
  · obtain ⟨hi, rfl⟩ := jx_in hp
    obtain ⟨hj, rfl⟩ := jx_in hq
    exact h.1 i j (ad i, ce i) (ad j, ce j) (jx_at hi) (jx_at hj) e
  · obtain ⟨hi, rfl⟩ := jx_in hk
    exact h.2 k (ad k, ce k) (jx_at hi)
theorem jx_Aof {n : Nat} {ad : Nat → Nat} {ce : Nat → va_E} {A : Nat → Prop} (h : va_D A (jx_W n ad ce)) {k : Nat} (hk : k < n) : A (ad k) := h.2 k _ (jx_at hk)
theorem jx_inj {n : Nat} {ad : Nat → Nat} {ce : Nat → va_E} {A : Nat → Prop} (h : va_D A (jx_W n ad ce)) {i j : Nat} (hi : i < n) (hj : j < n) (e : ad i = ad j) : i = j := h.1 i j _ _ (jx_at hi) (jx_at hj) e
abbrev jk_En (aK : Nat → Nat) (A : Nat → Prop) (U : State) (H : Heap) : Prop := va_En "JointHistory$Kind" "LJointHistory$Kind;" ["CONTENT", "DETOUR", "FAULT"] [] aK A U H
/-- what stands fast in a method's body -/
def jx_C (p : Program) (s : State) (m : MethodId) (args : Array Value) (c : Code) (cc : ByteArray) (nL : Nat) (own : String) (D : va_G) (tys : List (ClassId × FieldType)) (aK : Nat → Nat) (A : Nat → Prop) : Prop :=
  p.tables.exec = Jvm.exec ∧ c.code = cc ∧ c.maxLocals = nL ∧ s.vm.findClass own = some m.cls ∧ (∀ w ∈ jw_all, w.before args s = true) ∧ va_K D classes tys s ∧ jk_En aK A s s.heap ∧ (∀ q, s.heap.size ≤ q → A q)
/-- the world now -/
def jx_H (D : va_G) (n : Nat) (ad : Nat → Nat) (ce : Nat → va_E) (A : Nat → Prop) (H0 H : Heap) (locs : List Loc) : Prop := va_P D classes (jx_W n ad ce) H ∧ va_D A (jx_W n ad ce) ∧ va_S A H0 H locs
def jx_Qc {ρ : Type} (enc : ρ → Option Value) (post : ρ → js_S → Prop) (D : va_G) (n : Nat) (ad : Nat → Nat) (ce : js_S → Nat → va_E) (A : Nat → Prop) : Array Value → State → Outcome → State → Prop := fun _ st oc t =>
  (∃ (r : ρ) (u : js_S), oc = .returned (enc r) ∧ post r u ∧ va_P D classes (jx_W n ad (ce u)) t.heap) ∧ va_F A st t
def jx_Pc (D : va_G) (tys : List (ClassId × FieldType)) (aK : Nat → Nat) (n : Nat) (ad : Nat → Nat) (ce : Nat → va_E) (sz : Nat) (av : List Value) : Array Value → State → Prop :=
  va_Pc av (fun U => U.heap.size = sz ∧ va_P D classes (jx_W n ad ce) U.heap ∧ va_D (fun _ => True) (jx_W n ad ce) ∧ va_K D classes tys U ∧ jk_En aK (jx_A n ad sz) U U.heap)
def jx_M {ρ : Type} (l : Launch) (y : MethodName) (b : ByteArray) (nL : Nat) (ret : Option FieldType) (rm : Room) (D : va_G) (tys : List (ClassId × FieldType)) (aK : Nat → Nat) (n : Nat) (ad : Nat → Nat) (ce : js_S → Nat → va_E) (av : List Value) (u : js_S) (enc : ρ → Option Value) (post : ρ → js_S → Prop) : Prop :=
  ∀ sz, Met l y (.code y b nL ret :: jw_all) rm (jx_Pc D tys aK n ad (ce u) sz av) (jx_Qc enc post D n ad ce (jx_A n ad sz)) 0 0 (jx_A n ad sz)
/-- room for k calls one in the other -/
def jr (k : Nat) : Room := { frames := k, cells := 0, slots := 0, locals := 40 * k }
theorem jx_enter {ρ : Type} {l : Launch} {y : MethodName} {b : ByteArray} {nL : Nat} {ret : Option FieldType} {rm : Room} {D : va_G} {tys : List (ClassId × FieldType)} {aK : Nat → Nat} {n : Nat} {ad : Nat → Nat} {ce : js_S → Nat → va_E} {av : List Value} {u : js_S} {enc : ρ → Option Value} {post : ρ → js_S → Prop} (own : String)
    (hy : plainName y.cls = true) (ho : y.cls = own) (hn : (lg_sl av).length ≤ nL)
    (body : ∀ (p : Program) (e : Env) (s : State) (m : MethodId) (args : Array Value) (below : List Frame) (meth : Method) (c : Code) (A : Nat → Prop) (Q : State → Prop) (H : Heap) (locs : List Loc) (ls : Array Slot), Q = MQ below (jx_Qc enc post D n ad ce A) args s 0 0 A → jx_C p s m args c b nL own D tys aK A → jx_H D n ad (ce u) A s.heap H locs → meth.sig.returnType = ret → meth.locks = false → lv_has ls nL (lv_args 0 av) →
      W p l e rm s m args below meth c H locs 0 0 Q (F0 m 0 ls [])) : jx_M l y b nL ret rm D tys aK n ad ce av u enc post := by
  intro sz
  refine Met.ofW (cc := b) (maxL := nL) (ret := ret) hy rfl ?_
  intro p e s m args below meth c s₁ B hml hv
  obtain ⟨rfl, hsz, hP, hD0, hK, hE⟩ := hv
  subst hsz
  have hts := atoms_spec (ws := .code y b nL ret :: jw_all) B.pre
  have hown : s.vm.findClass y.cls = some m.cls := findClass_of_methodNamed B.named
  have hl := lv_entry av (n := nL) hn
  rw [lg_entry_eq]
  exact body p e s m _ below meth c (jx_A n ad s.heap.size) _ s.heap [] _ rfl ⟨B.exec, B.bytes, hml, by rw [← ho]; exact hown, fun w hw => hts w (List.mem_cons_of_mem _ hw), hK, hE, fun q hq => Or.inr hq⟩ ⟨hP, jx_D hD0, va_S.rf⟩ B.returns B.notSynchronized hl
section JXR
variable {p : Program} {l : Launch} {e : Env} {R : Room} {s : State} {m : MethodId} {args : Array Value} {below : List Frame} {meth : Method} {c : Code} {H : Heap} {locs : List Loc} {cells slots : Nat} {Q : State → Prop} {cc : ByteArray} {pc nL : Nat} {ls : Array Slot} {rest : List Value} {own : String} {D : va_G} {tys : List (ClassId × FieldType)} {aK : Nat → Nat} {n : Nat} {ad : Nat → Nat} {ce : js_S → Nat → va_E} {A : Nat → Prop} {u : js_S}
theorem jx_iret {ρ : Type} {enc : ρ → Option Value} {post : ρ → js_S → Prop} (hc : jx_C p s m args c cc nL own D tys aK A) (hh : jx_H D n ad (ce u) A s.heap H locs) (hQ : Q = MQ below (jx_Qc enc post D n ad ce A) args s cells slots A) (hlk : meth.locks = false) {r : ρ} {v : Int32} {ty : FieldType} (hr : meth.sig.returnType = some ty) (hn : narrow ty (.int v) = .int v) (he : enc r = some (.int v)) (hp : post r u) (hdg : decode cc pc = .ok (.ireturn, 1)) :
    W p l e R s m args below meth c H locs cells slots Q (F0 m pc ls [.int v]) := by
  subst hQ
  exact W.zret hc.1 hc.2.1 hr hn (fun t ht _ => ⟨⟨r, u, by rw [he], hp, by rw [ht]; exact hh.1⟩, hh.2.2.F ht⟩) hh.2.2.2.2 hdg hlk
theorem jx_lret {ρ : Type} {enc : ρ → Option Value} {post : ρ → js_S → Prop} (hc : jx_C p s m args c cc nL own D tys aK A) (hh : jx_H D n ad (ce u) A s.heap H locs) (hQ : Q = MQ below (jx_Qc enc post D n ad ce A) args s cells slots A) (hlk : meth.locks = false) {r : ρ} {v : Int64} (hr : meth.sig.returnType = some .long) (he : enc r = some (.long v)) (hp : post r u) (hdg : decode cc pc = .ok (.lreturn, 1)) :
    W p l e R s m args below meth c H locs cells slots Q (F0 m pc ls [.long v]) := by
  subst hQ
  exact W.lret hc.1 hc.2.1 hr (fun t ht _ => ⟨⟨r, u, by rw [he], hp, by rw [ht]; exact hh.1⟩, hh.2.2.F ht⟩) hh.2.2.2.2 hdg hlk
theorem jx_vret {ρ : Type} {enc : ρ → Option Value} {post : ρ → js_S → Prop} (hc : jx_C p s m args c cc nL own D tys aK A) (hh : jx_H D n ad (ce u) A s.heap H locs) (hQ : Q = MQ below (jx_Qc enc post D n ad ce A) args s cells slots A) (hlk : meth.locks = false) {r : ρ} (hr : meth.sig.returnType = none) (he : enc r = none) (hp : post r u) (hdg : decode cc pc = .ok (.return_, 1)) :
    W p l e R s m args below meth c H locs cells slots Q (F0 m pc ls []) := by
  subst hQ
  exact W.vret hc.1 hc.2.1 hr (fun t ht _ => ⟨⟨r, u, by rw [he], hp, by rw [ht]; exact hh.1⟩, hh.2.2.F ht⟩) hh.2.2.2.2 hdg hlk
theorem jx_aret {ρ : Type} {enc : ρ → Option Value} {post : ρ → js_S → Prop} (hc : jx_C p s m args c cc nL own D tys aK A) (hh : jx_H D n ad (ce u) A s.heap H locs) (hQ : Q = MQ below (jx_Qc enc post D n ad ce A) args s cells slots A) (hlk : meth.locks = false) {r : ρ} {v : Value} {C : String} (hr : meth.sig.returnType = some (.object C)) (hv : v = .null ∨ ∃ a, v = .ref a) (he : enc r = some v) (hp : post r u) (hdg : decode cc pc = .ok (.areturn, 1)) :
    W p l e R s m args below meth c H locs cells slots Q (F0 m pc ls [v]) := by
  subst hQ
  exact W.aret hc.1 hc.2.1 hr (Or.inl ⟨C, rfl⟩) hv (fun t ht _ => ⟨⟨r, u, by rw [he], hp, by rw [ht]; exact hh.1⟩, hh.2.2.F ht⟩) hh.2.2.2.2 hdg hlk
/-- behind a call of a contract in this form -/
theorem jx_go {ρ : Type} {enc : ρ → Option Value} {post : ρ → js_S → Prop} {st0 : List Value} {a : Array Value} {A0 A1 : Nat → Prop} {H0 : Heap} {free : Addr → Prop} (hr : va_Run p l e R s m args below meth c H locs cells slots 0 0 (F0 m pc ls st0) rest (jx_Qc enc post D n ad ce A1 a) free) (hS : va_S A0 H0 H locs) (hA : ∀ q, q < H.size → A1 q → A0 q) (hf : ∀ q, free q → A0 q)
    (kk : ∀ (r : ρ) (u' : js_S) (H1 : Heap) (locs1 : List Loc), post r u' → va_P D classes (jx_W n ad (ce u')) H1 → H.size ≤ H1.size → (∀ q : Nat, q < H.size → ¬ A1 q → H1[q]? = H[q]?) → va_S A0 H0 H1 locs1 → W p l e R s m args below meth c H1 locs1 cells slots Q (F0 m (pc + 3) ls ((enc r).toList ++ rest))) : W p l e R s m args below meth c H locs cells slots Q (F0 m pc ls st0) := by
  intro T hT X
  obtain ⟨v, st₀, t, T', L, h0, X', hL, e1, e2, ⟨⟨r, u', hv, hp, hb⟩, hz, hk⟩, st⟩ := hr T hT X
  cases hv
  rw [h0] at hz hk
  obtain ⟨t2, a1, b1⟩ := kk r u' T'.heap (locs ++ L) hp (by rw [e1]; exact hb) (by rw [e1]; exact hz) (fun q h1 h2 => by rw [e1]; exact hk q h1 h2)
    ⟨Nat.le_trans hS.1 (by rw [e1]; exact hz), fun q h1 h2 => by rw [e1, hk q (Nat.lt_of_lt_of_le h1 hS.1) (fun z => h2 (hA q (Nat.lt_of_lt_of_le h1 hS.1) z))]; exact hS.2.1 q h1 h2, fun q hq => by
      rcases List.mem_append.mp hq with h | h
      · exact hS.2.2 q h
      · exact hf _ (hL q h)⟩ T' rfl X'
  exact ⟨t2, st t2 a1, b1⟩
end JXR
def jx_Y (own : String) (idx : Nat) (y : MethodName) (b : ByteArray) (nL : Nat) (ret : Option FieldType) (k : Nat) : Prop :=
  Cond.code y b nL ret ∈ jw_all ∧ Cond.methodLink own idx y ∈ jw_all ∧ Cond.initialized y.cls ∈ jw_all ∧ y.cls ≠ "java/lang/invoke/MethodHandle" ∧ y.cls ≠ "java/lang/invoke/VarHandle" ∧ (parseMethodDescriptor y.desc).map (fun d => d.parameters.length) = some k
def jx_YV (own : String) (idx : Nat) (y : MethodName) (b : ByteArray) (nL : Nat) (ret : Option FieldType) (k : Nat) : Prop :=
  jx_Y own idx y b nL ret k ∧ Cond.instanceMethod y ∈ jw_all ∧ Cond.selects y.cls y y ∈ jw_all
def jx_YS (own : String) (idx : Nat) (y : MethodName) (b : ByteArray) (nL : Nat) (ret : Option FieldType) (k : Nat) : Prop :=
  jx_Y own idx y b nL ret k ∧ Cond.static y ∈ jw_all
theorem jx_good {y : MethodName} {b : ByteArray} {nL : Nat} {ret : Option FieldType} (h : Cond.code y b nL ret ∈ jw_all) : GoodIn jw_all (Cond.code y b nL ret :: jw_all) := by
  intro w hw
  rcases List.mem_cons.mp hw with rfl | hw
  · exact ⟨h, jw_good _ h⟩
  · exact ⟨hw, jw_good _ hw⟩
theorem jx_blind {D : va_G} {tys : List (ClassId × FieldType)} {aK : Nat → Nat} {n : Nat} {ad : Nat → Nat} {ce : Nat → va_E} {sz : Nat} {av : List Value} : FrameBlind (jx_Pc D tys aK n ad ce sz av) := by
  intro a U g mk q
  obtain ⟨q0, q1, qP, qD, qK, qE⟩ := q
  exact ⟨q0, q1, qP, qD, va_K.moved (u := U) (U := U.calling g mk a) (Vm.Alike.refl U.vm) qK, va_En.moved (u := U) (U := U.calling g mk a) (Vm.Alike.refl U.vm) qE⟩
section JXC
variable {p : Program} {l : Launch} {e : Env} {R : Room} {s : State} {m : MethodId} {args : Array Value} {below : List Frame} {meth : Method} {c : Code} {H : Heap} {locs : List Loc} {cells slots : Nat} {Q : State → Prop} {cc : ByteArray} {pc nL : Nat} {ls : Array Slot} {own : String} {D : va_G} {tys : List (ClassId × FieldType)} {aK : Nat → Nat} {n : Nat} {ad : Nat → Nat} {ce : js_S → Nat → va_E} {A : Nat → Prop} {u : js_S}
theorem jx_sub (hc : jx_C p s m args c cc nL own D tys aK A) {ce : Nat → va_E} (hh : jx_H D n ad ce A s.heap H locs) : ∀ q, jx_A n ad H.size q → A q := by
  intro q h
  rcases h with ⟨k, hk, rfl⟩ | h
  · exact jx_Aof hh.2.1 hk
  · exact hc.2.2.2.2.2.2.2 q (Nat.le_trans hh.2.2.1 h)
theorem jx_pre (hc : jx_C p s m args c cc nL own D tys aK A) {ce : Nat → va_E} (hh : jx_H D n ad ce A s.heap H locs) {av : List Value} : ∀ U : State, U.heap = H → s.WarmedH U.vm → jx_Pc D tys aK n ad ce H.size av av.toArray U := by
  intro U hU hW
  refine ⟨rfl, by rw [hU], by rw [hU]; exact hh.1, ⟨hh.2.1.1, fun _ _ _ => trivial⟩, va_K.moved hW.alike hc.2.2.2.2.2.1, ?_⟩
  rw [hU]
  exact ((hc.2.2.2.2.2.2.1.kept hh.2.2.2.1).narrow (jx_sub hc hh)).moved hW.alike
theorem jx_callV {ρ : Type} {enc : ρ → Option Value} {post : ρ → js_S → Prop} {y : MethodName} {b : ByteArray} {nL' idx k : Nat} {ret : Option FieldType} {rm : Room} {st : List Value} (As rest : List Value) (hc : jx_C p s m args c cc nL own D tys aK A) (hh : jx_H D n ad (ce u) A s.heap H locs)
    (hM : jx_M l y b nL' ret rm D tys aK n ad ce (.ref (ad 0) :: As) u enc post) (hY : jx_YV own idx y b nL' ret k) {ci N : Nat} {T : u_T} {fs : List Value} (h0 : 0 < n ∧ ce u 0 = .inr (ci, fs) ∧ classes[ci]? = some (y.cls, T, N))
    (hrm : rm.cells = 0 ∧ rm.slots = 0 ∧ rm.frames + 1 ≤ R.frames ∧ 8 + (nL' + 11) + rm.locals ≤ R.locals) (hk : As.length = k) (hls : ls.size = nL) (hst : st = As.reverse ++ .ref (ad 0) :: rest) (hro : (rest.map fun v => v.category).sum ≤ 8) (hcs : cells ≤ R.cells ∧ slots ≤ R.slots) (hdg : decode cc pc = .ok (.invokevirtual idx, 3))
    (kk : ∀ (r : ρ) (u' : js_S) (H1 : Heap) (locs1 : List Loc), post r u' → jx_H D n ad (ce u') A s.heap H1 locs1 → H.size ≤ H1.size → (∀ q : Nat, q < H.size → ¬ jx_A n ad H.size q → H1[q]? = H[q]?) → W p l e R s m args below meth c H1 locs1 cells slots Q (F0 m (pc + 3) ls ((enc r).toList ++ rest))) : W p l e R s m args below meth c H locs cells slots Q (F0 m pc ls st) := by
  subst hst
  obtain ⟨⟨y1, y2, y3, y4, y5, y6⟩, y7, y8⟩ := hY
  have hts := hc.2.2.2.2.1
  have hcell : ∃ cellB : Cell, H[ad 0]? = some cellB ∧ cellB.vm.isStatics = false ∧ s.vm.findClass y.cls = some cellB.cls := by
    obtain ⟨r, h1, cell, q1, q2, q3, q4⟩ := hh.1 0 _ (by rw [jx_at h0.1, h0.2.1])
    obtain ⟨-, hfc, -⟩ := hc.2.2.2.2.2.1.1 ci _ h0.2.2
    exact ⟨cell, q1, by rw [q3]; rfl, by rw [q2]; exact hfc⟩
  refine jx_go (rest := rest) (va_runV (n := k) (C := y.cls) (nL := nL) (Ts := jw_all) (own := own) (As := As) ⟨hc.1, hc.2.1, hc.2.2.1, hc.2.2.2.1, hts⟩ (hM H.size) ⟨callB_of k hts (jx_good y1) rfl hrm.1 hrm.2.1 (hts _ y3) (hts _ y2) ⟨y4, y5, y6⟩ hrm.2.2, hts _ y7, hts _ y8⟩ ⟨jx_blind, hcell, jx_pre hc hh⟩ rfl hk hls rfl (lv_room hro) hdg hcs) hh.2.2 (fun q _ h => jx_sub hc hh q h) (jx_sub hc hh) ?_
  intro r u' H1 locs1 hp hP1 hz hk1 hS1
  exact kk r u' H1 locs1 hp ⟨hP1, jx_Dce hh.2.1, hS1⟩ hz hk1
theorem jx_callS {ρ : Type} {enc : ρ → Option Value} {post : ρ → js_S → Prop} {y : MethodName} {b : ByteArray} {nL' idx k : Nat} {ret : Option FieldType} {rm : Room} {st : List Value} (As rest : List Value) (hc : jx_C p s m args c cc nL own D tys aK A) (hh : jx_H D n ad (ce u) A s.heap H locs)
    (hM : jx_M l y b nL' ret rm D tys aK n ad ce As u enc post) (hY : jx_YS own idx y b nL' ret k)
    (hrm : rm.cells = 0 ∧ rm.slots = 0 ∧ rm.frames + 1 ≤ R.frames ∧ 8 + (nL' + 11) + rm.locals ≤ R.locals) (hk : As.length = k) (hls : ls.size = nL) (hst : st = As.reverse ++ rest) (hro : (rest.map fun v => v.category).sum ≤ 8) (hcs : cells ≤ R.cells ∧ slots ≤ R.slots) (hdg : decode cc pc = .ok (.invokestatic idx, 3))
    (kk : ∀ (r : ρ) (u' : js_S) (H1 : Heap) (locs1 : List Loc), post r u' → jx_H D n ad (ce u') A s.heap H1 locs1 → H.size ≤ H1.size → (∀ q : Nat, q < H.size → ¬ jx_A n ad H.size q → H1[q]? = H[q]?) → W p l e R s m args below meth c H1 locs1 cells slots Q (F0 m (pc + 3) ls ((enc r).toList ++ rest))) : W p l e R s m args below meth c H locs cells slots Q (F0 m pc ls st) := by
  subst hst
  obtain ⟨⟨y1, y2, y3, y4, y5, y6⟩, y7⟩ := hY
  have hts := hc.2.2.2.2.1
  refine jx_go (rest := rest) (va_runS (n := k) (nL := nL) (Ts := jw_all) (own := own) (As := As) ⟨hc.1, hc.2.1, hc.2.2.1, hc.2.2.2.1, hts⟩ (hM H.size) ⟨callB_of k hts (jx_good y1) rfl hrm.1 hrm.2.1 (hts _ y3) (hts _ y2) ⟨y4, y5, y6⟩ hrm.2.2, hts _ y7⟩ ⟨jx_blind, jx_pre hc hh⟩ rfl hk hls rfl (lv_room hro) hdg hcs) hh.2.2 (fun q _ h => jx_sub hc hh q h) (jx_sub hc hh) ?_
  intro r u' H1 locs1 hp hP1 hz hk1 hS1
  exact kk r u' H1 locs1 hp ⟨hP1, jx_Dce hh.2.1, hS1⟩ hz hk1
end JXC
