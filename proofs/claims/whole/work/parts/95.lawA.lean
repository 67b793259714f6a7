/-! The law: what holds at its start; its two worlds. -/
theorem lw_in {w : Cond} {i : Nat} (h : tables_1[i]? = some w) : w ∈ lw_tbl := List.mem_append_right _ (List.mem_of_getElem? h)
theorem jw_sub : ∀ w ∈ jw_all, w ∈ lw_tbl := fun w h => (List.mem_filter.mp h).1
theorem lw_iJ : Cond.instantiable "JointHistory" 9 ∈ jw_all := jw_tb (i := 10) rfl rfl
set_option maxRecDepth 20000 in
theorem lw_iM : Cond.instantiable "JointHistoryModel" 26 ∈ jw_all := jw_tb (i := 357) rfl rfl
theorem lw_cJ : Cond.classLink "JointHistoryLaw" 7 "JointHistory" ∈ jw_all := jw_tb (i := 9) rfl rfl
set_option maxRecDepth 20000 in
theorem lw_cM : Cond.classLink "JointHistoryLaw" 10 "JointHistoryModel" ∈ jw_all := jw_tb (i := 356) rfl rfl
theorem lw_nJ : Cond.initialized "JointHistory" ∈ jw_all := jw_tb (i := 1) rfl rfl
theorem lw_nM : Cond.initialized "JointHistoryModel" ∈ jw_all := jw_tb (i := 8) rfl rfl
theorem lw_lJ : Cond.methodLink "JointHistoryLaw" 9 y_J_init ∈ jw_all := jw_tb (i := 11) rfl rfl
theorem lw_sJ : Cond.instanceMethod y_J_init ∈ jw_all := jw_tb (i := 12) rfl rfl
theorem lw_dJ : Cond.code y_J_init b_J_init 2 none ∈ jw_all := jw_tb (i := 13) rfl rfl
set_option maxRecDepth 20000 in
theorem lw_lM : Cond.methodLink "JointHistoryLaw" 12 y_M_init ∈ jw_all := jw_tb (i := 358) rfl rfl
set_option maxRecDepth 20000 in
theorem lw_sM : Cond.instanceMethod y_M_init ∈ jw_all := jw_tb (i := 359) rfl rfl
set_option maxRecDepth 20000 in
theorem lw_dM : Cond.code y_M_init b_M_init 2 none ∈ jw_all := jw_tb (i := 360) rfl rfl
theorem lw_ao {C : String} {args : Array Value} {s : State} (h : (Cond.arrayOver (.object C)).before args s = true) : ∃ c, ArrOfT s c (.object C) ∧ va_RA s c (.object C) := by
  obtain ⟨comp, c, k, h1, h2, h3, h4, h5⟩ := Cond.arrayOver_spec h
  exact ⟨c, fun n z => ⟨fun k h => (by cases h), k, h3, comp, h4⟩, k, comp, h3, h4, h1, h5⟩
theorem lw_ac {ty : FieldType} (hty : ty = .int ∨ ty = .boolean) {args : Array Value} {s : State} (h : (Cond.arrayClass ty).before args s = true) : ∃ c, ArrOfT s c ty ∧ va_RA s c ty := by
  obtain ⟨c, k, comp, h1, h2, h3⟩ := Cond.arrayClass_spec h
  refine ⟨c, fun n z => ⟨fun k h => (by cases h), k, h2, comp, h3⟩, ?_⟩
  rcases hty with rfl | rfl
  · exact h1
  · exact h1
theorem lw_K {args : Array Value} {s : State} (hts : ∀ w ∈ lw_tbl, w.before args s = true) : ∃ (D : va_G) (cA : Nat → ClassId), va_K D classes (jc_tys cA) s := by
  have ht : ∀ w ∈ jw_all, w.before args s = true := fun w h => hts w (jw_sub w h)
  obtain ⟨c0, i0, k0⟩ := u_known ht jn_J (ht _ lw_iJ)
  obtain ⟨c1, i1, k1⟩ := u_known ht jn_A (ht _ wk_iA)
  obtain ⟨c2, i2, k2⟩ := u_known ht jn_N (ht _ wk_iN)
  obtain ⟨c3, i3, k3⟩ := u_known ht jn_D (ht _ wk_iD)
  obtain ⟨c4, i4, k4⟩ := u_known ht jn_E (ht _ wk_iE)
  obtain ⟨c5, i5, k5⟩ := u_known ht jn_M (ht _ lw_iM)
  obtain ⟨t0, q0⟩ := lw_ao (hts _ (lw_in (i := 18) rfl))
  obtain ⟨t1, q1⟩ := lw_ao (hts _ (lw_in (i := 20) rfl))
  obtain ⟨t2, q2⟩ := lw_ao (hts _ (lw_in (i := 22) rfl))
  obtain ⟨t3, q3⟩ := lw_ao (hts _ (lw_in (i := 24) rfl))
  obtain ⟨t4, q4⟩ := lw_ac (Or.inl rfl) (ht _ wk_ai)
  obtain ⟨t5, q5⟩ := lw_ac (Or.inr rfl) (ht _ wk_az)
  refine ⟨(fun c => match c with | 0 => c0 | 1 => c1 | 2 => c2 | 3 => c3 | 4 => c4 | _ => c5, fun c => match c with | 0 => i0 | 1 => i1 | 2 => i2 | 3 => i3 | 4 => i4 | _ => i5), fun c => match c with | 0 => t0 | 1 => t1 | 2 => t2 | 3 => t3 | 4 => t4 | _ => t5, fun c q hq => ?_, fun k q hk => ?_⟩
  · match c, hq with
    | 0, hq => cases hq; exact k0
    | 1, hq => cases hq; exact k1
    | 2, hq => cases hq; exact k2
    | 3, hq => cases hq; exact k3
    | 4, hq => cases hq; exact k4
    | 5, hq => cases hq; exact k5
    | k + 6, hq => simp [classes] at hq
  · match k, hk with
    | 0, hk => cases hk; exact q0
    | 1, hk => cases hk; exact q1
    | 2, hk => cases hk; exact q2
    | 3, hk => cases hk; exact q3
    | 4, hk => cases hk; exact q4
    | 5, hk => cases hk; exact q5
    | k + 6, hk => simp [jc_tys] at hk
theorem lw_Ex {args : Array Value} {s : State} (hts : ∀ w ∈ lw_tbl, w.before args s = true) : jc_Ex s :=
  ⟨va_AO.of (hts _ (lw_in (i := 18) rfl)), va_AO.of (hts _ (lw_in (i := 20) rfl)), va_AO.of (hts _ (lw_in (i := 22) rfl)), va_AO.of (hts _ (lw_in (i := 24) rfl)), va_Nw.of rfl (hts _ (lw_in (i := 26) rfl)), va_Nw.of rfl (hts _ (lw_in (i := 72) rfl)), va_Nw.of rfl (hts _ (lw_in (i := 96) rfl))⟩
theorem lw_En {args : Array Value} {s : State} (hts : ∀ w ∈ lw_tbl, w.before args s = true) (hgv : (Jvm.Cond.and given_1 narrow_1).before args s = true) : ∃ aK : Nat → Nat, jk_En aK (fun q => s.heap.size ≤ q) s s.heap := by
  have hs := flat_of_before _ hgv
  refine va_Enof (args := args) (fun i hi => ?_) (hts _ (lw_in (i := 4) rfl)) (fun i hi => ?_) (fun q hq => absurd hq List.not_mem_nil) (fun i j hi hj hij => ?_) (fun a h => Nat.not_le.mpr h)
  · match i, hi with
    | 0, _ => exact hts _ (lw_in (i := 31) rfl)
    | 1, _ => exact hts _ (lw_in (i := 159) rfl)
    | 2, _ => exact hts _ (lw_in (i := 220) rfl)
    | k + 3, h => simp at h; omega
  · match i, hi with
    | 0, _ => exact hs _ (by decide +kernel)
    | 1, _ => exact hs _ (by decide +kernel)
    | 2, _ => exact hs _ (by decide +kernel)
    | k + 3, h => simp at h; omega
  · match i, j, hi, hj, hij with
    | 0, 0, _, _, h => exact absurd rfl h
    | 0, 1, _, _, _ => exact Or.inl (hs _ (by decide +kernel))
    | 0, 2, _, _, _ => exact Or.inl (hs _ (by decide +kernel))
    | 1, 0, _, _, _ => exact Or.inr (hs _ (by decide +kernel))
    | 1, 1, _, _, h => exact absurd rfl h
    | 1, 2, _, _, _ => exact Or.inl (hs _ (by decide +kernel))
    | 2, 0, _, _, _ => exact Or.inr (hs _ (by decide +kernel))
    | 2, 1, _, _, _ => exact Or.inr (hs _ (by decide +kernel))
    | 2, 2, _, _, h => exact absurd rfl h
    | k + 3, _, h, _, _ => simp at h; omega
    | _, k + 3, _, h, _ => simp at h; omega
/-! cells that a call doesn't touch -/
theorem lw_keep {D : va_G} {n : Nat} {ad : Nat → Nat} {ce : Nat → va_E} {H H1 : Heap} {B : Nat → Prop} (hP : va_P D classes (jx_W n ad ce) H) (hk : ∀ q : Nat, q < H.size → ¬ B q → H1[q]? = H[q]?) (hd : ∀ i, i < n → ¬ B (ad i)) : va_P D classes (jx_W n ad ce) H1 := by
  intro k q hq
  have h := hP k q hq
  obtain ⟨h1, h2⟩ := jx_in hq
  exact h.kept (hk q.1 h.lt (by rw [h2]; exact hd k h1))
theorem lw_lt {D : va_G} {n : Nat} {ad : Nat → Nat} {ce : Nat → va_E} {H : Heap} (hP : va_P D classes (jx_W n ad ce) H) {i : Nat} (hi : i < n) : ad i < H.size := (hP i _ (jx_at hi)).lt
def lw_I (D : va_G) (aK : Nat → Nat) (cA : Nat → ClassId) (adX adM : Nat → Nat) (A : Nat → Prop) (H0 : Heap) (u v : js_S) (H : Heap) (locs : List Loc) : Prop :=
  jx_H D 158 adX (jc_cell adX aK cA u) A H0 H locs ∧ jx_H D 22 adM (jm_cell adM cA v) A H0 H locs ∧ ∀ i j, i < 158 → j < 22 → ¬ adX i = adM j
section LWC
variable {p : Program} {l : Launch} {e : Env} {R : Room} {s : State} {m : MethodId} {args : Array Value} {below : List Frame} {meth : Method} {c : Code} {H : Heap} {locs : List Loc} {cells slots : Nat} {Q : State → Prop} {cc : ByteArray} {pc nL : Nat} {ls : Array Slot} {own : String} {D : va_G} {aK : Nat → Nat} {cA : Nat → ClassId} {adX adM : Nat → Nat} {A : Nat → Prop} {u v : js_S}
theorem lw_callX {ρ : Type} {enc : ρ → Option Value} {post : ρ → js_S → Prop} {y : MethodName} {b : ByteArray} {nL' idx k : Nat} {ret : Option FieldType} {rm : Room} {st : List Value} (As rest : List Value) (hc : jx_C p s m args c cc nL own D (jc_tys cA) aK A) (hI : lw_I D aK cA adX adM A s.heap u v H locs)
    (hM : jx_M l y b nL' ret rm D (jc_tys cA) aK 158 adX (jc_cell adX aK cA) (.ref (adX 0) :: As) u enc post) (hY : jx_YV own idx y b nL' ret k) (hy : classes[0]? = some (y.cls, F_J, 9))
    (hrm : rm.cells = 0 ∧ rm.slots = 0 ∧ rm.frames + 1 ≤ R.frames ∧ 8 + (nL' + 11) + rm.locals ≤ R.locals) (hk : As.length = k) (hls : ls.size = nL) (hst : st = As.reverse ++ .ref (adX 0) :: rest) (hro : (rest.map fun v => v.category).sum ≤ 8) (hcs : cells ≤ R.cells ∧ slots ≤ R.slots) (hdg : decode cc pc = .ok (.invokevirtual idx, 3))
    (kk : ∀ (r : ρ) (u' : js_S) (H1 : Heap) (locs1 : List Loc), post r u' → lw_I D aK cA adX adM A s.heap u' v H1 locs1 → W p l e R s m args below meth c H1 locs1 cells slots Q (F0 m (pc + 3) ls ((enc r).toList ++ rest))) : W p l e R s m args below meth c H locs cells slots Q (F0 m pc ls st) := by
  obtain ⟨h1, h2, h3⟩ := hI
  refine jx_callV As rest hc h1 hM hY ⟨by decide, rfl, hy⟩ hrm hk hls hst hro hcs hdg (fun r u' H1 locs1 hp hh hz hk1 => ?_)
  refine kk r u' H1 locs1 hp ⟨hh, ⟨lw_keep h2.1 hk1 (fun i hi q => ?_), h2.2.1, hh.2.2⟩, h3⟩
  rcases q with ⟨j, hj, e⟩ | q
  · exact h3 j i hj hi e.symm
  · exact absurd (lw_lt h2.1 hi) (Nat.not_lt.mpr q)
theorem lw_callM {ρ : Type} {enc : ρ → Option Value} {post : ρ → js_S → Prop} {y : MethodName} {b : ByteArray} {nL' idx k : Nat} {ret : Option FieldType} {rm : Room} {st : List Value} (As rest : List Value) (hc : jx_C p s m args c cc nL own D (jc_tys cA) aK A) (hI : lw_I D aK cA adX adM A s.heap u v H locs)
    (hM : jx_M l y b nL' ret rm D (jc_tys cA) aK 22 adM (jm_cell adM cA) (.ref (adM 0) :: As) v enc post) (hY : jx_YV own idx y b nL' ret k) (hy : classes[5]? = some (y.cls, F_M, 26))
    (hrm : rm.cells = 0 ∧ rm.slots = 0 ∧ rm.frames + 1 ≤ R.frames ∧ 8 + (nL' + 11) + rm.locals ≤ R.locals) (hk : As.length = k) (hls : ls.size = nL) (hst : st = As.reverse ++ .ref (adM 0) :: rest) (hro : (rest.map fun v => v.category).sum ≤ 8) (hcs : cells ≤ R.cells ∧ slots ≤ R.slots) (hdg : decode cc pc = .ok (.invokevirtual idx, 3))
    (kk : ∀ (r : ρ) (v' : js_S) (H1 : Heap) (locs1 : List Loc), post r v' → lw_I D aK cA adX adM A s.heap u v' H1 locs1 → W p l e R s m args below meth c H1 locs1 cells slots Q (F0 m (pc + 3) ls ((enc r).toList ++ rest))) : W p l e R s m args below meth c H locs cells slots Q (F0 m pc ls st) := by
  obtain ⟨h1, h2, h3⟩ := hI
  refine jx_callV As rest hc h2 hM hY ⟨by decide, rfl, hy⟩ hrm hk hls hst hro hcs hdg (fun r v' H1 locs1 hp hh hz hk1 => ?_)
  refine kk r v' H1 locs1 hp ⟨⟨lw_keep h1.1 hk1 (fun i hi q => ?_), h1.2.1, hh.2.2⟩, hh, h3⟩
  rcases q with ⟨j, hj, e⟩ | q
  · exact h3 i j hi hj e
  · exact absurd (lw_lt h1.1 hi) (Nat.not_lt.mpr q)
/-- behind a constructor -/
theorem lw_goC {G : (Nat → Nat) → Heap → Prop} {st0 rest : List Value} {A0 A1 : Nat → Prop} {H0 : Heap} {free : Addr → Prop} {mc ms : Nat} (hr : va_Run p l e R s m args below meth c H locs cells slots mc ms (F0 m pc ls st0) rest (fun st oc t => (oc = .returned none ∧ ∃ ad : Nat → Nat, G ad t.heap) ∧ va_F A1 st t) free) (hS : va_S A0 H0 H locs) (hA : ∀ q, q < H.size → A1 q → A0 q) (hf : ∀ q, free q → A0 q)
    (kk : ∀ (ad : Nat → Nat) (H1 : Heap) (locs1 : List Loc), G ad H1 → H.size ≤ H1.size → (∀ q : Nat, q < H.size → ¬ A1 q → H1[q]? = H[q]?) → va_S A0 H0 H1 locs1 → W p l e R s m args below meth c H1 locs1 (cells + mc) (slots + ms) Q (F0 m (pc + 3) ls rest)) : W p l e R s m args below meth c H locs cells slots Q (F0 m pc ls st0) := by
  intro T hT X
  obtain ⟨v, st₀, t, T', L, h0, X', hL, e1, e2, ⟨⟨hv, ad, hg⟩, hz, hk⟩, st⟩ := hr T hT X
  cases hv
  rw [h0] at hz hk
  obtain ⟨t2, a1, b1⟩ := kk ad T'.heap (locs ++ L) (by rw [e1]; exact hg) (by rw [e1]; exact hz) (fun q h1 h2 => by rw [e1]; exact hk q h1 h2)
    ⟨Nat.le_trans hS.1 (by rw [e1]; exact hz), fun q h1 h2 => by rw [e1, hk q (Nat.lt_of_lt_of_le h1 hS.1) (fun z => h2 (hA q (Nat.lt_of_lt_of_le h1 hS.1) z))]; exact hS.2.1 q h1 h2, fun q hq => by
      rcases List.mem_append.mp hq with h | h
      · exact hS.2.2 q h
      · exact hf _ (hL q h)⟩ T' rfl X'
  exact ⟨t2, st t2 a1, b1⟩
end LWC
