/-! The walk of JointHistory(). -/
def jc_u1 : js_S := js_up js_new 5 0 1
def jc_ini : js_S := jc_addEntry (jc_load 2 jc_u1 0 (-1) 0) 0 0 (-1) 0 (nI (js_free jc_u1 8 39 0))
def jc_d0 : List Value := [.null, .null, .null, .null, .null, .int 0, .int 0, .int 0, .int 0]
def jr_J : Room := { frames := 13, cells := 157, slots := 992, locals := 520 }
def jc_JP (D : va_G) (aK : Nat → Nat) (cA : Nat → ClassId) (h0 sz : Nat) (U : State) : Prop := U.heap.size = sz ∧ va_P D classes [(h0, .inr (0, jc_d0))] U.heap ∧ va_K D classes (jc_tys cA) U ∧ jk_En aK (jx_A 1 (fun _ => h0) sz) U U.heap ∧ jc_Ex U
def jc_JQ (D : va_G) (aK : Nat → Nat) (cA : Nat → ClassId) (h0 : Nat) (A : Nat → Prop) : Array Value → State → Outcome → State → Prop := fun _ st oc t =>
  (oc = .returned none ∧ ∃ ad : Nat → Nat, ad 0 = h0 ∧ va_P D classes (jx_W 158 ad (jc_cell ad aK cA jc_ini)) t.heap ∧ va_D A (jx_W 158 ad (jc_cell ad aK cA jc_ini))) ∧ va_F A st t
theorem jc_Sh_new : jc_Sh js_new := by
  refine ⟨fun i _ => ⟨⟨0, by omega, rfl⟩, ⟨0, by omega, rfl⟩, Or.inl rfl, Or.inl rfl⟩, fun i _ => ⟨Or.inl rfl, Or.inl rfl, Or.inl rfl, Or.inl rfl, Or.inl rfl, Or.inl rfl⟩, fun i _ h => absurd rfl h, fun i _ h => absurd rfl h⟩
theorem jc_Sh_u1 : jc_Sh jc_u1 := jc_Sh_5 jc_Sh_new
theorem cn_zero {u : js_S} {f : Nat} (h : ∀ i, u f i = 0) : ∀ k, jm_cntF u f k = 0
  | 0 => rfl
  | k + 1 => by
    unfold jm_cntF
    simp [h k, cn_zero h k]
theorem jc_Ow_u1 : jc_Ow 2 jc_u1 0 := ⟨0, by omega, rfl, by decide, rfl⟩
theorem jc_Cp_u1 : jc_Cp jc_u1 (jc_Nn 2) (jc_Dn 2) := by
  refine ⟨by decide, ?_, ?_, ?_⟩
  · unfold jc_u1
    rw [cn_up (by rfl) (by decide) 40 (by omega), cn_zero (fun i => rfl)]
    decide
  · unfold jc_u1
    rw [cn_ne (by decide), cn_zero (fun i => rfl)]
    decide
  · unfold jc_u1
    rw [cn_ne (by decide), cn_zero (fun i => rfl)]
    decide
theorem jc_defA {aK : Nat → Nat} : ∀ j, j < 5 → defaultValue (t_A j) = vp_V (jc_fA aK js_A0 0) j := by
  intro j hj
  match j, hj with
  | 0, _ => exact (jv_null (ad := aK) (off := 0)).symm
  | 1, _ => rfl
  | 2, _ => rfl
  | 3, _ => rfl
  | 4, _ => rfl
  | k + 5, h => omega
theorem jc_defN : ∀ j, j < 4 → defaultValue (t_N j) = vp_V [.int 0, .int 0, .int 0, .null] j := by
  intro j hj
  match j, hj with
  | 0, _ => rfl
  | 1, _ => rfl
  | 2, _ => rfl
  | 3, _ => rfl
  | k + 4, h => omega
theorem jc_defD : ∀ j, j < 6 → defaultValue (t_D j) = vp_V jc_dD j := by
  intro j hj
  match j, hj with
  | 0, _ => rfl
  | 1, _ => rfl
  | 2, _ => rfl
  | 3, _ => rfl
  | 4, _ => rfl
  | 5, _ => rfl
  | k + 6, h => omega
theorem jc_defE : ∀ j, j < 6 → defaultValue (t_E j) = vp_V jc_dE j := by
  intro j hj
  match j, hj with
  | 0, _ => rfl
  | 1, _ => rfl
  | 2, _ => rfl
  | 3, _ => rfl
  | 4, _ => rfl
  | 5, _ => rfl
  | k + 6, h => omega
set_option maxHeartbeats 8000000 in
set_option maxRecDepth 100000 in
theorem c_J_init (l : Launch) (D : va_G) (aK : Nat → Nat) (cA : Nat → ClassId) (h0 sz : Nat) : Met l y_J_init (.code y_J_init b_J_init 2 none :: jw_all) jr_J (va_Pc [.ref h0] (jc_JP D aK cA h0 sz)) (jc_JQ D aK cA h0 (jx_A 1 (fun _ => h0) sz)) 157 992 (jx_A 1 (fun _ => h0) sz) := by
  refine Met.ofW (cc := b_J_init) (maxL := 2) (ret := none) (by decide) rfl ?_
  intro p e s m args below meth c s₁ B hml hv
  obtain ⟨rfl, hsz, hP, hK, hE, hX⟩ := hv
  subst hsz
  have hx := B.exec
  have hb := B.bytes
  have hr := B.returns
  have hts0 := atoms_spec (ws := .code y_J_init b_J_init 2 none :: jw_all) B.pre
  have hts : ∀ w ∈ jw_all, w.before _ s = true := fun w hw => hts0 w (List.mem_cons_of_mem _ hw)
  have hown : s.vm.findClass "JointHistory" = some m.cls := findClass_of_methodNamed B.named
  have hlk := B.notSynchronized
  have hin : meth.name = "<init>" := (name_of_methodNamed B.named B.method).1
  generalize hAe : jx_A 1 (fun _ => h0) s.heap.size = A at hE ⊢
  have hA : ∀ q : Nat, s.heap.size ≤ q → A q := fun q h => by rw [← hAe]; exact Or.inr h
  have hD : va_D A [(h0, .inr (0, jc_d0))] := by
    refine ⟨fun i j x y hx hy _ => ?_, fun k x hx => ?_⟩
    · have h1 := (List.getElem?_eq_some_iff.mp hx).1
      have h2 := (List.getElem?_eq_some_iff.mp hy).1
      simp at h1 h2
      omega
    · have h1 := (List.getElem?_eq_some_iff.mp hx).1
      obtain rfl : k = 0 := by simpa using h1
      cases hx
      rw [← hAe]
      exact Or.inl ⟨0, by omega, rfl⟩
  have hS : va_S A s.heap s.heap [] := va_S.rf
  have hc : jx_C p s m #[Value.ref h0] c b_J_init 2 "JointHistory" D (jc_tys cA) aK A := ⟨hx, hb, hml, hown, hts, hK, hE, hA⟩
  have hl := lv_entry ([.ref h0] : List Value) (n := 2) (Nat.le_of_ble_eq_true rfl)
  rw [lg_entry_eq]
  generalize (lg_sl ([.ref h0] : List Value) ++ List.replicate (2 - (lg_sl ([.ref h0] : List Value)).length) Slot.unset).toArray = ls at hl ⊢
  have hl : lv_has ls 2 [(0, .ref h0)] := hl
  generalize hQ : MQ below (jc_JQ D aK cA h0 A) ([Value.ref h0] : List Value).toArray s 157 992 A = Q
  show W p l e jr_J s m #[Value.ref h0] below meth c s.heap [] 0 0 Q (F0 m 0 ls [])
  refine lv_aload_n hx hb d_J_init_0 rfl (lv_at hl 0 rfl) ?_
  refine W.objInit hx hb hown (hts _ wk_o) (hts _ wo_ins) (hts _ wo_cod) rfl (by rw [hml]; exact hl.1) rfl d_J_init_1 (Nat.le_of_ble_eq_true rfl) (Nat.le_of_ble_eq_true rfl) ?_
  refine W.eq (g2 := F0 m 4 ls []) rfl ?_
  refine lv_aload_n hx hb d_J_init_4 rfl (lv_at hl 0 rfl) ?_
  refine lv_bipush (v := 32) hx hb d_J_init_5 (by decide) ?_
  refine va_newq (C := "JointHistory$Answer") (N' := 32) hx hb hown (hts _ wk_cA) hX.1 hK hP hD hS hA (by decide) (by decide) (by decide) (by decide) (by decide) d_J_init_7 (fun a1 t1 H hK9 hP hD hS => ?_)
  have e1 : t1 = cA 0 := jx_ty (hK9.2 6 _ rfl).2 (hK.2 0 _ rfl).2
  subst e1
  have hP : va_P D classes [(h0, .inr (0, [.null, .null, .null, .null, .null, .int 0, .int 0, .int 0, .int 0])), (a1, jq_arr (cA 0) 32 (fun _ => none))] H := hP
  have hD : va_D A [(h0, .inr (0, [.null, .null, .null, .null, .null, .int 0, .int 0, .int 0, .int 0])), (a1, jq_arr (cA 0) 32 (fun _ => none))] := hD
  refine W.widen (k := 1) (n := 32) (by omega) (by omega) ?_
  refine va_putF (D := D) (ci := 0) (v := .ref a1) (ty := .array (.object "JointHistory$Answer")) (C := R_J) (T := F_J) (N := 9) hx hb hts jn_J t_J t_J_ok n_J hown hK hP hD hS 0 rfl rfl 0 (by decide) (hts _ wf_J_11) (fun _ h9 => h9) rfl hin rfl (by decide +kernel) rfl rfl (Nat.le_of_ble_eq_true rfl) d_J_init_10 (fun H locs hP hD hS => ?_)
  have hP : va_P D classes [(h0, .inr (0, [.ref a1, .null, .null, .null, .null, .int 0, .int 0, .int 0, .int 0])), (a1, jq_arr (cA 0) 32 (fun _ => none))] H := hP
  have hD : va_D A [(h0, .inr (0, [.ref a1, .null, .null, .null, .null, .int 0, .int 0, .int 0, .int 0])), (a1, jq_arr (cA 0) 32 (fun _ => none))] := hD
  refine lv_aload_n hx hb d_J_init_13 rfl (lv_at hl 0 rfl) ?_
  refine lv_bipush (v := 40) hx hb d_J_init_14 (by decide) ?_
  refine va_newq (C := "JointHistory$Navigable") (N' := 40) hx hb hown (hts _ wk_cN) hX.2.1 hK hP hD hS hA (by decide) (by decide) (by decide) (by decide) (by decide) d_J_init_16 (fun a2 t2 H hK9 hP hD hS => ?_)
  have e2 : t2 = cA 1 := jx_ty (hK9.2 6 _ rfl).2 (hK.2 1 _ rfl).2
  subst e2
  have hP : va_P D classes [(h0, .inr (0, [.ref a1, .null, .null, .null, .null, .int 0, .int 0, .int 0, .int 0])), (a1, jq_arr (cA 0) 32 (fun _ => none)), (a2, jq_arr (cA 1) 40 (fun _ => none))] H := hP
  have hD : va_D A [(h0, .inr (0, [.ref a1, .null, .null, .null, .null, .int 0, .int 0, .int 0, .int 0])), (a1, jq_arr (cA 0) 32 (fun _ => none)), (a2, jq_arr (cA 1) 40 (fun _ => none))] := hD
  refine W.widen (k := 2) (n := 72) (by omega) (by omega) ?_
  refine va_putF (D := D) (ci := 0) (v := .ref a2) (ty := .array (.object "JointHistory$Navigable")) (C := R_J) (T := F_J) (N := 9) hx hb hts jn_J t_J t_J_ok n_J hown hK hP hD hS 0 rfl rfl 1 (by decide) (hts _ wf_J_17) (fun _ h9 => h9) rfl hin rfl (by decide +kernel) rfl rfl (Nat.le_of_ble_eq_true rfl) d_J_init_19 (fun H locs hP hD hS => ?_)
  have hP : va_P D classes [(h0, .inr (0, [.ref a1, .ref a2, .null, .null, .null, .int 0, .int 0, .int 0, .int 0])), (a1, jq_arr (cA 0) 32 (fun _ => none)), (a2, jq_arr (cA 1) 40 (fun _ => none))] H := hP
  have hD : va_D A [(h0, .inr (0, [.ref a1, .ref a2, .null, .null, .null, .int 0, .int 0, .int 0, .int 0])), (a1, jq_arr (cA 0) 32 (fun _ => none)), (a2, jq_arr (cA 1) 40 (fun _ => none))] := hD
  refine lv_aload_n hx hb d_J_init_22 rfl (lv_at hl 0 rfl) ?_
  refine lv_bipush (v := 40) hx hb d_J_init_23 (by decide) ?_
  refine va_newq (C := "JointHistory$Document") (N' := 40) hx hb hown (hts _ wk_cD) hX.2.2.1 hK hP hD hS hA (by decide) (by decide) (by decide) (by decide) (by decide) d_J_init_25 (fun a3 t3 H hK9 hP hD hS => ?_)
  have e3 : t3 = cA 2 := jx_ty (hK9.2 6 _ rfl).2 (hK.2 2 _ rfl).2
  subst e3
  have hP : va_P D classes [(h0, .inr (0, [.ref a1, .ref a2, .null, .null, .null, .int 0, .int 0, .int 0, .int 0])), (a1, jq_arr (cA 0) 32 (fun _ => none)), (a2, jq_arr (cA 1) 40 (fun _ => none)), (a3, jq_arr (cA 2) 40 (fun _ => none))] H := hP
  have hD : va_D A [(h0, .inr (0, [.ref a1, .ref a2, .null, .null, .null, .int 0, .int 0, .int 0, .int 0])), (a1, jq_arr (cA 0) 32 (fun _ => none)), (a2, jq_arr (cA 1) 40 (fun _ => none)), (a3, jq_arr (cA 2) 40 (fun _ => none))] := hD
  refine W.widen (k := 3) (n := 112) (by omega) (by omega) ?_
  refine va_putF (D := D) (ci := 0) (v := .ref a3) (ty := .array (.object "JointHistory$Document")) (C := R_J) (T := F_J) (N := 9) hx hb hts jn_J t_J t_J_ok n_J hown hK hP hD hS 0 rfl rfl 2 (by decide) (hts _ wf_J_23) (fun _ h9 => h9) rfl hin rfl (by decide +kernel) rfl rfl (Nat.le_of_ble_eq_true rfl) d_J_init_28 (fun H locs hP hD hS => ?_)
  have hP : va_P D classes [(h0, .inr (0, [.ref a1, .ref a2, .ref a3, .null, .null, .int 0, .int 0, .int 0, .int 0])), (a1, jq_arr (cA 0) 32 (fun _ => none)), (a2, jq_arr (cA 1) 40 (fun _ => none)), (a3, jq_arr (cA 2) 40 (fun _ => none))] H := hP
  have hD : va_D A [(h0, .inr (0, [.ref a1, .ref a2, .ref a3, .null, .null, .int 0, .int 0, .int 0, .int 0])), (a1, jq_arr (cA 0) 32 (fun _ => none)), (a2, jq_arr (cA 1) 40 (fun _ => none)), (a3, jq_arr (cA 2) 40 (fun _ => none))] := hD
  refine lv_aload_n hx hb d_J_init_31 rfl (lv_at hl 0 rfl) ?_
  refine lv_bipush (v := 40) hx hb d_J_init_32 (by decide) ?_
  refine va_newq (C := "JointHistory$Entry") (N' := 40) hx hb hown (hts _ wk_cE) hX.2.2.2.1 hK hP hD hS hA (by decide) (by decide) (by decide) (by decide) (by decide) d_J_init_34 (fun a4 t4 H hK9 hP hD hS => ?_)
  have e4 : t4 = cA 3 := jx_ty (hK9.2 6 _ rfl).2 (hK.2 3 _ rfl).2
  subst e4
  have hP : va_P D classes [(h0, .inr (0, [.ref a1, .ref a2, .ref a3, .null, .null, .int 0, .int 0, .int 0, .int 0])), (a1, jq_arr (cA 0) 32 (fun _ => none)), (a2, jq_arr (cA 1) 40 (fun _ => none)), (a3, jq_arr (cA 2) 40 (fun _ => none)), (a4, jq_arr (cA 3) 40 (fun _ => none))] H := hP
  have hD : va_D A [(h0, .inr (0, [.ref a1, .ref a2, .ref a3, .null, .null, .int 0, .int 0, .int 0, .int 0])), (a1, jq_arr (cA 0) 32 (fun _ => none)), (a2, jq_arr (cA 1) 40 (fun _ => none)), (a3, jq_arr (cA 2) 40 (fun _ => none)), (a4, jq_arr (cA 3) 40 (fun _ => none))] := hD
  refine W.widen (k := 4) (n := 152) (by omega) (by omega) ?_
  refine va_putF (D := D) (ci := 0) (v := .ref a4) (ty := .array (.object "JointHistory$Entry")) (C := R_J) (T := F_J) (N := 9) hx hb hts jn_J t_J t_J_ok n_J hown hK hP hD hS 0 rfl rfl 3 (by decide) (hts _ wf_J_29) (fun _ h9 => h9) rfl hin rfl (by decide +kernel) rfl rfl (Nat.le_of_ble_eq_true rfl) d_J_init_37 (fun H locs hP hD hS => ?_)
  have hP : va_P D classes [(h0, .inr (0, [.ref a1, .ref a2, .ref a3, .ref a4, .null, .int 0, .int 0, .int 0, .int 0])), (a1, jq_arr (cA 0) 32 (fun _ => none)), (a2, jq_arr (cA 1) 40 (fun _ => none)), (a3, jq_arr (cA 2) 40 (fun _ => none)), (a4, jq_arr (cA 3) 40 (fun _ => none))] H := hP
  have hD : va_D A [(h0, .inr (0, [.ref a1, .ref a2, .ref a3, .ref a4, .null, .int 0, .int 0, .int 0, .int 0])), (a1, jq_arr (cA 0) 32 (fun _ => none)), (a2, jq_arr (cA 1) 40 (fun _ => none)), (a3, jq_arr (cA 2) 40 (fun _ => none)), (a4, jq_arr (cA 3) 40 (fun _ => none))] := hD
  refine lv_aload_n hx hb d_J_init_40 rfl (lv_at hl 0 rfl) ?_
  refine lv_bipush (v := 40) hx hb d_J_init_41 (by decide) ?_
  refine va_newa (atype := .int) (N' := 40) (a0 := (40, .inl (fun _ => 0))) (ty := .int) hx hb (hts _ wk_ai) rfl hK hP hD hS hA (fun _ => rfl) (by decide) (by decide) (by decide) (by decide) (by decide) d_J_init_43 (fun a5 t5 H hK9 hP hD hS => ?_)
  have e5 : t5 = cA 4 := jx_tyi (hK9.2 6 _ rfl).2 (hK.2 4 _ rfl).2
  subst e5
  have hP : va_P D classes [(h0, .inr (0, [.ref a1, .ref a2, .ref a3, .ref a4, .null, .int 0, .int 0, .int 0, .int 0])), (a1, jq_arr (cA 0) 32 (fun _ => none)), (a2, jq_arr (cA 1) 40 (fun _ => none)), (a3, jq_arr (cA 2) 40 (fun _ => none)), (a4, jq_arr (cA 3) 40 (fun _ => none)), (a5, .inl (cA 4, 40, .inl (fun _ => 0)))] H := hP
  have hD : va_D A [(h0, .inr (0, [.ref a1, .ref a2, .ref a3, .ref a4, .null, .int 0, .int 0, .int 0, .int 0])), (a1, jq_arr (cA 0) 32 (fun _ => none)), (a2, jq_arr (cA 1) 40 (fun _ => none)), (a3, jq_arr (cA 2) 40 (fun _ => none)), (a4, jq_arr (cA 3) 40 (fun _ => none)), (a5, .inl (cA 4, 40, .inl (fun _ => 0)))] := hD
  refine W.widen (k := 5) (n := 192) (by omega) (by omega) ?_
  refine va_putF (D := D) (ci := 0) (v := .ref a5) (ty := .array .int) (C := R_J) (T := F_J) (N := 9) hx hb hts jn_J t_J t_J_ok n_J hown hK hP hD hS 0 rfl rfl 4 (by decide) (hts _ wf_J_33) (fun _ h9 => h9) rfl hin rfl (by decide +kernel) rfl rfl (Nat.le_of_ble_eq_true rfl) d_J_init_45 (fun H locs hP hD hS => ?_)
  have hP : va_P D classes [(h0, .inr (0, [.ref a1, .ref a2, .ref a3, .ref a4, .ref a5, .int 0, .int 0, .int 0, .int 0])), (a1, jq_arr (cA 0) 32 (fun _ => none)), (a2, jq_arr (cA 1) 40 (fun _ => none)), (a3, jq_arr (cA 2) 40 (fun _ => none)), (a4, jq_arr (cA 3) 40 (fun _ => none)), (a5, .inl (cA 4, 40, .inl (fun _ => 0)))] H := hP
  have hD : va_D A [(h0, .inr (0, [.ref a1, .ref a2, .ref a3, .ref a4, .ref a5, .int 0, .int 0, .int 0, .int 0])), (a1, jq_arr (cA 0) 32 (fun _ => none)), (a2, jq_arr (cA 1) 40 (fun _ => none)), (a3, jq_arr (cA 2) 40 (fun _ => none)), (a4, jq_arr (cA 3) 40 (fun _ => none)), (a5, .inl (cA 4, 40, .inl (fun _ => 0)))] := hD
  have e6 : jx_W 6 (fun k => if k = 0 then h0 else if k = 1 then a1 else if k = 2 then a2 else if k = 3 then a3 else if k = 4 then a4 else a5) (jc_mk aK cA (fun k => if k = 0 then h0 else if k = 1 then a1 else if k = 2 then a2 else if k = 3 then a3 else if k = 4 then a4 else a5) 0 0 0 0) = [(h0, .inr (0, [.ref a1, .ref a2, .ref a3, .ref a4, .ref a5, .int 0, .int 0, .int 0, .int 0])), (a1, jq_arr (cA 0) 32 (fun _ => none)), (a2, jq_arr (cA 1) 40 (fun _ => none)), (a3, jq_arr (cA 2) 40 (fun _ => none)), (a4, jq_arr (cA 3) 40 (fun _ => none)), (a5, .inl (cA 4, 40, .inl (fun _ => 0)))] := by
    simp [jx_W, List.range_succ, jc_mk]
  rw [← e6] at hP hD
  generalize hade : (fun k => if k = 0 then h0 else if k = 1 then a1 else if k = 2 then a2 else if k = 3 then a3 else if k = 4 then a4 else a5 : Nat → Nat) = ad at hP hD
  have had : ad 0 = h0 := by rw [← hade]; rfl
  clear hade
  have L77 : ∀ (n i : Nat) (ad : Nat → Nat) (H : Heap) (locs : List Loc) (ls : Array Slot), i + n = 40 → ad 0 = h0 → va_P D classes (jx_W (38 + 3 * i) ad (jc_mk aK cA ad 32 i i i)) H → va_D A (jx_W (38 + 3 * i) ad (jc_mk aK cA ad 32 i i i)) → va_S A s.heap H locs → lv_has ls 2 [(0, .ref h0), (1, .int (nI i))] → W p l e jr_J s m #[Value.ref h0] below meth c H locs (37 + 3 * i) (352 + 16 * i) Q (F0 m 77 ls []) := by
    intro n
    induction n with
    | zero =>
      intro i ad H locs ls hm had hP hD hS hl
      obtain rfl : i = 40 := by omega
      refine lv_iload_n hx hb d_J_init_77 rfl (lv_at hl 1 rfl) ?_
      refine lv_bipush (v := 40) hx hb d_J_init_78 (by decide) ?_
      refine lv_icmp_ge (tgt := 129) hx hb d_J_init_80 rfl (fun _ => ?_) (fun hq => absurd (by decide) hq)
      obtain ⟨hP, hD⟩ := jc_fin hP hD
      have had2 : (fun k => ad (jp_n k)) 0 = h0 := had
      generalize (fun k => ad (jp_n k)) = ad2 at hP hD had2
      have hh : jx_H D 158 ad2 (jc_cell ad2 aK cA js_new) A s.heap H locs := ⟨hP, hD, hS⟩
      rw [← had2] at hl
      refine lv_aload_n hx hb d_J_init_129 rfl (lv_at hl 0 rfl) ?_
      refine jg_J hc hh 1 (by decide) rfl wf_J_17 d_J_init_130 ?_
      refine lv_iconst (v := 0) hx hb d_J_init_133 (by decide) ?_
      refine jax_N hc hh ⟨0, by decide, rfl⟩ d_J_init_134 ?_
      refine jv_astore_n (i := 1) (lv' := [(1, jv ad2 38 0), (0, .ref (ad2 0))]) hx hb d_J_init_135 rfl hl (by decide) rfl (fun ls hl => ?_)
      refine jv_aload_n hx hb d_J_init_136 rfl (lv_at hl 0 rfl) ?_
      refine lv_iconst (v := 1) hx hb d_J_init_137 (by decide) ?_
      refine jpy_5 hc hh ⟨0, by decide, rfl⟩ (by decide) wf_J_43 d_J_init_138 (fun H locs hh => ?_)
      have hh : jx_H D 158 ad2 (jc_cell ad2 aK cA jc_u1) A s.heap H locs := hh
      refine lv_aload_n hx hb d_J_init_141 rfl (lv_at hl 1 rfl) ?_
      refine jv_aload_n hx hb d_J_init_142 rfl (lv_at hl 0 rfl) ?_
      refine lv_iconst (v := 0) hx hb d_J_init_143 (by decide) ?_
      refine lv_iconst (v := -1) hx hb d_J_init_144 (by decide) ?_
      refine lv_iconst (v := 0) hx hb d_J_init_145 (by decide) ?_
      refine lv_aload_n hx hb d_J_init_146 rfl (lv_at hl 1 rfl) ?_
      refine jv_aload_n hx hb d_J_init_147 rfl (lv_at hl 0 rfl) ?_
      refine lv_iconst (v := -1) hx hb d_J_init_148 (by decide) ?_
      refine lv_iconst (v := 0) hx hb d_J_init_149 (by decide) ?_
      refine jx_callV [jv ad2 38 0, .int (-1), .int 0] [.int 0, .int (-1), .int 0, jv ad2 38 0, .ref (ad2 0)] hc hh (c_load_all l D aK ad2 cA 2 (by omega) jc_u1 0 (-1) 0 jc_Sh_u1 jc_Ow_u1 jc_Cp_u1 jq_m1) wy_J_47 ⟨by decide, rfl, rfl⟩ (by decide) rfl hl.1 rfl (by simp [vc_int, vc_ref, vc_long, jv_cat]) ⟨by decide, by decide⟩ d_J_init_150 (fun r u9 H locs hp hh _ _ => ?_)
      rw [hp.2] at hh
      refine W.eq (g2 := F0 m 153 ls [jv ad2 78 (nI (js_free jc_u1 8 39 0)), .int 0, .int (-1), .int 0, jv ad2 38 0, .ref (ad2 0)]) (by rw [hp.1]; rfl) ?_
      refine jx_callV [jv ad2 38 0, .int 0, .int (-1), .int 0, jv ad2 78 (nI (js_free jc_u1 8 39 0))] [] hc hh (c_addEntry l D aK ad2 cA (jc_load 2 jc_u1 0 (-1) 0) 0 0 (-1) 0 (nI (js_free jc_u1 8 39 0))) wy_J_51 ⟨by decide, rfl, rfl⟩ (by decide) rfl hl.1 rfl (by decide) ⟨by decide, by decide⟩ d_J_init_153 (fun r u9 H locs hp hh _ _ => ?_)
      rw [hp.2] at hh
      refine W.eq (g2 := F0 m 156 ls []) rfl ?_
      refine W.widen (k := 157) (n := 992) (by decide) (by decide) ?_
      subst hQ
      exact W.vret hx hb hr (fun t ht hW => ⟨⟨rfl, ad2, had2, by rw [ht]; exact hh.1, hh.2.1⟩, hh.2.2.F ht⟩) hh.2.2.2.2 d_J_init_156 hlk
    | succ n ih =>
      intro i ad H locs ls hm had hP hD hS hl
      have hi : i < 40 := by omega
      refine lv_iload_n hx hb d_J_init_77 rfl (lv_at hl 1 rfl) ?_
      refine lv_bipush (v := 40) hx hb d_J_init_78 (by decide) ?_
      refine lv_icmp_ge (tgt := 129) hx hb d_J_init_80 rfl (fun hq => absurd hq (nI_ge hi (by decide))) (fun _ => ?_)
      refine lv_aload_n hx hb d_J_init_83 rfl (lv_at hl 0 rfl) ?_
      refine va_get (a := h0) (ci := 0) (C := R_J) (T := F_J) (N := 9) (fs := [.ref (ad 1), .ref (ad 2), .ref (ad 3), .ref (ad 4), .ref (ad 5), .int 0, .int 0, .int 0, .int 0]) hx hb hts jn_J hown hK hP 0 (by rw [jx_at (by omega), had]; rfl) rfl 1 (by decide) (hts _ wf_J_17) (fun _ h => h) rfl d_J_init_84 ?_
      refine lv_iload_n hx hb d_J_init_87 rfl (lv_at hl 1 rfl) ?_
      refine va_new (ci := 2) (fs := [.int 0, .int 0, .int 0, .null]) (C := R_N) (T := F_N) (N := 4) hx hb hts jn_N t_N t_N_ok hown (hts _ wk_cN) (hts _ wk_iN) (hts _ wk_nN) hK hP hD hS hA rfl jc_defN (show 37 + 3 * i + 1 ≤ 157 by omega) (show 352 + 16 * i + 4 ≤ 992 by omega) d_J_init_88 (fun q H hP hD hS => ?_)
      refine lv_dup hx hb d_J_init_91 rfl ?_
      refine lv_iload_n hx hb d_J_init_92 rfl (lv_at hl 1 rfl) ?_
      refine jx_ctorI (k := 1) (u := (fun _ _ => 0)) (ce := jc_nC) [.int (nI i)] [.ref q, .int (nI i), .ref (ad 2)] hc hP hD hS (c_N_init l D aK cA q (nI i)) wk_mN.1 wk_lN wk_nN wk_mN.2 rfl ⟨by decide, by decide, by decide +kernel⟩ (by decide) rfl hl.1 rfl (by simp [vc_int, vc_ref]) ⟨show 37 + 3 * i + 1 ≤ 157 by omega, show 352 + 16 * i + 4 ≤ 992 by omega⟩ d_J_init_93 (fun u' H locs hp hP hD hS => ?_)
      rw [hp.2] at hP hD
      refine va_astq (a := ad 2) (v := q) (r := (R_N, F_N, 4)) (n := 40) (cA := cA 1) (f := fun j => if j < i then some (ad (38 + 3 * j)) else none) hx hb hK hP hD hS 2 1 (38 + 3 * i) 2 (by rw [List.getElem?_append_left (by simp [jx_W]; omega), jx_at (by omega)]; simp [jc_mk]) rfl (by rw [List.getElem?_append_right (by simp [jx_W])]; simp [jx_W]; rfl) rfl (vp_in_nI hi (by decide)) d_J_init_96 (fun H locs hP hD hS => ?_)
      rw [show (nI i).toNatClampNeg = i from ix_nI (by omega)] at hP hD
      have e9 := jc_mkN (aK := aK) (cA := cA) (ad := ad) (q := q) hi
      have hP : va_P D classes (jx_W (38 + 3 * i + 1) (va_up ad (38 + 3 * i) q) (jc_mk aK cA (va_up ad (38 + 3 * i) q) 32 (i + 1) i i)) H := by rw [← e9]; exact hP
      have hD : va_D A (jx_W (38 + 3 * i + 1) (va_up ad (38 + 3 * i) q) (jc_mk aK cA (va_up ad (38 + 3 * i) q) 32 (i + 1) i i)) := by rw [← e9]; exact hD
      have had : va_up ad (38 + 3 * i) q 0 = h0 := by rw [show va_up ad (38 + 3 * i) q 0 = ad 0 from by simp [va_up]; try omega]; exact had
      refine W.widen (k := 37 + 3 * i + 1) (n := 352 + 16 * i + 4) (by omega) (by omega) ?_
      generalize va_up ad (38 + 3 * i) q = ad at hP hD had
      refine lv_aload_n hx hb d_J_init_97 rfl (lv_at hl 0 rfl) ?_
      refine va_get (a := h0) (ci := 0) (C := R_J) (T := F_J) (N := 9) (fs := [.ref (ad 1), .ref (ad 2), .ref (ad 3), .ref (ad 4), .ref (ad 5), .int 0, .int 0, .int 0, .int 0]) hx hb hts jn_J hown hK hP 0 (by rw [jx_at (by omega), had]; rfl) rfl 2 (by decide) (hts _ wf_J_23) (fun _ h => h) rfl d_J_init_98 ?_
      refine lv_iload_n hx hb d_J_init_101 rfl (lv_at hl 1 rfl) ?_
      refine va_new (ci := 3) (fs := jc_dD) (C := R_D) (T := F_D) (N := 6) hx hb hts jn_D t_D t_D_ok hown (hts _ wk_cD) (hts _ wk_iD) (hts _ wk_nD) hK hP hD hS hA rfl jc_defD (show 37 + 3 * i + 1 + 1 ≤ 157 by omega) (show 352 + 16 * i + 4 + 6 ≤ 992 by omega) d_J_init_102 (fun q H hP hD hS => ?_)
      refine lv_dup hx hb d_J_init_105 rfl ?_
      refine jx_ctorN (k := 0) (u := js_new) (ce := (jc_oC 3 jc_dD)) [] [.ref q, .int (nI i), .ref (ad 3)] hc hP hD hS (c_D_init l D aK cA q jc_dD js_new) wk_mD.1 hX.2.2.2.2.2.1 wk_nD wk_mD.2 rfl ⟨by decide, by decide, by decide +kernel⟩ (by decide) rfl hl.1 rfl (by simp [vc_int, vc_ref]) ⟨show 37 + 3 * i + 1 + 1 ≤ 157 by omega, show 352 + 16 * i + 4 + 6 ≤ 992 by omega⟩ d_J_init_106 (fun u' H locs hp hP hD hS => ?_)
      rw [hp.2] at hP hD
      refine va_astq (a := ad 3) (v := q) (r := (R_D, F_D, 6)) (n := 40) (cA := cA 2) (f := fun j => if j < i then some (ad (39 + 3 * j)) else none) hx hb hK hP hD hS 3 2 (38 + 3 * i + 1) 3 (by rw [List.getElem?_append_left (by simp [jx_W]; omega), jx_at (by omega)]; simp [jc_mk]) rfl (by rw [List.getElem?_append_right (by simp [jx_W])]; simp [jx_W]; rfl) rfl (vp_in_nI hi (by decide)) d_J_init_109 (fun H locs hP hD hS => ?_)
      rw [show (nI i).toNatClampNeg = i from ix_nI (by omega)] at hP hD
      have e9 := jc_mkD (aK := aK) (cA := cA) (ad := ad) (q := q) hi
      have hP : va_P D classes (jx_W (38 + 3 * i + 1 + 1) (va_up ad (38 + 3 * i + 1) q) (jc_mk aK cA (va_up ad (38 + 3 * i + 1) q) 32 (i + 1) (i + 1) i)) H := by rw [← e9]; exact hP
      have hD : va_D A (jx_W (38 + 3 * i + 1 + 1) (va_up ad (38 + 3 * i + 1) q) (jc_mk aK cA (va_up ad (38 + 3 * i + 1) q) 32 (i + 1) (i + 1) i)) := by rw [← e9]; exact hD
      have had : va_up ad (38 + 3 * i + 1) q 0 = h0 := by rw [show va_up ad (38 + 3 * i + 1) q 0 = ad 0 from by simp [va_up]; try omega]; exact had
      refine W.widen (k := 37 + 3 * i + 2) (n := 352 + 16 * i + 10) (by omega) (by omega) ?_
      generalize va_up ad (38 + 3 * i + 1) q = ad at hP hD had
      refine lv_aload_n hx hb d_J_init_110 rfl (lv_at hl 0 rfl) ?_
      refine va_get (a := h0) (ci := 0) (C := R_J) (T := F_J) (N := 9) (fs := [.ref (ad 1), .ref (ad 2), .ref (ad 3), .ref (ad 4), .ref (ad 5), .int 0, .int 0, .int 0, .int 0]) hx hb hts jn_J hown hK hP 0 (by rw [jx_at (by omega), had]; rfl) rfl 3 (by decide) (hts _ wf_J_29) (fun _ h => h) rfl d_J_init_111 ?_
      refine lv_iload_n hx hb d_J_init_114 rfl (lv_at hl 1 rfl) ?_
      refine va_new (ci := 4) (fs := jc_dE) (C := R_E) (T := F_E) (N := 6) hx hb hts jn_E t_E t_E_ok hown (hts _ wk_cE) (hts _ wk_iE) (hts _ wk_nE) hK hP hD hS hA rfl jc_defE (show 37 + 3 * i + 2 + 1 ≤ 157 by omega) (show 352 + 16 * i + 10 + 6 ≤ 992 by omega) d_J_init_115 (fun q H hP hD hS => ?_)
      refine lv_dup hx hb d_J_init_118 rfl ?_
      refine jx_ctorN (k := 0) (u := js_new) (ce := (jc_oC 4 jc_dE)) [] [.ref q, .int (nI i), .ref (ad 4)] hc hP hD hS (c_E_init l D aK cA q jc_dE js_new) wk_mE.1 hX.2.2.2.2.2.2 wk_nE wk_mE.2 rfl ⟨by decide, by decide, by decide +kernel⟩ (by decide) rfl hl.1 rfl (by simp [vc_int, vc_ref]) ⟨show 37 + 3 * i + 2 + 1 ≤ 157 by omega, show 352 + 16 * i + 10 + 6 ≤ 992 by omega⟩ d_J_init_119 (fun u' H locs hp hP hD hS => ?_)
      rw [hp.2] at hP hD
      refine va_astq (a := ad 4) (v := q) (r := (R_E, F_E, 6)) (n := 40) (cA := cA 3) (f := fun j => if j < i then some (ad (40 + 3 * j)) else none) hx hb hK hP hD hS 4 3 (38 + 3 * i + 1 + 1) 4 (by rw [List.getElem?_append_left (by simp [jx_W]; omega), jx_at (by omega)]; simp [jc_mk]) rfl (by rw [List.getElem?_append_right (by simp [jx_W])]; simp [jx_W]; rfl) rfl (vp_in_nI hi (by decide)) d_J_init_122 (fun H locs hP hD hS => ?_)
      rw [show (nI i).toNatClampNeg = i from ix_nI (by omega)] at hP hD
      have e9 := jc_mkE (aK := aK) (cA := cA) (ad := ad) (q := q) hi
      have hP : va_P D classes (jx_W (38 + 3 * (i + 1)) (va_up ad (38 + 3 * i + 1 + 1) q) (jc_mk aK cA (va_up ad (38 + 3 * i + 1 + 1) q) 32 (i + 1) (i + 1) (i + 1))) H := by rw [← e9]; exact hP
      have hD : va_D A (jx_W (38 + 3 * (i + 1)) (va_up ad (38 + 3 * i + 1 + 1) q) (jc_mk aK cA (va_up ad (38 + 3 * i + 1 + 1) q) 32 (i + 1) (i + 1) (i + 1))) := by rw [← e9]; exact hD
      have had : va_up ad (38 + 3 * i + 1 + 1) q 0 = h0 := by rw [show va_up ad (38 + 3 * i + 1 + 1) q 0 = ad 0 from by simp [va_up]; try omega]; exact had
      refine W.widen (k := 37 + 3 * (i + 1)) (n := 352 + 16 * (i + 1)) (by omega) (by omega) ?_
      generalize va_up ad (38 + 3 * i + 1 + 1) q = ad at hP hD had
      refine lv_iinc (k := 1) (v := nI (i + 1)) (lv' := [(1, .int (nI (i + 1))), (0, .ref h0)]) hx hb d_J_init_123 hl rfl (nI_1 i) (by decide) rfl (fun ls hl => ?_)
      refine lv_goto (tgt := 77) hx hb d_J_init_126 rfl ?_
      exact ih (i + 1) ad H locs ls (by omega) had hP hD hS (lv_sub hl [1, 0] rfl)
  have L50 : ∀ (n i : Nat) (ad : Nat → Nat) (H : Heap) (locs : List Loc) (ls : Array Slot), i + n = 32 → ad 0 = h0 → va_P D classes (jx_W (6 + i) ad (jc_mk aK cA ad i 0 0 0)) H → va_D A (jx_W (6 + i) ad (jc_mk aK cA ad i 0 0 0)) → va_S A s.heap H locs → lv_has ls 2 [(0, .ref h0), (1, .int (nI i))] → W p l e jr_J s m #[Value.ref h0] below meth c H locs (5 + i) (192 + 5 * i) Q (F0 m 50 ls []) := by
    intro n
    induction n with
    | zero =>
      intro i ad H locs ls hm had hP hD hS hl
      obtain rfl : i = 32 := by omega
      refine lv_iload_n hx hb d_J_init_50 rfl (lv_at hl 1 rfl) ?_
      refine lv_bipush (v := 32) hx hb d_J_init_51 (by decide) ?_
      refine lv_icmp_ge (tgt := 75) hx hb d_J_init_53 rfl (fun _ => ?_) (fun hq => absurd (by decide) hq)
      refine lv_iconst (v := 0) hx hb d_J_init_75 (by decide) ?_
      refine lv_istore_n (i := 1) (lv' := [(1, .int 0), (0, .ref h0)]) hx hb d_J_init_76 rfl hl (by decide) rfl (fun ls hl => ?_)
      exact L77 40 0 ad H locs ls (by omega) had hP hD hS (lv_sub hl [1, 0] rfl)
    | succ n ih =>
      intro i ad H locs ls hm had hP hD hS hl
      have hi : i < 32 := by omega
      refine lv_iload_n hx hb d_J_init_50 rfl (lv_at hl 1 rfl) ?_
      refine lv_bipush (v := 32) hx hb d_J_init_51 (by decide) ?_
      refine lv_icmp_ge (tgt := 75) hx hb d_J_init_53 rfl (fun hq => absurd hq (nI_ge hi (by decide))) (fun _ => ?_)
      refine lv_aload_n hx hb d_J_init_56 rfl (lv_at hl 0 rfl) ?_
      refine va_get (a := h0) (ci := 0) (C := R_J) (T := F_J) (N := 9) (fs := [.ref (ad 1), .ref (ad 2), .ref (ad 3), .ref (ad 4), .ref (ad 5), .int 0, .int 0, .int 0, .int 0]) hx hb hts jn_J hown hK hP 0 (by rw [jx_at (by omega), had]; rfl) rfl 0 (by decide) (hts _ wf_J_11) (fun _ h => h) rfl d_J_init_57 ?_
      refine lv_iload_n hx hb d_J_init_60 rfl (lv_at hl 1 rfl) ?_
      refine va_new (ci := 1) (fs := jc_fA aK js_A0 0) (C := R_A) (T := F_A) (N := 5) hx hb hts jn_A t_A t_A_ok hown (hts _ wk_cA) (hts _ wk_iA) (hts _ wk_nA) hK hP hD hS hA rfl jc_defA (show 5 + i + 1 ≤ 157 by omega) (show 192 + 5 * i + 5 ≤ 992 by omega) d_J_init_61 (fun q H hP hD hS => ?_)
      refine lv_dup hx hb d_J_init_64 rfl ?_
      refine jx_ctorN (k := 0) (u := js_A0) (ce := (jc_aC aK)) [] [.ref q, .int (nI i), .ref (ad 1)] hc hP hD hS (c_A_init l D aK cA q) wk_mA.1 hX.2.2.2.2.1 wk_nA wk_mA.2 rfl ⟨by decide, by decide, by decide +kernel⟩ (by decide) rfl hl.1 rfl (by simp [vc_int, vc_ref]) ⟨show 5 + i + 1 ≤ 157 by omega, show 192 + 5 * i + 5 ≤ 992 by omega⟩ d_J_init_65 (fun u' H locs hp hP hD hS => ?_)
      rw [hp.2] at hP hD
      refine va_astq (a := ad 1) (v := q) (r := (R_A, F_A, 5)) (n := 32) (cA := cA 0) (f := fun j => if j < i then some (ad (6 + j)) else none) hx hb hK hP hD hS 1 0 (6 + i) 1 (by rw [List.getElem?_append_left (by simp [jx_W]; omega), jx_at (by omega)]; simp [jc_mk]) rfl (by rw [List.getElem?_append_right (by simp [jx_W])]; simp [jx_W]; rfl) rfl (vp_in_nI hi (by decide)) d_J_init_68 (fun H locs hP hD hS => ?_)
      rw [show (nI i).toNatClampNeg = i from ix_nI (by omega)] at hP hD
      have e9 := jc_mkA (aK := aK) (cA := cA) (ad := ad) (q := q) hi
      have hP : va_P D classes (jx_W (6 + (i + 1)) (va_up ad (6 + i) q) (jc_mk aK cA (va_up ad (6 + i) q) (i + 1) 0 0 0)) H := by rw [← e9]; exact hP
      have hD : va_D A (jx_W (6 + (i + 1)) (va_up ad (6 + i) q) (jc_mk aK cA (va_up ad (6 + i) q) (i + 1) 0 0 0)) := by rw [← e9]; exact hD
      have had : va_up ad (6 + i) q 0 = h0 := by rw [show va_up ad (6 + i) q 0 = ad 0 from by simp [va_up]; try omega]; exact had
      refine W.widen (k := 5 + (i + 1)) (n := 192 + 5 * (i + 1)) (by omega) (by omega) ?_
      generalize va_up ad (6 + i) q = ad at hP hD had
      refine lv_iinc (k := 1) (v := nI (i + 1)) (lv' := [(1, .int (nI (i + 1))), (0, .ref h0)]) hx hb d_J_init_69 hl rfl (nI_1 i) (by decide) rfl (fun ls hl => ?_)
      refine lv_goto (tgt := 50) hx hb d_J_init_72 rfl ?_
      exact ih (i + 1) ad H locs ls (by omega) had hP hD hS (lv_sub hl [1, 0] rfl)
  refine lv_iconst (v := 0) hx hb d_J_init_48 (by decide) ?_
  refine lv_istore_n (i := 1) (lv' := [(1, .int 0), (0, .ref h0)]) hx hb d_J_init_49 rfl hl (by decide) rfl (fun ls hl => ?_)
  exact L50 32 0 ad H _ ls (by omega) had hP hD hS (lv_sub hl [1, 0] rfl)
