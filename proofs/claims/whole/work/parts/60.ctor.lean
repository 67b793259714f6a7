/-! The constructors of the nested classes. -/
theorem wo_lnk_A : Cond.methodLink "JointHistory$Answer" 3 objectInit ∈ jw_all := jw_tb (i := 29) rfl rfl
theorem wo_ins : Cond.instanceMethod objectInit ∈ jw_all := jw_tb (i := 15) rfl rfl
theorem wo_cod : Cond.code objectInit ⟨#[0xb1]⟩ 1 none ∈ jw_all := jw_tb (i := 16) rfl rfl
def js_A0 : js_S := fun f _ => if f = 0 then -1 else 0
def js_A1 : js_S := fun f _ => if f = 1 ∨ f = 2 then -2 else 0
def jc_aC (aK : Nat → Nat) (s : js_S) (_ : Nat) : va_E := .inr (1, jc_fA aK s 0)
set_option maxHeartbeats 4000000 in
set_option maxRecDepth 100000 in
theorem c_A_init (l : Launch) (D : va_G) (aK : Nat → Nat) (cA : Nat → ClassId) (q : Nat) : jx_M l y_A_init b_A_init 1 none (jr 1) D (jc_tys cA) aK 1 (fun _ => q) (jc_aC aK) [.ref q] js_A0 (fun _ : Unit => none) (fun r u' => r = () ∧ u' = js_A1) := by
  refine jx_enter "JointHistory$Answer" (by decide) rfl (by simp [lg_sl, vc_int, vc_ref, vc_long, jv_cat]) ?_
  intro p e s m args below meth c A Q H locs ls hQ hc hh hr hlk hl
  have hx := hc.1
  have hb := hc.2.1
  have hl : lv_has ls 1 [(0, .ref q)] := by simpa [lv_args, vc_int, vc_ref, vc_long, jv_cat] using hl
  have hts := hc.2.2.2.2.1
  have hown := hc.2.2.2.1
  have hK := hc.2.2.2.2.2.1
  refine lv_aload_n hx hb d_A_init_0 rfl (lv_at hl 0 rfl) ?_
  refine W.objInit hx hb hown (hts _ wo_lnk_A) (hts _ wo_ins) (hts _ wo_cod) rfl (by rw [hc.2.2.1]; exact hl.1) rfl d_A_init_1 (Nat.le_of_ble_eq_true rfl) (Nat.le_of_ble_eq_true rfl) ?_
  refine W.eq (g2 := F0 m 4 ls []) rfl ?_
  refine lv_aload_n hx hb d_A_init_4 rfl (lv_at hl 0 rfl) ?_
  refine va_gets hx hb (hc.2.2.2.2.2.2.1.1 0 (by decide)).1 hh.2.2 hown (hts _ wf_A_9) (fun _ h => h) d_A_init_5 ?_
  refine va_put (fs := jc_fA aK js_A0 0) (ci := 1) (C := R_A) (T := F_A) (N := 5) (ty := .object "JointHistory$Kind") hx hb hts jn_A t_A t_A_ok n_A hown hK hh.1 hh.2.1 hh.2.2 0 rfl rfl 0 (by decide) (hts _ wf_A_15) (fun _ h => h) rfl (by decide +kernel) rfl rfl (show 0 < 5 by decide) d_A_init_8 (fun H locs hP hD hS => ?_)
  refine lv_aload_n hx hb d_A_init_11 rfl (lv_at hl 0 rfl) ?_
  refine lv_bipush (v := -2) hx hb d_A_init_12 (by decide) ?_
  refine va_put (a := q) (fs := (jc_fA aK js_A0 0).set 0 (.ref (aK 0))) (ci := 1) (C := R_A) (T := F_A) (N := 5) (ty := .int) hx hb hts jn_A t_A t_A_ok n_A hown hK hP hD hS 0 rfl rfl 1 (by decide) (hts _ wf_A_20) (fun _ h => h) rfl (by decide +kernel) rfl rfl (show 1 < 5 by decide) d_A_init_14 (fun H locs hP hD hS => ?_)
  refine lv_aload_n hx hb d_A_init_17 rfl (lv_at hl 0 rfl) ?_
  refine lv_bipush (v := -2) hx hb d_A_init_18 (by decide) ?_
  refine va_put (a := q) (fs := ((jc_fA aK js_A0 0).set 0 (.ref (aK 0))).set 1 (.int (-2))) (ci := 1) (C := R_A) (T := F_A) (N := 5) (ty := .int) hx hb hts jn_A t_A t_A_ok n_A hown hK hP hD hS 0 rfl rfl 2 (by decide) (hts _ wf_A_24) (fun _ h => h) rfl (by decide +kernel) rfl rfl (show 2 < 5 by decide) d_A_init_20 (fun H locs hP hD hS => ?_)
  have e : (((jc_fA aK js_A0 0).set 0 (.ref (aK 0))).set 1 (.int (-2))).set 2 (.int (-2)) = jc_fA aK js_A1 0 := by
    simp [jc_fA, js_A0, js_A1, jv, va_rf]
    rfl
  have hh : jx_H D 1 (fun _ => q) (jc_aC aK js_A1) A s.heap H locs := by
    refine ⟨?_, ?_, hS⟩
    · have h9 : va_P D classes [(q, .inr (1, (((jc_fA aK js_A0 0).set 0 (.ref (aK 0))).set 1 (.int (-2))).set 2 (.int (-2))))] H := hP
      rw [e] at h9
      exact h9
    · exact jx_Dce (ce := jc_aC aK js_A0) hh.2.1
  exact jx_vret (r := ()) hc hh hQ hlk hr rfl ⟨rfl, rfl⟩ d_A_init_23
theorem wo_lnk_D : Cond.methodLink "JointHistory$Document" 1 objectInit ∈ jw_all := jw_tb (i := 75) rfl rfl
theorem wo_lnk_E : Cond.methodLink "JointHistory$Entry" 1 objectInit ∈ jw_all := jw_tb (i := 99) rfl rfl
theorem wo_lnk_N : Cond.methodLink "JointHistory$Navigable" 1 objectInit ∈ jw_all := jw_tb (i := 56) rfl rfl
def jc_oC (ci : Nat) (fs : List Value) (_ : js_S) (_ : Nat) : va_E := .inr (ci, fs)
set_option maxHeartbeats 4000000 in
set_option maxRecDepth 100000 in
theorem c_D_init (l : Launch) (D : va_G) (aK : Nat → Nat) (cA : Nat → ClassId) (q : Nat) (fs : List Value) (u : js_S) : jx_M l y_D_init b_D_init 1 none (jr 1) D (jc_tys cA) aK 1 (fun _ => q) (jc_oC 3 fs) [.ref q] u (fun _ : Unit => none) (fun r u' => r = () ∧ u' = u) := by
  refine jx_enter "JointHistory$Document" (by decide) rfl (by simp [lg_sl, vc_int, vc_ref, vc_long, jv_cat]) ?_
  intro p e s m args below meth c A Q H locs ls hQ hc hh hr hlk hl
  have hx := hc.1
  have hb := hc.2.1
  have hl : lv_has ls 1 [(0, .ref q)] := by simpa [lv_args, vc_int, vc_ref, vc_long, jv_cat] using hl
  have hts := hc.2.2.2.2.1
  refine lv_aload_n hx hb d_D_init_0 rfl (lv_at hl 0 rfl) ?_
  refine W.objInit hx hb hc.2.2.2.1 (hts _ wo_lnk_D) (hts _ wo_ins) (hts _ wo_cod) rfl (by rw [hc.2.2.1]; exact hl.1) rfl d_D_init_1 (Nat.le_of_ble_eq_true rfl) (Nat.le_of_ble_eq_true rfl) ?_
  refine W.eq (g2 := F0 m 4 ls []) rfl ?_
  exact jx_vret (r := ()) hc hh hQ hlk hr rfl ⟨rfl, rfl⟩ d_D_init_4
set_option maxHeartbeats 4000000 in
set_option maxRecDepth 100000 in
theorem c_E_init (l : Launch) (D : va_G) (aK : Nat → Nat) (cA : Nat → ClassId) (q : Nat) (fs : List Value) (u : js_S) : jx_M l y_E_init b_E_init 1 none (jr 1) D (jc_tys cA) aK 1 (fun _ => q) (jc_oC 4 fs) [.ref q] u (fun _ : Unit => none) (fun r u' => r = () ∧ u' = u) := by
  refine jx_enter "JointHistory$Entry" (by decide) rfl (by simp [lg_sl, vc_int, vc_ref, vc_long, jv_cat]) ?_
  intro p e s m args below meth c A Q H locs ls hQ hc hh hr hlk hl
  have hx := hc.1
  have hb := hc.2.1
  have hl : lv_has ls 1 [(0, .ref q)] := by simpa [lv_args, vc_int, vc_ref, vc_long, jv_cat] using hl
  have hts := hc.2.2.2.2.1
  refine lv_aload_n hx hb d_E_init_0 rfl (lv_at hl 0 rfl) ?_
  refine W.objInit hx hb hc.2.2.2.1 (hts _ wo_lnk_E) (hts _ wo_ins) (hts _ wo_cod) rfl (by rw [hc.2.2.1]; exact hl.1) rfl d_E_init_1 (Nat.le_of_ble_eq_true rfl) (Nat.le_of_ble_eq_true rfl) ?_
  refine W.eq (g2 := F0 m 4 ls []) rfl ?_
  exact jx_vret (r := ()) hc hh hQ hlk hr rfl ⟨rfl, rfl⟩ d_E_init_4
/-- jx_enter, with the method's name -/
theorem jx_enterN {ρ : Type} {l : Launch} {y : MethodName} {b : ByteArray} {nL : Nat} {ret : Option FieldType} {rm : Room} {D : va_G} {tys : List (ClassId × FieldType)} {aK : Nat → Nat} {n : Nat} {ad : Nat → Nat} {ce : js_S → Nat → va_E} {av : List Value} {u : js_S} {enc : ρ → Option Value} {post : ρ → js_S → Prop} (own : String)
    (hy : plainName y.cls = true) (ho : y.cls = own) (hn : (lg_sl av).length ≤ nL)
    (body : ∀ (p : Program) (e : Env) (s : State) (m : MethodId) (args : Array Value) (below : List Frame) (meth : Method) (c : Code) (A : Nat → Prop) (Q : State → Prop) (H : Heap) (locs : List Loc) (ls : Array Slot), meth.name = y.name → Q = MQ below (jx_Qc enc post D n ad ce A) args s 0 0 A → jx_C p s m args c b nL own D tys aK A → jx_H D n ad (ce u) A s.heap H locs → meth.sig.returnType = ret → meth.locks = false → lv_has ls nL (lv_args 0 av) →
      W p l e rm s m args below meth c H locs 0 0 Q (F0 m 0 ls [])) : jx_M l y b nL ret rm D tys aK n ad ce av u enc post := by
  intro sz
  refine Met.ofW (cc := b) (maxL := nL) (ret := ret) hy rfl ?_
  intro p e s m args below meth c s₁ B hml hv
  obtain ⟨rfl, hsz, hP, hD0, hK, hE⟩ := hv
  subst hsz
  have hts := atoms_spec (ws := .code y b nL ret :: jw_all) B.pre
  have hown : s.vm.findClass y.cls = some m.cls := findClass_of_methodNamed B.named
  have hl := lv_entry av (n := nL) hn
  rw [lg_entry_eq]
  exact body p e s m _ below meth c (jx_A n ad s.heap.size) _ s.heap [] _ (name_of_methodNamed B.named B.method).1 rfl ⟨B.exec, B.bytes, hml, by rw [← ho]; exact hown, fun w hw => hts w (List.mem_cons_of_mem _ hw), hK, hE, fun q hq => Or.inr hq⟩ ⟨hP, jx_D hD0, va_S.rf⟩ B.returns B.notSynchronized hl
def jc_nC (s : js_S) (_ : Nat) : va_E := .inr (2, [.int (s 0 0), .int 0, .int 0, .null])
set_option maxHeartbeats 4000000 in
set_option maxRecDepth 100000 in
theorem c_N_init (l : Launch) (D : va_G) (aK : Nat → Nat) (cA : Nat → ClassId) (q : Nat) (k : Int32) : jx_M l y_N_init b_N_init 2 none (jr 1) D (jc_tys cA) aK 1 (fun _ => q) jc_nC [.ref q, .int k] (fun _ _ => 0) (fun _ : Unit => none) (fun r u' => r = () ∧ u' = fun _ _ => k) := by
  refine jx_enterN "JointHistory$Navigable" (by decide) rfl (by simp [lg_sl, vc_int, vc_ref, vc_long, jv_cat]) ?_
  intro p e s m args below meth c A Q H locs ls hin hQ hc hh hr hlk hl
  have hx := hc.1
  have hb := hc.2.1
  have hl : lv_has ls 2 [(0, .ref q), (1, .int k)] := by simpa [lv_args, vc_int, vc_ref, vc_long, jv_cat] using hl
  have hts := hc.2.2.2.2.1
  have hown := hc.2.2.2.1
  have hK := hc.2.2.2.2.2.1
  refine lv_aload_n hx hb d_N_init_0 rfl (lv_at hl 0 rfl) ?_
  refine W.objInit hx hb hown (hts _ wo_lnk_N) (hts _ wo_ins) (hts _ wo_cod) rfl (by rw [hc.2.2.1]; exact hl.1) rfl d_N_init_1 (Nat.le_of_ble_eq_true rfl) (Nat.le_of_ble_eq_true rfl) ?_
  refine W.eq (g2 := F0 m 4 ls []) rfl ?_
  refine lv_aload_n hx hb d_N_init_4 rfl (lv_at hl 0 rfl) ?_
  refine lv_iload_n hx hb d_N_init_5 rfl (lv_at hl 1 rfl) ?_
  refine va_putF (a := q) (fs := [.int 0, .int 0, .int 0, .null]) (ci := 2) (C := R_N) (T := F_N) (N := 4) (ty := .int) hx hb hts jn_N t_N t_N_ok n_N hown hK hh.1 hh.2.1 hh.2.2 0 rfl rfl 0 (by decide) (hts _ wf_N_7) (fun _ h => h) rfl hin rfl (by decide +kernel) rfl rfl (show 0 < 4 by decide) d_N_init_6 (fun H locs hP hD hS => ?_)
  have hh : jx_H D 1 (fun _ => q) (jc_nC (fun _ _ => k)) A s.heap H locs := ⟨hP, hD, hS⟩
  exact jx_vret (r := ()) hc hh hQ hlk hr rfl ⟨rfl, rfl⟩ d_N_init_9
