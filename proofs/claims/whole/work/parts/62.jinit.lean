/-! JointHistory(): five arrays, 32 answers, 40 rows of each kind; the window, its first document and entry. -/
theorem wk_cA : Cond.classLink "JointHistory" 9 "JointHistory$Answer" ∈ jw_all := jw_tb (i := 17) rfl rfl
theorem wk_cN : Cond.classLink "JointHistory" 15 "JointHistory$Navigable" ∈ jw_all := jw_tb (i := 19) rfl rfl
theorem wk_cD : Cond.classLink "JointHistory" 21 "JointHistory$Document" ∈ jw_all := jw_tb (i := 21) rfl rfl
theorem wk_cE : Cond.classLink "JointHistory" 27 "JointHistory$Entry" ∈ jw_all := jw_tb (i := 23) rfl rfl
theorem wk_iA : Cond.instantiable "JointHistory$Answer" 5 ∈ jw_all := jw_tb (i := 25) rfl rfl
theorem wk_iN : Cond.instantiable "JointHistory$Navigable" 4 ∈ jw_all := jw_tb (i := 52) rfl rfl
theorem wk_iD : Cond.instantiable "JointHistory$Document" 6 ∈ jw_all := jw_tb (i := 71) rfl rfl
theorem wk_iE : Cond.instantiable "JointHistory$Entry" 6 ∈ jw_all := jw_tb (i := 95) rfl rfl
theorem wk_nA : Cond.initialized "JointHistory$Answer" ∈ jw_all := jw_tb (i := 2) rfl rfl
theorem wk_nN : Cond.initialized "JointHistory$Navigable" ∈ jw_all := jw_tb (i := 5) rfl rfl
theorem wk_nD : Cond.initialized "JointHistory$Document" ∈ jw_all := jw_tb (i := 6) rfl rfl
theorem wk_nE : Cond.initialized "JointHistory$Entry" ∈ jw_all := jw_tb (i := 7) rfl rfl
theorem wk_ai : Cond.arrayClass .int ∈ jw_all := jw_tb (i := 51) rfl rfl
set_option maxRecDepth 20000 in
theorem wk_az : Cond.arrayClass .boolean ∈ jw_all := jw_tb (i := 469) rfl rfl
theorem wk_o : Cond.methodLink "JointHistory" 1 objectInit ∈ jw_all := jw_tb (i := 14) rfl rfl
theorem wk_mA : Cond.code y_A_init b_A_init 1 none ∈ jw_all ∧ Cond.instanceMethod y_A_init ∈ jw_all := ⟨jw_tb (i := 28) rfl rfl, jw_tb (i := 27) rfl rfl⟩
theorem wk_mN : Cond.code y_N_init b_N_init 2 none ∈ jw_all ∧ Cond.instanceMethod y_N_init ∈ jw_all := ⟨jw_tb (i := 55) rfl rfl, jw_tb (i := 54) rfl rfl⟩
theorem wk_mD : Cond.code y_D_init b_D_init 1 none ∈ jw_all ∧ Cond.instanceMethod y_D_init ∈ jw_all := ⟨jw_tb (i := 74) rfl rfl, jw_tb (i := 73) rfl rfl⟩
theorem wk_mE : Cond.code y_E_init b_E_init 1 none ∈ jw_all ∧ Cond.instanceMethod y_E_init ∈ jw_all := ⟨jw_tb (i := 98) rfl rfl, jw_tb (i := 97) rfl rfl⟩
theorem wk_lN : Cond.methodLink "JointHistory" 38 y_N_init ∈ jw_all := jw_tb (i := 53) rfl rfl
/-- words that only the constructor wants -/
def jc_Ex (U : State) : Prop := va_AO "JointHistory$Answer" U ∧ va_AO "JointHistory$Navigable" U ∧ va_AO "JointHistory$Document" U ∧ va_AO "JointHistory$Entry" U ∧ va_Nw (.methodLinkNest "JointHistory" 37 y_A_init "JointHistory") U ∧ va_Nw (.methodLinkNest "JointHistory" 41 y_D_init "JointHistory") U ∧ va_Nw (.methodLinkNest "JointHistory" 42 y_E_init "JointHistory") U
theorem jc_Ex_warm {s U : State} (h : jc_Ex s) (hW : s.WarmedH U.vm) : jc_Ex U := ⟨h.1.moved hW.alike, h.2.1.moved hW.alike, h.2.2.1.moved hW.alike, h.2.2.2.1.moved hW.alike, h.2.2.2.2.1.warmM hW, h.2.2.2.2.2.1.warmM hW, h.2.2.2.2.2.2.warmM hW⟩
theorem jc_Ex_same {s U : State} (h : jc_Ex s) (e : s.vm = U.vm) : jc_Ex U := ⟨h.1.moved (e ▸ Vm.Alike.refl s.vm), h.2.1.moved (e ▸ Vm.Alike.refl s.vm), h.2.2.1.moved (e ▸ Vm.Alike.refl s.vm), h.2.2.2.1.moved (e ▸ Vm.Alike.refl s.vm), h.2.2.2.2.1.same rfl e, h.2.2.2.2.2.1.same rfl e, h.2.2.2.2.2.2.same rfl e⟩
def js_new : js_S := fun f _ => if f = 1 ∨ f = 2 then -2 else if f = 7 ∨ f = 9 ∨ f = 12 ∨ f = 13 ∨ f = 15 ∨ f = 19 then -1 else 0
abbrev jq_arr (cA : ClassId) (n : Nat) (f : Nat → Option Nat) : va_E := .inl (cA, n, .inr (.inr (.inr (.inr f))))
def jc_dD : List Value := [.int 0, .null, .int 0, .int 0, .null, .null]
def jc_dE : List Value := [.int 0, .null, .int 0, .int 0, .int 0, .null]
/-- the cells in the order in which they are made: i answers, then j rows of each kind -/
def jc_mk (aK : Nat → Nat) (cA : Nat → ClassId) (ad : Nat → Nat) (i a b c : Nat) (k : Nat) : va_E :=
  if k = 0 then .inr (0, [.ref (ad 1), .ref (ad 2), .ref (ad 3), .ref (ad 4), .ref (ad 5), .int 0, .int 0, .int 0, .int 0])
  else if k = 1 then jq_arr (cA 0) 32 (fun j => if j < i then some (ad (6 + j)) else none)
  else if k = 2 then jq_arr (cA 1) 40 (fun j => if j < a then some (ad (38 + 3 * j)) else none)
  else if k = 3 then jq_arr (cA 2) 40 (fun j => if j < b then some (ad (39 + 3 * j)) else none)
  else if k = 4 then jq_arr (cA 3) 40 (fun j => if j < c then some (ad (40 + 3 * j)) else none)
  else if k = 5 then .inl (cA 4, 40, .inl (fun _ => 0))
  else if k < 38 then .inr (1, jc_fA aK js_A1 0)
  else if (k - 38) % 3 = 0 then .inr (2, [.int (nI ((k - 38) / 3)), .int 0, .int 0, .null])
  else if (k - 38) % 3 = 1 then .inr (3, jc_dD)
  else .inr (4, jc_dE)
