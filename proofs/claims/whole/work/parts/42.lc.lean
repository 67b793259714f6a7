/-! The contracts of load, makeFrame, makeFrames, which call each other, as predicates. -/
def jc_LC (l : Launch) (D : va_G) (aK ad : Nat → Nat) (cA : Nat → ClassId) (d : Nat) (L : js_S → Int32 → Int32 → Int32 → js_S) (k : Nat) : Prop := ∀ (u : js_S) (o url step : Int32), jc_Sh u → jc_Ow d u o → jc_Cp u (jc_Nn d) (jc_Dn d) → jq 256 url →
  jx_M l y_J_load b_J_load 8 (some (.object "JointHistory$Document")) (jr k) D (jc_tys cA) aK 158 ad (jc_cell ad aK cA) [.ref (ad 0), jv ad 38 o, .int url, .int step] u (fun r : Int32 => some (jv ad 78 r)) (fun r u' => r = nI (js_free u 8 39 0) ∧ u' = L u o url step)
def jc_FC (l : Launch) (D : va_G) (aK ad : Nat → Nat) (cA : Nat → ClassId) (d : Nat) (L : js_S → Int32 → Int32 → Int32 → js_S) (k : Nat) : Prop := ∀ (u : js_S) (x : Nat) (url step : Int32), jc_Sh u → x < 40 → jc_Ow (d + 1) u (u 9 x) → jc_Cp u (1 + jc_Nn d) (jc_Dn d) → jq 256 url →
  jx_M l y_J_makeFrame b_J_makeFrame 6 (some (.object "JointHistory$Navigable")) (jr k) D (jc_tys cA) aK 158 ad (jc_cell ad aK cA) [.ref (ad 0), jv ad 78 (nI x), .int url, .int step] u (fun r : Int32 => some (jv ad 38 r)) (fun r u' => r = nI (js_free u 5 38 1) ∧ u' = jc_mkFrame L u (nI x) url step)
def jc_MC (l : Launch) (D : va_G) (aK ad : Nat → Nat) (cA : Nat → ClassId) (d : Nat) (L : js_S → Int32 → Int32 → Int32 → js_S) (k : Nat) : Prop := ∀ (u : js_S) (x : Nat) (a step : Int32), jc_Sh u → x < 40 → ¬ u 8 x = 0 → (∃ i, i < 32 ∧ a = nI i) → jc_Ow d u (u 9 x) → jc_Cp u (jc_Nn d) (jc_Dn d - 1) →
  jx_M l y_J_makeFrames b_J_makeFrames 6 none (jr k) D (jc_tys cA) aK 158 ad (jc_cell ad aK cA) [.ref (ad 0), jv ad 78 (nI x), jv ad 6 a, .int step] u (fun _ : Unit => none) (fun r u' => r = () ∧ u' = jc_mkFrames L u (nI x) a step)
theorem jc_Dn_pos (d : Nat) : 1 ≤ jc_Dn d := by
  cases d with
  | zero => exact Nat.le_refl _
  | succ d => unfold jc_Dn; omega
theorem jc_dpos {d : Nat} {u : js_S} {x : Nat} {room : Int32} (hw : jc_Ow d u (u 9 x)) (hd : d ≤ 2) (hx : x < 40) (hr : room = jc_room u (nI x)) (h : ¬ room ≤ 0) : ∃ e, d = e + 1 := by
  rw [hr, jc_room_eq hw hd hx] at h
  exact ⟨d - 1, by have := js_pos h; omega⟩
theorem jc_Cp1 {u : js_S} {e : Nat} (h : jc_Cp u (jc_Nn (e + 1)) (jc_Dn (e + 1) - 1)) : jc_Cp u (1 + jc_Nn e) (jc_Dn e) := by
  have e1 : jc_Dn (e + 1) - 1 = (e + 1) * jc_Dn e := by
    show 1 + (e + 1) * jc_Dn e - 1 = _
    omega
  have e2 : jc_Nn (e + 1) = (e + 1) * (1 + jc_Nn e) := rfl
  rw [e1, e2] at h
  exact jc_Cp_le h (Nat.le_mul_of_pos_left _ (by omega)) (Nat.le_mul_of_pos_left _ (by omega))
theorem jc_hzB {d : Nat} {u : js_S} {x : Nat} {room : Int32} (hw : jc_Ow d u (u 9 x)) (hd : d ≤ 2) (hx : x < 40) (hr : room = jc_room u (nI x)) (hC : jc_Cp u (jc_Nn d) (jc_Dn d - 1)) (h : ¬ room ≤ 0) : ∃ e, d = e + 1 ∧ jc_Ow (e + 1) u (u 9 x) ∧ jc_Cp u (1 + jc_Nn e) (jc_Dn e) := by
  obtain ⟨e, rfl⟩ := jc_dpos hw hd hx hr h
  exact ⟨e, rfl, hw, jc_Cp1 hC⟩
theorem jc_mf1_ok {e : Nat} {L : js_S → Int32 → Int32 → Int32 → js_S} (hL : jc_Lok e L) (hd : e + 1 ≤ 2) {u : js_S} {x : Nat} {a step : Int32} (hS : jc_Sh u) (hx : x < 40) (h8 : ¬ u 8 x = 0) (ha : ∃ i, i < 32 ∧ a = nI i) (hw : jc_Ow (e + 1) u (u 9 x)) (hC : jc_Cp u (jc_Nn (e + 1)) (jc_Dn (e + 1) - 1)) (h1 : ¬ u 1 (ix a) = -2) :
    jc_Sh (js_up (jc_mkFrame L u (nI x) (u 1 (ix a)) step) 12 x (nI (js_free u 5 38 1))) ∧ jc_Gr u (js_up (jc_mkFrame L u (nI x) (u 1 (ix a)) step) 12 x (nI (js_free u 5 38 1))) x (1 + jc_Nn e) (jc_Dn e) (1 + jc_Nn e) := by
  obtain ⟨s1, g1⟩ := jc_mkFrame_ok hL hd (step := step) hS hx hw (jc_Cp1 hC) (jc_Sfx hS ha h1)
  exact ⟨jc_Sh_12 s1 (jq_nI js_f38), jc_Gr_12 (jc_Gr_x g1)⟩
theorem jc_hzC1 {d e : Nat} {L : js_S → Int32 → Int32 → Int32 → js_S} (hL : jc_Lok e L) (he : d = e + 1) (hd : d ≤ 2) {u : js_S} {x : Nat} {a step : Int32} (hS : jc_Sh u) (hx : x < 40) (h8 : ¬ u 8 x = 0) (ha : ∃ i, i < 32 ∧ a = nI i) (hw : jc_Ow d u (u 9 x)) (hC : jc_Cp u (jc_Nn d) (jc_Dn d - 1)) (h1 : ¬ u 1 (ix a) = -2) : jc_Sh (js_up (jc_mkFrame L u (nI x) (u 1 (ix a)) step) 12 x (nI (js_free u 5 38 1))) := by
  subst he
  exact (jc_mf1_ok hL hd hS hx h8 ha hw hC h1).1
theorem jc_hzC2 {d e : Nat} {L : js_S → Int32 → Int32 → Int32 → js_S} (hL : jc_Lok e L) (he : d = e + 1) (hd : d ≤ 2) {u : js_S} {x : Nat} {a step room : Int32} (hS : jc_Sh u) (hx : x < 40) (h8 : ¬ u 8 x = 0) (ha : ∃ i, i < 32 ∧ a = nI i) (hw : jc_Ow d u (u 9 x)) (hC : jc_Cp u (jc_Nn d) (jc_Dn d - 1)) (hr : room = jc_room u (nI x)) (h1 : ¬ u 1 (ix a) = -2) (h : ¬ room + -1 ≤ 0) :
    ∃ f, d = f + 1 ∧ jc_Ow (f + 1) (js_up (jc_mkFrame L u (nI x) (u 1 (ix a)) step) 12 x (nI (js_free u 5 38 1))) (js_up (jc_mkFrame L u (nI x) (u 1 (ix a)) step) 12 x (nI (js_free u 5 38 1)) 9 x) ∧ jc_Cp (js_up (jc_mkFrame L u (nI x) (u 1 (ix a)) step) 12 x (nI (js_free u 5 38 1))) (1 + jc_Nn f) (jc_Dn f) := by
  subst he
  obtain ⟨s1, g1⟩ := jc_mf1_ok hL hd (step := step) hS hx h8 ha hw hC h1
  have h9 := (g1.2.1 x hx h8).2.1
  refine ⟨e, rfl, ?_, ?_⟩
  · rw [h9]
    exact jc_Ow_Gr hw g1
  · have he1 : e = 1 := by
      rcases (show e = 0 ∨ e = 1 by omega) with rfl | rfl
      · rw [hr, jc_room_eq hw hd hx] at h
        exact absurd (by decide) h
      · rfl
    subst he1
    exact jc_Cp_Gr (jc_Cp_le hC (by decide) (by decide)) g1 (by omega)
