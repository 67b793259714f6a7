/-! The law's start. -/
theorem lw_defJ : ∀ j, j < 9 → defaultValue (t_J j) = vp_V jc_d0 j := by
  intro j hj
  match j, hj with
  | 0, _ => exact rfl
  | 1, _ => exact rfl
  | 2, _ => exact rfl
  | 3, _ => exact rfl
  | 4, _ => exact rfl
  | 5, _ => exact rfl
  | 6, _ => exact rfl
  | 7, _ => exact rfl
  | 8, _ => exact rfl
  | k + 9, h => omega
theorem lw_defM : ∀ j, j < 26 → defaultValue (t_M j) = vp_V jm_d0 j := by
  intro j hj
  match j, hj with
  | 0, _ => exact rfl
  | 1, _ => exact rfl
  | 2, _ => exact rfl
  | 3, _ => exact rfl
  | 4, _ => exact rfl
  | 5, _ => exact rfl
  | 6, _ => exact rfl
  | 7, _ => exact rfl
  | 8, _ => exact rfl
  | 9, _ => exact rfl
  | 10, _ => exact rfl
  | 11, _ => exact rfl
  | 12, _ => exact rfl
  | 13, _ => exact rfl
  | 14, _ => exact rfl
  | 15, _ => exact rfl
  | 16, _ => exact rfl
  | 17, _ => exact rfl
  | 18, _ => exact rfl
  | 19, _ => exact rfl
  | 20, _ => exact rfl
  | 21, _ => exact rfl
  | 22, _ => exact rfl
  | 23, _ => exact rfl
  | 24, _ => exact rfl
  | 25, _ => exact rfl
  | k + 26, h => omega
theorem lw_blJ {D : va_G} {aK : Nat → Nat} {cA : Nat → ClassId} {h0 sz : Nat} : FrameBlind (va_Pc [.ref h0] (jc_JP D aK cA h0 sz)) := by
  intro a U g mk q
  obtain ⟨q0, q1, qP, qK, qE, qX⟩ := q
  exact ⟨q0, q1, qP, va_K.moved (u := U) (U := U.calling g mk a) (Vm.Alike.refl U.vm) qK, va_En.moved (u := U) (U := U.calling g mk a) (Vm.Alike.refl U.vm) qE, jc_Ex_same (s := U) (U := U.calling g mk a) qX rfl⟩
theorem lw_blM {D : va_G} {aK : Nat → Nat} {cA : Nat → ClassId} {h0 sz : Nat} : FrameBlind (va_Pc [.ref h0] (jm_MP D aK cA h0 sz)) := by
  intro a U g mk q
  obtain ⟨q0, q1, qP, qK, qE⟩ := q
  exact ⟨q0, q1, qP, va_K.moved (u := U) (U := U.calling g mk a) (Vm.Alike.refl U.vm) qK, va_En.moved (u := U) (U := U.calling g mk a) (Vm.Alike.refl U.vm) qE⟩
set_option maxHeartbeats 4000000 in
set_option maxRecDepth 100000 in
theorem whole_start {p : Program} {e : Env} {s : State} {m : MethodId} {below : List Frame} {meth : Method} {c : Code} (l : Launch) {b L : Nat} {xs : Nat → Int32} (hL : L ≤ 2560) (C0 : lw_At p s m meth c b L xs) : W p l e room_1 s m #[Value.ref b] below meth c s.heap [] 0 0 (lw_Z below #[Value.ref b] s) (entryFrame m ([Value.ref b] : List Value).toArray 4) := by
  obtain ⟨hx, hb, hr, hml, hown, hts, hX, hbl, hlk, hgv⟩ := C0
  obtain ⟨D, cA, hK⟩ := lw_K hts
  obtain ⟨aK, hE⟩ := lw_En hts hgv
  have hEx := lw_Ex hts
  have ht : ∀ w ∈ jw_all, w.before #[Value.ref b] s = true := fun w h => hts w (jw_sub w h)
  generalize hAe : (fun q : Nat => s.heap.size ≤ q) = A at hE
  have hA : ∀ q, s.heap.size ≤ q → A q := fun q h => by rw [← hAe]; exact h
  have hA2 : ∀ q, A q → s.heap.size ≤ q := fun q h => by rw [← hAe] at h; exact h
  have hbA : ¬ A b := fun q => absurd (hA2 b q) (Nat.not_le.mpr hbl)
  have hc : jx_C p s m #[Value.ref b] c code 4 "JointHistoryLaw" D (jc_tys cA) aK A := ⟨hx, hb, hml, hown, ht, hK, hE, hA⟩
  have hl := lv_entry ([.ref b] : List Value) (n := 4) (Nat.le_of_ble_eq_true rfl)
  rw [lg_entry_eq]
  generalize (lg_sl ([.ref b] : List Value) ++ List.replicate (4 - (lg_sl ([.ref b] : List Value)).length) Slot.unset).toArray = ls at hl ⊢
  have hl : lv_has ls 4 [(0, .ref b)] := hl
  show W p l e room_1 s m #[Value.ref b] below meth c s.heap [] 0 0 (lw_Z below #[Value.ref b] s) (F0 m 0 ls [])
  refine va_new (C := R_J) (T := F_J) (N := 9) (ci := 0) (ws := []) (A := A) (H0 := s.heap) (fs := jc_d0) hx hb ht jn_J t_J t_J_ok hown (ht _ lw_cJ) (ht _ lw_iJ) (ht _ lw_nJ) hK (fun k q h => by simp at h) ⟨fun i j p q h => by simp at h, fun k q h => by simp at h⟩ va_S.rf hA rfl lw_defJ (by decide) (by decide) d_L_0 (fun a1 H1 hP1 hD1 hS1 => ?_)
  have hP1 : va_P D classes [(a1, .inr (0, jc_d0))] H1 := hP1
  have hD1 : va_D A [(a1, .inr (0, jc_d0))] := hD1
  refine lv_dup hx hb d_L_3 rfl ?_
  have subJ : ∀ q, jx_A 1 (fun _ => a1) H1.size q → A q := by
    rintro q (⟨k, -, rfl⟩ | h)
    · exact hD1.2 0 _ rfl
    · exact hA q (Nat.le_trans hS1.1 h)
  refine lw_goC (G := fun ad H => ad 0 = a1 ∧ va_P D classes (jx_W 158 ad (jc_cell ad aK cA jc_ini)) H ∧ va_D (jx_A 1 (fun _ => a1) H1.size) (jx_W 158 ad (jc_cell ad aK cA jc_ini))) (rest := [.ref a1]) (A1 := jx_A 1 (fun _ => a1) H1.size) (va_runI (n := 0) (nL := 4) (Ts := jw_all) (own := "JointHistoryLaw") (As := []) (b := a1) ⟨hx, hb, hml, hown, ht⟩ (c_J_init l D aK cA a1 H1.size) ⟨callB_of 0 ht (jx_good lw_dJ) rfl rfl rfl (ht _ lw_nJ) (ht _ lw_lJ) ⟨by decide, by decide, by decide +kernel⟩ ⟨by decide, by decide⟩, rfl, ht _ lw_sJ⟩ ⟨lw_blJ, fun U hU hW => ⟨rfl, by rw [hU], by rw [hU]; exact hP1, va_K.moved hW.alike hK, by rw [hU]; exact ((hE.kept hS1.2.1).narrow subJ).moved hW.alike, jc_Ex_warm hEx hW⟩⟩ rfl rfl hl.1 rfl (lv_room (by simp [vc_ref])) d_L_4 ⟨by decide, by decide⟩) hS1 (fun q _ h => subJ q h) subJ (fun adX H2 locs2 hG hz2 hk2 hS2 => ?_)
  obtain ⟨e0, hPX, hDX0⟩ := hG
  have hDX : va_D A (jx_W 158 adX (jc_cell adX aK cA jc_ini)) := ⟨hDX0.1, fun k q hq => subJ _ (hDX0.2 k q hq)⟩
  refine lv_astore_n (lv' := [(1, .ref a1), (0, .ref b)]) hx hb d_L_7 rfl hl (by decide) rfl (fun ls hl => ?_)
  refine va_new (C := R_M) (T := F_M) (N := 26) (ci := 5) (A := A) (H0 := s.heap) (fs := jm_d0) hx hb ht jn_M t_M t_M_ok hown (ht _ lw_cM) (ht _ lw_iM) (ht _ lw_nM) hK hPX hDX hS2 hA rfl lw_defM (by decide) (by decide) d_L_8 (fun a2 H3 hP3 hD3 hS3 => ?_)
  have len : (jx_W 158 adX (jc_cell adX aK cA jc_ini)).length = 158 := by simp [jx_W]
  have hPX3 : va_P D classes (jx_W 158 adX (jc_cell adX aK cA jc_ini)) H3 := fun k q hq => hP3 k q (by
    rw [List.getElem?_append_left (by rw [len]; exact (jx_in hq).1)]; exact hq)
  have at2 : (jx_W 158 adX (jc_cell adX aK cA jc_ini) ++ [(a2, (.inr (5, jm_d0) : va_E))])[158]? = some (a2, .inr (5, jm_d0)) := by
    rw [List.getElem?_append_right (by rw [len]; exact Nat.le_refl _), len]
    rfl
  have hP2 : va_P D classes [(a2, .inr (5, jm_d0))] H3 := by
    intro k q hq
    have h1 : k < 1 := (List.getElem?_eq_some_iff.mp hq).1
    obtain rfl : k = 0 := by omega
    cases hq
    exact hP3 158 _ at2
  have ne : ∀ i, i < 158 → ¬ adX i = a2 := by
    intro i hi q
    have at1 : (jx_W 158 adX (jc_cell adX aK cA jc_ini) ++ [(a2, (.inr (5, jm_d0) : va_E))])[i]? = some (adX i, jc_cell adX aK cA jc_ini i) := by
      rw [List.getElem?_append_left (by rw [len]; exact hi)]; exact jx_at hi
    have := hD3.1 i 158 _ _ at1 at2 q
    omega
  have a2A : A a2 := hD3.2 158 _ at2
  refine lv_dup hx hb d_L_11 rfl ?_
  have subM : ∀ q, jx_A 1 (fun _ => a2) H3.size q → A q := by
    rintro q (⟨k, -, rfl⟩ | h)
    · exact a2A
    · exact hA q (Nat.le_trans hS3.1 h)
  refine lw_goC (G := fun ad H => ad 0 = a2 ∧ va_P D classes (jx_W 22 ad (jm_cell ad cA jm_ini)) H ∧ va_D (jx_A 1 (fun _ => a2) H3.size) (jx_W 22 ad (jm_cell ad cA jm_ini))) (rest := [.ref a2]) (A1 := jx_A 1 (fun _ => a2) H3.size) (va_runI (n := 0) (nL := 4) (Ts := jw_all) (own := "JointHistoryLaw") (As := []) (b := a2) ⟨hx, hb, hml, hown, ht⟩ (c_M_init l D aK cA a2 H3.size) ⟨callB_of 0 ht (jx_good lw_dM) rfl rfl rfl (ht _ lw_nM) (ht _ lw_lM) ⟨by decide, by decide, by decide +kernel⟩ ⟨by decide, by decide⟩, rfl, ht _ lw_sM⟩ ⟨lw_blM, fun U hU hW => ⟨rfl, by rw [hU], by rw [hU]; exact hP2, va_K.moved hW.alike hK, by rw [hU]; exact ((hE.kept hS3.2.1).narrow subM).moved hW.alike⟩⟩ rfl rfl hl.1 rfl (lv_room (by simp [vc_ref])) d_L_12 ⟨by decide, by decide⟩) hS3 (fun q _ h => subM q h) subM (fun adM H4 locs4 hG4 hz4 hk4 hS4 => ?_)
  obtain ⟨e1, hPM, hDM0⟩ := hG4
  have hDM : va_D A (jx_W 22 adM (jm_cell adM cA jm_ini)) := ⟨hDM0.1, fun k q hq => subM _ (hDM0.2 k q hq)⟩
  have out : ∀ i, i < 158 → ¬ jx_A 1 (fun _ => a2) H3.size (adX i) := by
    rintro i hi (⟨k, -, q⟩ | q)
    · exact ne i hi q
    · exact absurd (lw_lt hPX3 hi) (Nat.not_lt.mpr q)
  have hPX4 := lw_keep hPX3 hk4 out
  refine lv_astore_n (lv' := [(2, .ref a2), (1, .ref a1), (0, .ref b)]) hx hb d_L_15 rfl hl (by decide) rfl (fun ls hl => ?_)
  refine lv_iconst (v := nI (5 * 0)) hx hb d_L_16 rfl ?_
  refine lv_istore_n (lv' := [(3, .int (nI (5 * 0))), (2, .ref a2), (1, .ref a1), (0, .ref b)]) hx hb d_L_17 rfl hl (by decide) rfl (fun ls hl => ?_)
  refine W.widen (k := 180) (n := 1971) (by decide) (by decide) ?_
  rw [← e0, ← e1] at hl
  exact lw_loop hc hX hbl hbA hL hA2 hr hlk 513 0 jc_ini jm_ini H4 locs4 ls rfl (by omega) jz_first ⟨⟨hPX4, hDX, hS4⟩, ⟨hPM, hDM, hS4⟩, fun i j hi hj q => out i hi (by rw [q]; exact hDM0.2 j _ (jx_at hj))⟩ hl
