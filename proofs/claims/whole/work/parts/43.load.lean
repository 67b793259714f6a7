set_option maxHeartbeats 4000000 in
set_option maxRecDepth 100000 in
theorem c_makeFrame (l : Launch) (D : va_G) (aK ad : Nat → Nat) (cA : Nat → ClassId) (d k : Nat) (hk : 4 ≤ k) (L : js_S → Int32 → Int32 → Int32 → js_S) (hL : jc_LC l D aK ad cA d L k) (hd : d + 1 ≤ 2) (u : js_S) (x : Nat) (url : Int32) (step : Int32) (hS : jc_Sh u) (hx9 : x < 40) (hw : jc_Ow (d + 1) u (u 9 x)) (hC : jc_Cp u (1 + jc_Nn d) (jc_Dn d)) (hu : jq 256 url) : jx_M l y_J_makeFrame b_J_makeFrame 6 (some (.object "JointHistory$Navigable")) (jr (k + 1)) D (jc_tys cA) aK 158 ad (jc_cell ad aK cA) [.ref (ad 0), jv ad 78 (nI x), .int url, .int step] u (fun r : Int32 => some (jv ad 38 r)) (fun r u' => r = nI (js_free u 5 38 1) ∧ u' = (jc_mkFrame L u (nI x) url step)) := by
  refine jx_enter "JointHistory" (by decide) rfl (by simp [lg_sl, vc_int, vc_ref, vc_long, jv_cat]) ?_
  intro p e s m args below meth c A Q H locs ls hQ hc hh hr hlk hl
  have hx := hc.1
  have hb := hc.2.1
  have hl : lv_has ls 6 [(0, .ref (ad 0)), (1, jv ad 78 (nI x)), (2, .int url), (3, .int step)] := by simpa [lv_args, vc_int, vc_ref, vc_long, jv_cat] using hl
  have h0 : u 5 (js_free u 5 38 1) = 0 := js_f38z (by have := hC.2.1; omega) hC.1
  have hC1 : jc_Cp (jc_mk0 u (js_free u 5 38 1) (nI x)) (jc_Nn d) (jc_Dn d) := jc_Cp_Gr (jc_Cp_le hC (by omega) (by omega)) (jc_Gr_mk0 js_f38 h0) (by omega)
  refine lv_aload_n hx hb d_J_makeFrame_0 rfl (lv_at hl 0 rfl) ?_
  refine jx_callV [] [] hc hh (c_freeNavigable l D aK ad cA u) wy_J_240 ⟨by decide, rfl, rfl⟩ ⟨rfl, rfl, by simp only [jr]; omega, by simp only [jr]; omega⟩ rfl hl.1 rfl (by decide) ⟨Nat.zero_le _, Nat.zero_le _⟩ d_J_makeFrame_1 (fun r u9 H locs hp hh _ _ => ?_)
  rw [hp.2] at hh
  refine W.eq (g2 := F0 m 4 ls [jv ad 38 (nI (js_free u 5 38 1))]) (by rw [hp.1]; rfl) ?_
  refine jv_astore (i := 4) (lv' := [(4, jv ad 38 (nI (js_free u 5 38 1))), (0, .ref (ad 0)), (1, jv ad 78 (nI x)), (2, .int url), (3, .int step)]) hx hb d_J_makeFrame_4 hl (by decide) rfl (fun ls hl => ?_)
  refine jv_aload hx hb d_J_makeFrame_6 (lv_at hl 0 rfl) ?_
  refine lv_iconst (v := 1) hx hb d_J_makeFrame_8 (by decide) ?_
  refine jp_5 hc hh js_f38 (by decide) wf_J_43 d_J_makeFrame_9 (fun H locs hh => ?_)
  refine jv_aload hx hb d_J_makeFrame_12 (lv_at hl 0 rfl) ?_
  refine jv_aload_n hx hb d_J_makeFrame_14 rfl (lv_at hl 2 rfl) ?_
  refine jg_D hc hh hx9 1 (by decide) rfl wf_J_211 d_J_makeFrame_15 ?_
  refine jgx_N hc hh (by rw [js_up_f (by decide)]; exact jc_Ow_ok hw) 2 (by decide) rfl wf_J_233 d_J_makeFrame_18 ?_
  refine lv_iconst (v := 1) hx hb d_J_makeFrame_21 (by decide) ?_
  refine lv_iadd hx hb d_J_makeFrame_22 ?_
  refine jp_6 hc hh js_f38 wf_J_233 d_J_makeFrame_23 (fun H locs hh => ?_)
  refine jv_aload hx hb d_J_makeFrame_26 (lv_at hl 0 rfl) ?_
  refine jv_aload_n hx hb d_J_makeFrame_28 rfl (lv_at hl 2 rfl) ?_
  refine jp_7 hc hh js_f38 wf_J_208 d_J_makeFrame_29 (fun H locs hh => ?_)
  have J32 : ∀  (H : Heap) (locs : List Loc) (ls : Array Slot), jx_H D 158 ad (jc_cell ad aK cA (jc_mk0 u (js_free u 5 38 1) (nI x))) A s.heap H locs → lv_has ls 6 [(0, .ref (ad 0)), (1, jv ad 78 (nI x)), (2, .int url), (3, .int step), (4, jv ad 38 (nI (js_free u 5 38 1)))] → W p l e (jr (k + 1)) s m args below meth c H locs 0 0 Q (F0 m 32 ls []) := by
    intro  H locs ls hh hl
    refine lv_aload_n hx hb d_J_makeFrame_32 rfl (lv_at hl 0 rfl) ?_
    refine lv_iload_n hx hb d_J_makeFrame_33 rfl (lv_at hl 2 rfl) ?_
    refine jx_callV [.int url] [] hc hh (c_followDetours l D aK ad cA (jc_mk0 u (js_free u 5 38 1) (nI x)) url (jc_mk0_Sh hS hx9 hw) hu) wy_J_131 ⟨by decide, rfl, rfl⟩ ⟨rfl, rfl, by simp only [jr]; omega, by simp only [jr]; omega⟩ rfl hl.1 rfl (by decide) ⟨Nat.zero_le _, Nat.zero_le _⟩ d_J_makeFrame_34 (fun r u9 H locs hp hh _ _ => ?_)
    rw [hp.2] at hh
    refine W.eq (g2 := F0 m 37 ls [.int (jc_fd (jc_mk0 u (js_free u 5 38 1) (nI x)) 4 url)]) (by rw [hp.1]; rfl) ?_
    refine lv_istore (i := 5) (lv' := [(5, .int (jc_fd (jc_mk0 u (js_free u 5 38 1) (nI x)) 4 url)), (0, .ref (ad 0)), (1, jv ad 78 (nI x)), (2, .int url), (3, .int step), (4, jv ad 38 (nI (js_free u 5 38 1)))]) hx hb d_J_makeFrame_37 hl (by decide) (by simp [vc_int, vc_ref, vc_long, jv_cat]) (fun ls hl => ?_)
    refine lv_aload_n hx hb d_J_makeFrame_39 rfl (lv_at hl 1 rfl) ?_
    refine jv_aload hx hb d_J_makeFrame_40 (lv_at hl 5 rfl) ?_
    refine lv_iload_n hx hb d_J_makeFrame_42 rfl (lv_at hl 4 rfl) ?_
    refine lv_iload hx hb d_J_makeFrame_43 (lv_at hl 0 rfl) ?_
    refine lv_iconst (v := 0) hx hb d_J_makeFrame_45 (by decide) ?_
    refine lv_aload_n hx hb d_J_makeFrame_46 rfl (lv_at hl 1 rfl) ?_
    refine jv_aload hx hb d_J_makeFrame_47 (lv_at hl 5 rfl) ?_
    refine lv_iload hx hb d_J_makeFrame_49 (lv_at hl 0 rfl) ?_
    refine lv_iload_n hx hb d_J_makeFrame_51 rfl (lv_at hl 4 rfl) ?_
    refine jx_callV [jv ad 38 (nI (js_free u 5 38 1)), .int (jc_fd (jc_mk0 u (js_free u 5 38 1) (nI x)) 4 url), .int step] [.int 0, .int (jc_fd (jc_mk0 u (js_free u 5 38 1) (nI x)) 4 url), .int step, jv ad 38 (nI (js_free u 5 38 1)), .ref (ad 0)] hc hh (hL (jc_mk0 u (js_free u 5 38 1) (nI x)) (nI (js_free u 5 38 1)) (jc_fd (jc_mk0 u (js_free u 5 38 1) (nI x)) 4 url) step (jc_mk0_Sh hS hx9 hw) (jc_mk0_own js_f38 h0 hw hd hx9) hC1 (jc_fd_ok (jc_mk0_Sh hS hx9 hw) 4 hu)) wy_J_47 ⟨by decide, rfl, rfl⟩ ⟨rfl, rfl, by simp only [jr]; omega, by simp only [jr]; omega⟩ rfl hl.1 rfl (by simp [vc_int, vc_ref, vc_long, jv_cat]) ⟨Nat.zero_le _, Nat.zero_le _⟩ d_J_makeFrame_52 (fun r u9 H locs hp hh _ _ => ?_)
    rw [hp.2] at hh
    refine W.eq (g2 := F0 m 55 ls [jv ad 78 (nI (js_free (jc_mk0 u (js_free u 5 38 1) (nI x)) 8 39 0)), .int 0, .int (jc_fd (jc_mk0 u (js_free u 5 38 1) (nI x)) 4 url), .int step, jv ad 38 (nI (js_free u 5 38 1)), .ref (ad 0)]) (by rw [hp.1]; rfl) ?_
    refine jx_callV [jv ad 38 (nI (js_free u 5 38 1)), .int step, .int (jc_fd (jc_mk0 u (js_free u 5 38 1) (nI x)) 4 url), .int 0, jv ad 78 (nI (js_free (jc_mk0 u (js_free u 5 38 1) (nI x)) 8 39 0))] [] hc hh (c_addEntry l D aK ad cA (L (jc_mk0 u (js_free u 5 38 1) (nI x)) (nI (js_free u 5 38 1)) (jc_fd (jc_mk0 u (js_free u 5 38 1) (nI x)) 4 url) step) (nI (js_free u 5 38 1)) step (jc_fd (jc_mk0 u (js_free u 5 38 1) (nI x)) 4 url) 0 (nI (js_free (jc_mk0 u (js_free u 5 38 1) (nI x)) 8 39 0))) wy_J_51 ⟨by decide, rfl, rfl⟩ ⟨rfl, rfl, by simp only [jr]; omega, by simp only [jr]; omega⟩ rfl hl.1 rfl (by decide) ⟨Nat.zero_le _, Nat.zero_le _⟩ d_J_makeFrame_55 (fun r u9 H locs hp hh _ _ => ?_)
    rw [hp.2] at hh
    refine W.eq (g2 := F0 m 58 ls []) rfl ?_
    refine jv_aload hx hb d_J_makeFrame_58 (lv_at hl 5 rfl) ?_
    exact jx_aret (r := (nI (js_free u 5 38 1))) hc hh hQ hlk hr (jv_or _ _ _) rfl ⟨rfl, by unfold jc_mkFrame jc_mkF; rfl⟩ d_J_makeFrame_60
  have e1 : (jc_mk0 u (js_free u 5 38 1) (nI x)) = (js_up (js_up (js_up u 5 (js_free u 5 38 1) 1) 6 (js_free u 5 38 1) (((js_up u 5 (js_free u 5 38 1) 1) 6 (ix ((js_up u 5 (js_free u 5 38 1) 1) 9 x))) + 1)) 7 (js_free u 5 38 1) (nI x)) := by unfold jc_mk0; rw [ix_nI (show x < 2 ^ 31 by omega)]
  refine J32 _ _ _ ?_ ?_
  ·
    try rw [e1]
    exact hh
  try rw [e1]
  exact lv_sub hl [1, 2, 3, 4, 0] rfl
set_option maxHeartbeats 4000000 in
set_option maxRecDepth 100000 in
theorem c_makeFrames (l : Launch) (D : va_G) (aK ad : Nat → Nat) (cA : Nat → ClassId) (d k : Nat) (hk : 4 ≤ k) (L : js_S → Int32 → Int32 → Int32 → js_S) (hF : ∀ e, d = e + 1 → jc_FC l D aK ad cA e L k ∧ jc_Lok e L) (hd : d ≤ 2) (u : js_S) (x : Nat) (a : Int32) (step : Int32) (hS : jc_Sh u) (hx9 : x < 40) (h8 : ¬ u 8 x = 0) (ha : ∃ i, i < 32 ∧ a = nI i) (hw : jc_Ow d u (u 9 x)) (hC : jc_Cp u (jc_Nn d) (jc_Dn d - 1)) : jx_M l y_J_makeFrames b_J_makeFrames 6 none (jr (k + 1)) D (jc_tys cA) aK 158 ad (jc_cell ad aK cA) [.ref (ad 0), jv ad 78 (nI x), jv ad 6 a, .int step] u (fun _ : Unit => none) (fun r u' => r = () ∧ u' = (jc_mkFrames L u (nI x) a step)) := by
  refine jx_enter "JointHistory" (by decide) rfl (by simp [lg_sl, vc_int, vc_ref, vc_long, jv_cat]) ?_
  intro p e s m args below meth c A Q H locs ls hQ hc hh hr hlk hl
  have hx := hc.1
  have hb := hc.2.1
  have hl : lv_has ls 6 [(0, .ref (ad 0)), (1, jv ad 78 (nI x)), (2, jv ad 6 a), (3, .int step)] := by simpa [lv_args, vc_int, vc_ref, vc_long, jv_cat] using hl
  refine lv_iconst (v := 2) hx hb d_J_makeFrames_0 (by decide) ?_
  refine jv_aload_n hx hb d_J_makeFrames_1 rfl (lv_at hl 1 rfl) ?_
  refine jg_D hc hh hx9 1 (by decide) rfl wf_J_211 d_J_makeFrames_2 ?_
  refine jgx_N hc hh (jc_Ow_ok hw) 2 (by decide) rfl wf_J_233 d_J_makeFrames_5 ?_
  refine lv_isub hx hb d_J_makeFrames_8 ?_
  refine lv_istore (i := 4) (lv' := [(4, .int (2 - (u 6 (ix (u 9 x))))), (0, .ref (ad 0)), (1, jv ad 78 (nI x)), (2, jv ad 6 a), (3, .int step)]) hx hb d_J_makeFrames_9 hl (by decide) rfl (fun ls hl => ?_)
  have J11 : ∀ (room : Int32) (ls : Array Slot), (room = jc_room u (nI x)) → lv_has ls 6 [(0, .ref (ad 0)), (1, jv ad 78 (nI x)), (2, jv ad 6 a), (3, .int step), (4, .int room)] → W p l e (jr (k + 1)) s m args below meth c H locs 0 0 Q (F0 m 11 ls []) := by
    intro room ls hrm hl
    have J42 : ∀ (v : js_S) (rr : Int32) (H : Heap) (locs : List Loc) (ls : Array Slot), (jc_Sh v) → (jc_mfB L v (nI x) a step rr = jc_mkFrames L u (nI x) a step) → (¬ rr ≤ 0 → ∃ e, d = e + 1 ∧ jc_Ow (e + 1) v (v 9 x) ∧ jc_Cp v (1 + jc_Nn e) (jc_Dn e)) → jx_H D 158 ad (jc_cell ad aK cA v) A s.heap H locs → lv_has ls 6 [(0, .ref (ad 0)), (1, jv ad 78 (nI x)), (2, jv ad 6 a), (3, .int step), (4, .int rr)] → W p l e (jr (k + 1)) s m args below meth c H locs 0 0 Q (F0 m 42 ls []) := by
      intro v rr H locs ls hSv hv hz hh hl
      refine lv_iload hx hb d_J_makeFrames_42 (lv_at hl 4 rfl) ?_
      refine lv_if_le (tgt := 90) hx hb d_J_makeFrames_44 rfl (fun h44 => ?_) (fun h44 => ?_)
      ·
        exact jx_vret (r := ()) hc hh hQ hlk hr rfl ⟨rfl, by rw [← hv]; simp [jc_mfB, jc_mf2, h44, ix_nI (show x < 2 ^ 31 by omega)]⟩ d_J_makeFrames_90
      refine jv_aload_n hx hb d_J_makeFrames_47 rfl (lv_at hl 2 rfl) ?_
      refine jgx_A hc hh ha 2 (by decide) rfl wf_J_75 d_J_makeFrames_48 ?_
      refine lv_bipush (v := -2) hx hb d_J_makeFrames_51 (by decide) ?_
      refine lv_icmp_eq (tgt := 90) hx hb d_J_makeFrames_53 rfl (fun h53 => ?_) (fun h53 => ?_)
      ·
        exact jx_vret (r := ()) hc hh hQ hlk hr rfl ⟨rfl, by rw [← hv]; simp [jc_mfB, jc_mf2, h44, h53, ix_nI (show x < 2 ^ 31 by omega)]⟩ d_J_makeFrames_90
      refine lv_aload_n hx hb d_J_makeFrames_56 rfl (lv_at hl 0 rfl) ?_
      refine jv_aload_n hx hb d_J_makeFrames_57 rfl (lv_at hl 1 rfl) ?_
      refine jv_aload_n hx hb d_J_makeFrames_58 rfl (lv_at hl 2 rfl) ?_
      refine jgx_A hc hh ha 2 (by decide) rfl wf_J_75 d_J_makeFrames_59 ?_
      refine lv_iload_n hx hb d_J_makeFrames_62 rfl (lv_at hl 3 rfl) ?_
      obtain ⟨e9, he9, hw9, hC9⟩ := hz h44
      obtain ⟨hFC, hLo⟩ := hF e9 he9
      refine jx_callV [jv ad 78 (nI x), .int (v 2 (ix a)), .int step] [] hc hh (hFC v x (v 2 (ix a)) step hSv hx9 hw9 hC9 (jc_Ssx hSv ha h53)) wy_J_236 ⟨by decide, rfl, rfl⟩ ⟨rfl, rfl, by simp only [jr]; omega, by simp only [jr]; omega⟩ rfl hl.1 rfl (by decide) ⟨Nat.zero_le _, Nat.zero_le _⟩ d_J_makeFrames_63 (fun r u9 H locs hp hh _ _ => ?_)
      rw [hp.2] at hh
      refine W.eq (g2 := F0 m 66 ls [jv ad 38 (nI (js_free v 5 38 1))]) (by rw [hp.1]; rfl) ?_
      refine jv_astore (i := 5) (lv' := [(5, jv ad 38 (nI (js_free v 5 38 1))), (0, .ref (ad 0)), (1, jv ad 78 (nI x)), (2, jv ad 6 a), (3, .int step), (4, .int rr)]) hx hb d_J_makeFrames_66 hl (by decide) rfl (fun ls hl => ?_)
      refine jv_aload_n hx hb d_J_makeFrames_68 rfl (lv_at hl 2 rfl) ?_
      refine jg_D hc hh hx9 4 (by decide) rfl wf_J_171 d_J_makeFrames_69 ?_
      refine jv_ifnonnull (tgt := 84) hx hb d_J_makeFrames_72 rfl (fun h72 => ?_) (fun h72 => ?_)
      ·
        refine jv_aload_n hx hb d_J_makeFrames_84 rfl (lv_at hl 2 rfl) ?_
        refine jv_aload hx hb d_J_makeFrames_85 (lv_at hl 0 rfl) ?_
        refine jp_13 hc hh hx9 wf_J_177 d_J_makeFrames_87 (fun H locs hh => ?_)
        exact jx_vret (r := ()) hc hh hQ hlk hr rfl ⟨rfl, by rw [← hv]; simp [jc_mfB, jc_mf2, h44, h53, h72, ix_nI (show x < 2 ^ 31 by omega)]⟩ d_J_makeFrames_90
      refine jv_aload_n hx hb d_J_makeFrames_75 rfl (lv_at hl 2 rfl) ?_
      refine jv_aload hx hb d_J_makeFrames_76 (lv_at hl 0 rfl) ?_
      refine jp_12 hc hh hx9 wf_J_171 d_J_makeFrames_78 (fun H locs hh => ?_)
      refine lv_goto (tgt := 90) hx hb d_J_makeFrames_81 rfl ?_
      exact jx_vret (r := ()) hc hh hQ hlk hr rfl ⟨rfl, by rw [← hv]; simp [jc_mfB, jc_mf2, h44, h53, h72, ix_nI (show x < 2 ^ 31 by omega)]⟩ d_J_makeFrames_90
    refine lv_iload hx hb d_J_makeFrames_11 (lv_at hl 4 rfl) ?_
    refine lv_if_le (tgt := 42) hx hb d_J_makeFrames_13 rfl (fun h13 => ?_) (fun h13 => ?_)
    ·
      refine J42 u room _ _ _ hS (by simp [jc_mkFrames, ← hrm, h13]) (fun q => absurd h13 q) ?_ ?_
      ·
        exact hh
      exact lv_sub hl [0, 1, 2, 3, 4] rfl
    refine jv_aload_n hx hb d_J_makeFrames_16 rfl (lv_at hl 2 rfl) ?_
    refine jgx_A hc hh ha 1 (by decide) rfl wf_J_71 d_J_makeFrames_17 ?_
    refine lv_bipush (v := -2) hx hb d_J_makeFrames_20 (by decide) ?_
    refine lv_icmp_eq (tgt := 42) hx hb d_J_makeFrames_22 rfl (fun h22 => ?_) (fun h22 => ?_)
    ·
      refine J42 u room _ _ _ hS (by simp [jc_mkFrames, ← hrm, h13, h22]) (jc_hzB hw hd hx9 hrm hC) ?_ ?_
      ·
        exact hh
      exact lv_sub hl [0, 1, 2, 3, 4] rfl
    refine jv_aload_n hx hb d_J_makeFrames_25 rfl (lv_at hl 1 rfl) ?_
    refine lv_aload_n hx hb d_J_makeFrames_26 rfl (lv_at hl 0 rfl) ?_
    refine jv_aload_n hx hb d_J_makeFrames_27 rfl (lv_at hl 1 rfl) ?_
    refine jv_aload_n hx hb d_J_makeFrames_28 rfl (lv_at hl 2 rfl) ?_
    refine jgx_A hc hh ha 1 (by decide) rfl wf_J_71 d_J_makeFrames_29 ?_
    refine lv_iload_n hx hb d_J_makeFrames_32 rfl (lv_at hl 3 rfl) ?_
    obtain ⟨e9, he9⟩ := jc_dpos hw hd hx9 hrm h13
    obtain ⟨hFC, hLo⟩ := hF e9 he9
    refine jx_callV [jv ad 78 (nI x), .int (u 1 (ix a)), .int step] [jv ad 78 (nI x)] hc hh (hFC u x (u 1 (ix a)) step hS hx9 (he9 ▸ hw) (jc_Cp1 (he9 ▸ hC)) (jc_Sfx hS ha h22)) wy_J_236 ⟨by decide, rfl, rfl⟩ ⟨rfl, rfl, by simp only [jr]; omega, by simp only [jr]; omega⟩ rfl hl.1 rfl (by simp [vc_int, vc_ref, vc_long, jv_cat]) ⟨Nat.zero_le _, Nat.zero_le _⟩ d_J_makeFrames_33 (fun r u9 H locs hp hh _ _ => ?_)
    rw [hp.2] at hh
    refine W.eq (g2 := F0 m 36 ls [jv ad 38 (nI (js_free u 5 38 1)), jv ad 78 (nI x)]) (by rw [hp.1]; rfl) ?_
    refine jp_12 hc hh hx9 wf_J_171 d_J_makeFrames_36 (fun H locs hh => ?_)
    refine lv_iinc (k := 4) (v := (room + (-1))) (lv' := [(4, .int (room + (-1))), (0, .ref (ad 0)), (1, jv ad 78 (nI x)), (2, jv ad 6 a), (3, .int step)]) hx hb d_J_makeFrames_39 hl rfl rfl (by decide) rfl (fun ls hl => ?_)
    refine J42 (js_up (jc_mkFrame L u (nI x) (u 1 (ix a)) step) 12 x (nI (js_free u 5 38 1))) (room + (-1)) _ _ _ (jc_hzC1 hLo he9 hd hS hx9 h8 ha hw hC h22) (by simp [jc_mkFrames, jc_mf1, ← hrm, h13, h22, ix_nI (show x < 2 ^ 31 by omega)]) (jc_hzC2 hLo he9 hd hS hx9 h8 ha hw hC hrm h22) ?_ ?_
    ·
      exact hh
    exact lv_sub hl [1, 2, 3, 4, 0] rfl
  refine J11 (2 - (u 6 (ix (u 9 x)))) _ (by unfold jc_room; rw [ix_nI (show x < 2 ^ 31 by omega)]) ?_
  exact lv_sub hl [1, 2, 3, 4, 0] rfl
set_option maxHeartbeats 4000000 in
set_option maxRecDepth 100000 in
theorem c_load (l : Launch) (D : va_G) (aK ad : Nat → Nat) (cA : Nat → ClassId) (d k : Nat) (hk : 4 ≤ k) (L : js_S → Int32 → Int32 → Int32 → js_S) (hMF : jc_MC l D aK ad cA d L k) (u : js_S) (o : Int32) (url : Int32) (step : Int32) (hS : jc_Sh u) (hw : jc_Ow d u o) (hC : jc_Cp u (jc_Nn d) (jc_Dn d)) (hu : jq 256 url) : jx_M l y_J_load b_J_load 8 (some (.object "JointHistory$Document")) (jr (k + 1)) D (jc_tys cA) aK 158 ad (jc_cell ad aK cA) [.ref (ad 0), jv ad 38 o, .int url, .int step] u (fun r : Int32 => some (jv ad 78 r)) (fun r u' => r = nI (js_free u 8 39 0) ∧ u' = (jc_loadB L u o url step)) := by
  refine jx_enter "JointHistory" (by decide) rfl (by simp [lg_sl, vc_int, vc_ref, vc_long, jv_cat]) ?_
  intro p e s m args below meth c A Q H locs ls hQ hc hh hr hlk hl
  have hx := hc.1
  have hb := hc.2.1
  have hl : lv_has ls 8 [(0, .ref (ad 0)), (1, jv ad 38 o), (2, .int url), (3, .int step)] := by simpa [lv_args, vc_int, vc_ref, vc_long, jv_cat] using hl
  have hD1 := jc_Dn_pos d
  have h0 : u 8 (js_free u 8 39 0) = 0 := js_f39z (by have := hC.2.2.1; omega)
  refine jv_aload_n hx hb d_J_load_0 rfl (lv_at hl 1 rfl) ?_
  refine jgx_N hc hh (jc_Ow_ok hw) 3 (by decide) rfl wf_J_208 d_J_load_1 ?_
  refine jv_astore (i := 4) (lv' := [(4, jv ad 78 (u 7 (ix o))), (0, .ref (ad 0)), (1, jv ad 38 o), (2, .int url), (3, .int step)]) hx hb d_J_load_4 hl (by decide) rfl (fun ls hl => ?_)
  refine jv_aload hx hb d_J_load_6 (lv_at hl 0 rfl) ?_
  refine jv_ifnull (tgt := 23) hx hb d_J_load_8 rfl (fun h8 => ?_) (fun h8 => ?_)
  ·
    refine lv_iconst (v := 0) hx hb d_J_load_23 (by decide) ?_
    have J24 : ∀  (ls : Array Slot), lv_has ls 8 [(0, .ref (ad 0)), (1, jv ad 38 o), (2, .int url), (3, .int step), (4, jv ad 78 (u 7 (ix o)))] → W p l e (jr (k + 1)) s m args below meth c H locs 0 0 Q (F0 m 24 ls [.int (jc_boxed u (u 7 (ix o)))]) := by
      intro  ls hl
      refine lv_istore (i := 5) (lv' := [(5, .int (jc_boxed u (u 7 (ix o)))), (0, .ref (ad 0)), (1, jv ad 38 o), (2, .int url), (3, .int step), (4, jv ad 78 (u 7 (ix o)))]) hx hb d_J_load_24 hl (by decide) (by simp [vc_int, vc_ref, vc_long, jv_cat]) (fun ls hl => ?_)
      refine lv_aload_n hx hb d_J_load_26 rfl (lv_at hl 1 rfl) ?_
      refine jv_aload_n hx hb d_J_load_27 rfl (lv_at hl 2 rfl) ?_
      refine jx_callV [jv ad 38 o] [] hc hh (c_freeDocument l D aK ad cA u o) wy_J_222 ⟨by decide, rfl, rfl⟩ ⟨rfl, rfl, by simp only [jr]; omega, by simp only [jr]; omega⟩ rfl hl.1 rfl (by decide) ⟨Nat.zero_le _, Nat.zero_le _⟩ d_J_load_28 (fun r u9 H locs hp hh _ _ => ?_)
      rw [hp.2] at hh
      refine W.eq (g2 := F0 m 31 ls [jv ad 78 (nI (js_free u 8 39 0))]) (by rw [hp.1]; rfl) ?_
      refine jv_astore (i := 6) (lv' := [(6, jv ad 78 (nI (js_free u 8 39 0))), (5, .int (jc_boxed u (u 7 (ix o)))), (0, .ref (ad 0)), (1, jv ad 38 o), (2, .int url), (3, .int step), (4, jv ad 78 (u 7 (ix o)))]) hx hb d_J_load_31 hl (by decide) rfl (fun ls hl => ?_)
      refine lv_iload_n hx hb d_J_load_33 rfl (lv_at hl 4 rfl) ?_
      refine lv_iconst (v := -1) hx hb d_J_load_34 (by decide) ?_
      refine lv_icmp_ne (tgt := 75) hx hb d_J_load_35 rfl (fun h35 => ?_) (fun h35 => ?_)
      ·
        refine lv_aload_n hx hb d_J_load_75 rfl (lv_at hl 2 rfl) ?_
        refine jg_J hc hh 0 (by decide) rfl wf_J_11 d_J_load_76 ?_
        refine lv_iload_n hx hb d_J_load_79 rfl (lv_at hl 4 rfl) ?_
        refine jx_callS [.int url] [.ref (ad 1)] hc hh (c_pageOf l D aK ad cA (jc_freeDoc u o) url) wy_J_202 ⟨rfl, rfl, by simp only [jr]; omega, by simp only [jr]; omega⟩ rfl hl.1 rfl (by simp [vc_int, vc_ref, vc_long, jv_cat]) ⟨Nat.zero_le _, Nat.zero_le _⟩ d_J_load_80 (fun r u9 H locs hp hh _ _ => ?_)
        rw [hp.2] at hh
        refine W.eq (g2 := F0 m 83 ls [.int (url / 8), .ref (ad 1)]) (by rw [hp.1]; rfl) ?_
        refine jax_A hc hh (js_pg hu h35) d_J_load_83 ?_
        refine jv_astore (i := 7) (lv' := [(7, jv ad 6 (url / 8)), (6, jv ad 78 (nI (js_free u 8 39 0))), (5, .int (jc_boxed u (u 7 (ix o)))), (0, .ref (ad 0)), (1, jv ad 38 o), (2, .int url), (3, .int step), (4, jv ad 78 (u 7 (ix o)))]) hx hb d_J_load_84 hl (by decide) (by simp [vc_int, vc_ref, vc_long, jv_cat]) (fun ls hl => ?_)
        refine jv_aload hx hb d_J_load_86 (lv_at hl 0 rfl) ?_
        refine jgx_A hc hh (js_pg hu h35) 0 (by decide) rfl wf_J_68 d_J_load_88 ?_
        refine jk_get (j := 0) hc hh (by decide) wf_J_62 d_J_load_91 ?_
        refine jv_acmp_eq (tgt := 115) (n := 3) hx hb (by decide) (jk_inj hc) (jc_Skx (jc_Sh_fdx hS (jc_Ow_ok hw)) (js_pg hu h35)) (jq_nI (by decide)) d_J_load_94 rfl (fun h94 => ?_) (fun h94 => ?_)
        ·
          refine jv_aload hx hb d_J_load_115 (lv_at hl 1 rfl) ?_
          refine jv_aload hx hb d_J_load_117 (lv_at hl 0 rfl) ?_
          refine jgx_A hc hh (js_pg hu h35) 3 (by decide) rfl wf_J_78 d_J_load_119 ?_
          refine lv_if_ne (tgt := 130) hx hb d_J_load_122 rfl (fun h122 => ?_) (fun h122 => ?_)
          ·
            refine lv_iconst (v := 1) hx hb d_J_load_130 (by decide) ?_
            refine lv_goto (tgt := 135) hx hb d_J_load_131 rfl ?_
            have J135 : ∀  (ls : Array Slot), lv_has ls 8 [(0, .ref (ad 0)), (2, .int url), (3, .int step), (6, jv ad 78 (nI (js_free u 8 39 0))), (7, jv ad 6 (url / 8))] → W p l e (jr (k + 1)) s m args below meth c H locs 0 0 Q (F0 m 135 ls [.int (jc_bx (jc_freeDoc u o) (url / 8) (jc_boxed u (u 7 (ix o)))), jv ad 78 (nI (js_free u 8 39 0))]) := by
              intro  ls hl
              refine jp_11 hc hh js_f39 jc_bx_z wf_J_219 d_J_load_135 (fun H locs hh => ?_)
              refine jv_aload hx hb d_J_load_138 (lv_at hl 3 rfl) ?_
              refine jv_aload hx hb d_J_load_140 (lv_at hl 3 rfl) ?_
              refine jg_D hc hh js_f39 3 (by decide) rfl wf_J_219 d_J_load_142 ?_
              refine lv_if_eq (tgt := 155) hx hb d_J_load_145 rfl (fun h145 => ?_) (fun h145 => ?_)
              ·
                refine lv_iload_n hx hb d_J_load_155 rfl (lv_at hl 1 rfl) ?_
                refine jx_callS [.int url] [jv ad 78 (nI (js_free u 8 39 0))] hc hh (c_hostOf l D aK ad cA (js_up (jc_freeDoc u o) 11 (js_free u 8 39 0) (jc_bx (jc_freeDoc u o) (url / 8) (jc_boxed u (u 7 (ix o))))) url) wy_J_205 ⟨rfl, rfl, by simp only [jr]; omega, by simp only [jr]; omega⟩ rfl hl.1 rfl (by simp [vc_int, vc_ref, vc_long, jv_cat]) ⟨Nat.zero_le _, Nat.zero_le _⟩ d_J_load_156 (fun r u9 H locs hp hh _ _ => ?_)
                rw [hp.2] at hh
                refine W.eq (g2 := F0 m 159 ls [.int (url / 64), jv ad 78 (nI (js_free u 8 39 0))]) (by rw [hp.1]; rfl) ?_
                refine jp_10 hc hh js_f39 wf_J_168 d_J_load_159 (fun H locs hh => ?_)
                have J162 : ∀  (H : Heap) (locs : List Loc) (ls : Array Slot), jx_H D 158 ad (jc_cell ad aK cA (jc_ldC (jc_freeDoc u o) (js_free u 8 39 0) url (jc_bx (jc_freeDoc u o) (url / 8) (jc_boxed u (u 7 (ix o)))))) A s.heap H locs → lv_has ls 8 [(0, .ref (ad 0)), (2, .int url), (3, .int step), (6, jv ad 78 (nI (js_free u 8 39 0))), (7, jv ad 6 (url / 8))] → W p l e (jr (k + 1)) s m args below meth c H locs 0 0 Q (F0 m 162 ls []) := by
                  intro  H locs ls hh hl
                  refine lv_aload_n hx hb d_J_load_162 rfl (lv_at hl 0 rfl) ?_
                  refine jv_aload hx hb d_J_load_163 (lv_at hl 3 rfl) ?_
                  refine jv_aload hx hb d_J_load_165 (lv_at hl 4 rfl) ?_
                  refine lv_iload_n hx hb d_J_load_167 rfl (lv_at hl 2 rfl) ?_
                  refine jx_callV [jv ad 78 (nI (js_free u 8 39 0)), jv ad 6 (url / 8), .int step] [] hc hh (hMF (jc_ldC (jc_freeDoc u o) (js_free u 8 39 0) url (jc_bx (jc_freeDoc u o) (url / 8) (jc_boxed u (u 7 (ix o))))) (js_free u 8 39 0) (url / 8) step (jc_Sh_ldC (jc_Sh_fdx hS (jc_Ow_ok hw))) js_f39 (by rw [(jc_ldC_fd _ rfl).1]; decide) (js_pg hu h35) (by rw [(jc_ldC_fd _ rfl).2]; exact jc_Ow_Gr hw (jc_ldC_Gr (jc_Gr_doc h0) h0)) (jc_Cp_Gr (jc_Cp_le hC (by omega) (by omega)) (jc_ldC_Gr (jc_Gr_doc h0) h0) (by omega))) wy_J_229 ⟨by decide, rfl, rfl⟩ ⟨rfl, rfl, by simp only [jr]; omega, by simp only [jr]; omega⟩ rfl hl.1 rfl (by decide) ⟨Nat.zero_le _, Nat.zero_le _⟩ d_J_load_168 (fun r u9 H locs hp hh _ _ => ?_)
                  rw [hp.2] at hh
                  refine W.eq (g2 := F0 m 171 ls []) rfl ?_
                  refine jv_aload hx hb d_J_load_171 (lv_at hl 3 rfl) ?_
                  exact jx_aret (r := (nI (js_free u 8 39 0))) hc hh hQ hlk hr (jv_or _ _ _) rfl ⟨rfl, by simp [jc_loadB, jc_ldU, h35, h94]⟩ d_J_load_173
                have e1 : (jc_ldC (jc_freeDoc u o) (js_free u 8 39 0) url (jc_bx (jc_freeDoc u o) (url / 8) (jc_boxed u (u 7 (ix o))))) = (js_up (js_up (jc_freeDoc u o) 11 (js_free u 8 39 0) (jc_bx (jc_freeDoc u o) (url / 8) (jc_boxed u (u 7 (ix o))))) 10 (js_free u 8 39 0) (url / 64)) := by first | (simp [jc_ldC, jc_opq, h145]; done) | (simp [jc_ldC, jc_opq, eq_true h145]; done)
                refine J162 _ _ _ ?_ ?_
                ·
                  try rw [e1]
                  exact hh
                try rw [e1]
                exact lv_sub hl [0, 1, 2, 3, 4] rfl
              refine lv_aload_n hx hb d_J_load_148 rfl (lv_at hl 0 rfl) ?_
              refine jx_callV [] [jv ad 78 (nI (js_free u 8 39 0))] hc hh (c_giveOpaqueOrigin l D aK ad cA (js_up (jc_freeDoc u o) 11 (js_free u 8 39 0) (jc_bx (jc_freeDoc u o) (url / 8) (jc_boxed u (u 7 (ix o)))))) wy_J_226 ⟨by decide, rfl, rfl⟩ ⟨rfl, rfl, by simp only [jr]; omega, by simp only [jr]; omega⟩ rfl hl.1 rfl (by simp [vc_int, vc_ref, vc_long, jv_cat]) ⟨Nat.zero_le _, Nat.zero_le _⟩ d_J_load_149 (fun r u9 H locs hp hh _ _ => ?_)
              rw [hp.2] at hh
              refine W.eq (g2 := F0 m 152 ls [.int (4 + (js_up (jc_freeDoc u o) 11 (js_free u 8 39 0) (jc_bx (jc_freeDoc u o) (url / 8) (jc_boxed u (u 7 (ix o))))) 24 0), jv ad 78 (nI (js_free u 8 39 0))]) (by rw [hp.1]; rfl) ?_
              refine lv_goto (tgt := 159) hx hb d_J_load_152 rfl ?_
              refine jp_10 hc hh js_f39 wf_J_168 d_J_load_159 (fun H locs hh => ?_)
              have J162 : ∀  (H : Heap) (locs : List Loc) (ls : Array Slot), jx_H D 158 ad (jc_cell ad aK cA (jc_ldC (jc_freeDoc u o) (js_free u 8 39 0) url (jc_bx (jc_freeDoc u o) (url / 8) (jc_boxed u (u 7 (ix o)))))) A s.heap H locs → lv_has ls 8 [(0, .ref (ad 0)), (2, .int url), (3, .int step), (6, jv ad 78 (nI (js_free u 8 39 0))), (7, jv ad 6 (url / 8))] → W p l e (jr (k + 1)) s m args below meth c H locs 0 0 Q (F0 m 162 ls []) := by
                intro  H locs ls hh hl
                refine lv_aload_n hx hb d_J_load_162 rfl (lv_at hl 0 rfl) ?_
                refine jv_aload hx hb d_J_load_163 (lv_at hl 3 rfl) ?_
                refine jv_aload hx hb d_J_load_165 (lv_at hl 4 rfl) ?_
                refine lv_iload_n hx hb d_J_load_167 rfl (lv_at hl 2 rfl) ?_
                refine jx_callV [jv ad 78 (nI (js_free u 8 39 0)), jv ad 6 (url / 8), .int step] [] hc hh (hMF (jc_ldC (jc_freeDoc u o) (js_free u 8 39 0) url (jc_bx (jc_freeDoc u o) (url / 8) (jc_boxed u (u 7 (ix o))))) (js_free u 8 39 0) (url / 8) step (jc_Sh_ldC (jc_Sh_fdx hS (jc_Ow_ok hw))) js_f39 (by rw [(jc_ldC_fd _ rfl).1]; decide) (js_pg hu h35) (by rw [(jc_ldC_fd _ rfl).2]; exact jc_Ow_Gr hw (jc_ldC_Gr (jc_Gr_doc h0) h0)) (jc_Cp_Gr (jc_Cp_le hC (by omega) (by omega)) (jc_ldC_Gr (jc_Gr_doc h0) h0) (by omega))) wy_J_229 ⟨by decide, rfl, rfl⟩ ⟨rfl, rfl, by simp only [jr]; omega, by simp only [jr]; omega⟩ rfl hl.1 rfl (by decide) ⟨Nat.zero_le _, Nat.zero_le _⟩ d_J_load_168 (fun r u9 H locs hp hh _ _ => ?_)
                rw [hp.2] at hh
                refine W.eq (g2 := F0 m 171 ls []) rfl ?_
                refine jv_aload hx hb d_J_load_171 (lv_at hl 3 rfl) ?_
                exact jx_aret (r := (nI (js_free u 8 39 0))) hc hh hQ hlk hr (jv_or _ _ _) rfl ⟨rfl, by simp [jc_loadB, jc_ldU, h35, h94]⟩ d_J_load_173
              have e2 : (jc_ldC (jc_freeDoc u o) (js_free u 8 39 0) url (jc_bx (jc_freeDoc u o) (url / 8) (jc_boxed u (u 7 (ix o))))) = (js_up (js_up (js_up (jc_freeDoc u o) 11 (js_free u 8 39 0) (jc_bx (jc_freeDoc u o) (url / 8) (jc_boxed u (u 7 (ix o))))) 24 0 ((js_up (jc_freeDoc u o) 11 (js_free u 8 39 0) (jc_bx (jc_freeDoc u o) (url / 8) (jc_boxed u (u 7 (ix o))))) 24 0 + 1)) 10 (js_free u 8 39 0) (4 + (js_up (jc_freeDoc u o) 11 (js_free u 8 39 0) (jc_bx (jc_freeDoc u o) (url / 8) (jc_boxed u (u 7 (ix o))))) 24 0)) := by simp [jc_ldC, jc_opq, h145]
              refine J162 _ _ _ ?_ ?_
              ·
                try rw [e2]
                exact hh
              try rw [e2]
              exact lv_sub hl [0, 1, 2, 3, 4] rfl
            have e3 : (jc_bx (jc_freeDoc u o) (url / 8) (jc_boxed u (u 7 (ix o)))) = 1 := by first | (simp [jc_bx, h35, h94, h122]; done) | (simp [jc_bx, h35, eq_true h94, h122]; done)
            refine W.eq (g2 := F0 m 135 ls [.int (jc_bx (jc_freeDoc u o) (url / 8) (jc_boxed u (u 7 (ix o)))), jv ad 78 (nI (js_free u 8 39 0))]) (by first | (rw [e3]; done) | (rw [e3]; rfl)) ?_
            refine J135 _ ?_
            exact lv_sub hl [3, 5, 6, 1, 0] rfl
          refine lv_iload hx hb d_J_load_125 (lv_at hl 2 rfl) ?_
          refine lv_if_eq (tgt := 134) hx hb d_J_load_127 rfl (fun h127 => ?_) (fun h127 => ?_)
          ·
            refine lv_iconst (v := 0) hx hb d_J_load_134 (by decide) ?_
            have J135 : ∀  (ls : Array Slot), lv_has ls 8 [(0, .ref (ad 0)), (2, .int url), (3, .int step), (6, jv ad 78 (nI (js_free u 8 39 0))), (7, jv ad 6 (url / 8))] → W p l e (jr (k + 1)) s m args below meth c H locs 0 0 Q (F0 m 135 ls [.int (jc_bx (jc_freeDoc u o) (url / 8) (jc_boxed u (u 7 (ix o)))), jv ad 78 (nI (js_free u 8 39 0))]) := by
              intro  ls hl
              refine jp_11 hc hh js_f39 jc_bx_z wf_J_219 d_J_load_135 (fun H locs hh => ?_)
              refine jv_aload hx hb d_J_load_138 (lv_at hl 3 rfl) ?_
              refine jv_aload hx hb d_J_load_140 (lv_at hl 3 rfl) ?_
              refine jg_D hc hh js_f39 3 (by decide) rfl wf_J_219 d_J_load_142 ?_
              refine lv_if_eq (tgt := 155) hx hb d_J_load_145 rfl (fun h145 => ?_) (fun h145 => ?_)
              ·
                refine lv_iload_n hx hb d_J_load_155 rfl (lv_at hl 1 rfl) ?_
                refine jx_callS [.int url] [jv ad 78 (nI (js_free u 8 39 0))] hc hh (c_hostOf l D aK ad cA (js_up (jc_freeDoc u o) 11 (js_free u 8 39 0) (jc_bx (jc_freeDoc u o) (url / 8) (jc_boxed u (u 7 (ix o))))) url) wy_J_205 ⟨rfl, rfl, by simp only [jr]; omega, by simp only [jr]; omega⟩ rfl hl.1 rfl (by simp [vc_int, vc_ref, vc_long, jv_cat]) ⟨Nat.zero_le _, Nat.zero_le _⟩ d_J_load_156 (fun r u9 H locs hp hh _ _ => ?_)
                rw [hp.2] at hh
                refine W.eq (g2 := F0 m 159 ls [.int (url / 64), jv ad 78 (nI (js_free u 8 39 0))]) (by rw [hp.1]; rfl) ?_
                refine jp_10 hc hh js_f39 wf_J_168 d_J_load_159 (fun H locs hh => ?_)
                have J162 : ∀  (H : Heap) (locs : List Loc) (ls : Array Slot), jx_H D 158 ad (jc_cell ad aK cA (jc_ldC (jc_freeDoc u o) (js_free u 8 39 0) url (jc_bx (jc_freeDoc u o) (url / 8) (jc_boxed u (u 7 (ix o)))))) A s.heap H locs → lv_has ls 8 [(0, .ref (ad 0)), (2, .int url), (3, .int step), (6, jv ad 78 (nI (js_free u 8 39 0))), (7, jv ad 6 (url / 8))] → W p l e (jr (k + 1)) s m args below meth c H locs 0 0 Q (F0 m 162 ls []) := by
                  intro  H locs ls hh hl
                  refine lv_aload_n hx hb d_J_load_162 rfl (lv_at hl 0 rfl) ?_
                  refine jv_aload hx hb d_J_load_163 (lv_at hl 3 rfl) ?_
                  refine jv_aload hx hb d_J_load_165 (lv_at hl 4 rfl) ?_
                  refine lv_iload_n hx hb d_J_load_167 rfl (lv_at hl 2 rfl) ?_
                  refine jx_callV [jv ad 78 (nI (js_free u 8 39 0)), jv ad 6 (url / 8), .int step] [] hc hh (hMF (jc_ldC (jc_freeDoc u o) (js_free u 8 39 0) url (jc_bx (jc_freeDoc u o) (url / 8) (jc_boxed u (u 7 (ix o))))) (js_free u 8 39 0) (url / 8) step (jc_Sh_ldC (jc_Sh_fdx hS (jc_Ow_ok hw))) js_f39 (by rw [(jc_ldC_fd _ rfl).1]; decide) (js_pg hu h35) (by rw [(jc_ldC_fd _ rfl).2]; exact jc_Ow_Gr hw (jc_ldC_Gr (jc_Gr_doc h0) h0)) (jc_Cp_Gr (jc_Cp_le hC (by omega) (by omega)) (jc_ldC_Gr (jc_Gr_doc h0) h0) (by omega))) wy_J_229 ⟨by decide, rfl, rfl⟩ ⟨rfl, rfl, by simp only [jr]; omega, by simp only [jr]; omega⟩ rfl hl.1 rfl (by decide) ⟨Nat.zero_le _, Nat.zero_le _⟩ d_J_load_168 (fun r u9 H locs hp hh _ _ => ?_)
                  rw [hp.2] at hh
                  refine W.eq (g2 := F0 m 171 ls []) rfl ?_
                  refine jv_aload hx hb d_J_load_171 (lv_at hl 3 rfl) ?_
                  exact jx_aret (r := (nI (js_free u 8 39 0))) hc hh hQ hlk hr (jv_or _ _ _) rfl ⟨rfl, by simp [jc_loadB, jc_ldU, h35, h94]⟩ d_J_load_173
                have e4 : (jc_ldC (jc_freeDoc u o) (js_free u 8 39 0) url (jc_bx (jc_freeDoc u o) (url / 8) (jc_boxed u (u 7 (ix o))))) = (js_up (js_up (jc_freeDoc u o) 11 (js_free u 8 39 0) (jc_bx (jc_freeDoc u o) (url / 8) (jc_boxed u (u 7 (ix o))))) 10 (js_free u 8 39 0) (url / 64)) := by first | (simp [jc_ldC, jc_opq, h145]; done) | (simp [jc_ldC, jc_opq, eq_true h145]; done)
                refine J162 _ _ _ ?_ ?_
                ·
                  try rw [e4]
                  exact hh
                try rw [e4]
                exact lv_sub hl [0, 1, 2, 3, 4] rfl
              refine lv_aload_n hx hb d_J_load_148 rfl (lv_at hl 0 rfl) ?_
              refine jx_callV [] [jv ad 78 (nI (js_free u 8 39 0))] hc hh (c_giveOpaqueOrigin l D aK ad cA (js_up (jc_freeDoc u o) 11 (js_free u 8 39 0) (jc_bx (jc_freeDoc u o) (url / 8) (jc_boxed u (u 7 (ix o)))))) wy_J_226 ⟨by decide, rfl, rfl⟩ ⟨rfl, rfl, by simp only [jr]; omega, by simp only [jr]; omega⟩ rfl hl.1 rfl (by simp [vc_int, vc_ref, vc_long, jv_cat]) ⟨Nat.zero_le _, Nat.zero_le _⟩ d_J_load_149 (fun r u9 H locs hp hh _ _ => ?_)
              rw [hp.2] at hh
              refine W.eq (g2 := F0 m 152 ls [.int (4 + (js_up (jc_freeDoc u o) 11 (js_free u 8 39 0) (jc_bx (jc_freeDoc u o) (url / 8) (jc_boxed u (u 7 (ix o))))) 24 0), jv ad 78 (nI (js_free u 8 39 0))]) (by rw [hp.1]; rfl) ?_
              refine lv_goto (tgt := 159) hx hb d_J_load_152 rfl ?_
              refine jp_10 hc hh js_f39 wf_J_168 d_J_load_159 (fun H locs hh => ?_)
              have J162 : ∀  (H : Heap) (locs : List Loc) (ls : Array Slot), jx_H D 158 ad (jc_cell ad aK cA (jc_ldC (jc_freeDoc u o) (js_free u 8 39 0) url (jc_bx (jc_freeDoc u o) (url / 8) (jc_boxed u (u 7 (ix o)))))) A s.heap H locs → lv_has ls 8 [(0, .ref (ad 0)), (2, .int url), (3, .int step), (6, jv ad 78 (nI (js_free u 8 39 0))), (7, jv ad 6 (url / 8))] → W p l e (jr (k + 1)) s m args below meth c H locs 0 0 Q (F0 m 162 ls []) := by
                intro  H locs ls hh hl
                refine lv_aload_n hx hb d_J_load_162 rfl (lv_at hl 0 rfl) ?_
                refine jv_aload hx hb d_J_load_163 (lv_at hl 3 rfl) ?_
                refine jv_aload hx hb d_J_load_165 (lv_at hl 4 rfl) ?_
                refine lv_iload_n hx hb d_J_load_167 rfl (lv_at hl 2 rfl) ?_
                refine jx_callV [jv ad 78 (nI (js_free u 8 39 0)), jv ad 6 (url / 8), .int step] [] hc hh (hMF (jc_ldC (jc_freeDoc u o) (js_free u 8 39 0) url (jc_bx (jc_freeDoc u o) (url / 8) (jc_boxed u (u 7 (ix o))))) (js_free u 8 39 0) (url / 8) step (jc_Sh_ldC (jc_Sh_fdx hS (jc_Ow_ok hw))) js_f39 (by rw [(jc_ldC_fd _ rfl).1]; decide) (js_pg hu h35) (by rw [(jc_ldC_fd _ rfl).2]; exact jc_Ow_Gr hw (jc_ldC_Gr (jc_Gr_doc h0) h0)) (jc_Cp_Gr (jc_Cp_le hC (by omega) (by omega)) (jc_ldC_Gr (jc_Gr_doc h0) h0) (by omega))) wy_J_229 ⟨by decide, rfl, rfl⟩ ⟨rfl, rfl, by simp only [jr]; omega, by simp only [jr]; omega⟩ rfl hl.1 rfl (by decide) ⟨Nat.zero_le _, Nat.zero_le _⟩ d_J_load_168 (fun r u9 H locs hp hh _ _ => ?_)
                rw [hp.2] at hh
                refine W.eq (g2 := F0 m 171 ls []) rfl ?_
                refine jv_aload hx hb d_J_load_171 (lv_at hl 3 rfl) ?_
                exact jx_aret (r := (nI (js_free u 8 39 0))) hc hh hQ hlk hr (jv_or _ _ _) rfl ⟨rfl, by simp [jc_loadB, jc_ldU, h35, h94]⟩ d_J_load_173
              have e5 : (jc_ldC (jc_freeDoc u o) (js_free u 8 39 0) url (jc_bx (jc_freeDoc u o) (url / 8) (jc_boxed u (u 7 (ix o))))) = (js_up (js_up (js_up (jc_freeDoc u o) 11 (js_free u 8 39 0) (jc_bx (jc_freeDoc u o) (url / 8) (jc_boxed u (u 7 (ix o))))) 24 0 ((js_up (jc_freeDoc u o) 11 (js_free u 8 39 0) (jc_bx (jc_freeDoc u o) (url / 8) (jc_boxed u (u 7 (ix o))))) 24 0 + 1)) 10 (js_free u 8 39 0) (4 + (js_up (jc_freeDoc u o) 11 (js_free u 8 39 0) (jc_bx (jc_freeDoc u o) (url / 8) (jc_boxed u (u 7 (ix o))))) 24 0)) := by simp [jc_ldC, jc_opq, h145]
              refine J162 _ _ _ ?_ ?_
              ·
                try rw [e5]
                exact hh
              try rw [e5]
              exact lv_sub hl [0, 1, 2, 3, 4] rfl
            have e6 : (jc_bx (jc_freeDoc u o) (url / 8) (jc_boxed u (u 7 (ix o)))) = 0 := by first | (simp [jc_bx, h35, h94, h122, h127]; done) | (simp [jc_bx, h35, eq_true h94, eq_true h122, eq_true h127]; done)
            refine W.eq (g2 := F0 m 135 ls [.int (jc_bx (jc_freeDoc u o) (url / 8) (jc_boxed u (u 7 (ix o)))), jv ad 78 (nI (js_free u 8 39 0))]) (by first | (rw [e6]; done) | (rw [e6]; rfl)) ?_
            refine J135 _ ?_
            exact lv_sub hl [3, 5, 6, 1, 0] rfl
          refine lv_iconst (v := 1) hx hb d_J_load_130 (by decide) ?_
          refine lv_goto (tgt := 135) hx hb d_J_load_131 rfl ?_
          have J135 : ∀  (ls : Array Slot), lv_has ls 8 [(0, .ref (ad 0)), (2, .int url), (3, .int step), (6, jv ad 78 (nI (js_free u 8 39 0))), (7, jv ad 6 (url / 8))] → W p l e (jr (k + 1)) s m args below meth c H locs 0 0 Q (F0 m 135 ls [.int (jc_bx (jc_freeDoc u o) (url / 8) (jc_boxed u (u 7 (ix o)))), jv ad 78 (nI (js_free u 8 39 0))]) := by
            intro  ls hl
            refine jp_11 hc hh js_f39 jc_bx_z wf_J_219 d_J_load_135 (fun H locs hh => ?_)
            refine jv_aload hx hb d_J_load_138 (lv_at hl 3 rfl) ?_
            refine jv_aload hx hb d_J_load_140 (lv_at hl 3 rfl) ?_
            refine jg_D hc hh js_f39 3 (by decide) rfl wf_J_219 d_J_load_142 ?_
            refine lv_if_eq (tgt := 155) hx hb d_J_load_145 rfl (fun h145 => ?_) (fun h145 => ?_)
            ·
              refine lv_iload_n hx hb d_J_load_155 rfl (lv_at hl 1 rfl) ?_
              refine jx_callS [.int url] [jv ad 78 (nI (js_free u 8 39 0))] hc hh (c_hostOf l D aK ad cA (js_up (jc_freeDoc u o) 11 (js_free u 8 39 0) (jc_bx (jc_freeDoc u o) (url / 8) (jc_boxed u (u 7 (ix o))))) url) wy_J_205 ⟨rfl, rfl, by simp only [jr]; omega, by simp only [jr]; omega⟩ rfl hl.1 rfl (by simp [vc_int, vc_ref, vc_long, jv_cat]) ⟨Nat.zero_le _, Nat.zero_le _⟩ d_J_load_156 (fun r u9 H locs hp hh _ _ => ?_)
              rw [hp.2] at hh
              refine W.eq (g2 := F0 m 159 ls [.int (url / 64), jv ad 78 (nI (js_free u 8 39 0))]) (by rw [hp.1]; rfl) ?_
              refine jp_10 hc hh js_f39 wf_J_168 d_J_load_159 (fun H locs hh => ?_)
              have J162 : ∀  (H : Heap) (locs : List Loc) (ls : Array Slot), jx_H D 158 ad (jc_cell ad aK cA (jc_ldC (jc_freeDoc u o) (js_free u 8 39 0) url (jc_bx (jc_freeDoc u o) (url / 8) (jc_boxed u (u 7 (ix o)))))) A s.heap H locs → lv_has ls 8 [(0, .ref (ad 0)), (2, .int url), (3, .int step), (6, jv ad 78 (nI (js_free u 8 39 0))), (7, jv ad 6 (url / 8))] → W p l e (jr (k + 1)) s m args below meth c H locs 0 0 Q (F0 m 162 ls []) := by
                intro  H locs ls hh hl
                refine lv_aload_n hx hb d_J_load_162 rfl (lv_at hl 0 rfl) ?_
                refine jv_aload hx hb d_J_load_163 (lv_at hl 3 rfl) ?_
                refine jv_aload hx hb d_J_load_165 (lv_at hl 4 rfl) ?_
                refine lv_iload_n hx hb d_J_load_167 rfl (lv_at hl 2 rfl) ?_
                refine jx_callV [jv ad 78 (nI (js_free u 8 39 0)), jv ad 6 (url / 8), .int step] [] hc hh (hMF (jc_ldC (jc_freeDoc u o) (js_free u 8 39 0) url (jc_bx (jc_freeDoc u o) (url / 8) (jc_boxed u (u 7 (ix o))))) (js_free u 8 39 0) (url / 8) step (jc_Sh_ldC (jc_Sh_fdx hS (jc_Ow_ok hw))) js_f39 (by rw [(jc_ldC_fd _ rfl).1]; decide) (js_pg hu h35) (by rw [(jc_ldC_fd _ rfl).2]; exact jc_Ow_Gr hw (jc_ldC_Gr (jc_Gr_doc h0) h0)) (jc_Cp_Gr (jc_Cp_le hC (by omega) (by omega)) (jc_ldC_Gr (jc_Gr_doc h0) h0) (by omega))) wy_J_229 ⟨by decide, rfl, rfl⟩ ⟨rfl, rfl, by simp only [jr]; omega, by simp only [jr]; omega⟩ rfl hl.1 rfl (by decide) ⟨Nat.zero_le _, Nat.zero_le _⟩ d_J_load_168 (fun r u9 H locs hp hh _ _ => ?_)
                rw [hp.2] at hh
                refine W.eq (g2 := F0 m 171 ls []) rfl ?_
                refine jv_aload hx hb d_J_load_171 (lv_at hl 3 rfl) ?_
                exact jx_aret (r := (nI (js_free u 8 39 0))) hc hh hQ hlk hr (jv_or _ _ _) rfl ⟨rfl, by simp [jc_loadB, jc_ldU, h35, h94]⟩ d_J_load_173
              have e7 : (jc_ldC (jc_freeDoc u o) (js_free u 8 39 0) url (jc_bx (jc_freeDoc u o) (url / 8) (jc_boxed u (u 7 (ix o))))) = (js_up (js_up (jc_freeDoc u o) 11 (js_free u 8 39 0) (jc_bx (jc_freeDoc u o) (url / 8) (jc_boxed u (u 7 (ix o))))) 10 (js_free u 8 39 0) (url / 64)) := by first | (simp [jc_ldC, jc_opq, h145]; done) | (simp [jc_ldC, jc_opq, eq_true h145]; done)
              refine J162 _ _ _ ?_ ?_
              ·
                try rw [e7]
                exact hh
              try rw [e7]
              exact lv_sub hl [0, 1, 2, 3, 4] rfl
            refine lv_aload_n hx hb d_J_load_148 rfl (lv_at hl 0 rfl) ?_
            refine jx_callV [] [jv ad 78 (nI (js_free u 8 39 0))] hc hh (c_giveOpaqueOrigin l D aK ad cA (js_up (jc_freeDoc u o) 11 (js_free u 8 39 0) (jc_bx (jc_freeDoc u o) (url / 8) (jc_boxed u (u 7 (ix o)))))) wy_J_226 ⟨by decide, rfl, rfl⟩ ⟨rfl, rfl, by simp only [jr]; omega, by simp only [jr]; omega⟩ rfl hl.1 rfl (by simp [vc_int, vc_ref, vc_long, jv_cat]) ⟨Nat.zero_le _, Nat.zero_le _⟩ d_J_load_149 (fun r u9 H locs hp hh _ _ => ?_)
            rw [hp.2] at hh
            refine W.eq (g2 := F0 m 152 ls [.int (4 + (js_up (jc_freeDoc u o) 11 (js_free u 8 39 0) (jc_bx (jc_freeDoc u o) (url / 8) (jc_boxed u (u 7 (ix o))))) 24 0), jv ad 78 (nI (js_free u 8 39 0))]) (by rw [hp.1]; rfl) ?_
            refine lv_goto (tgt := 159) hx hb d_J_load_152 rfl ?_
            refine jp_10 hc hh js_f39 wf_J_168 d_J_load_159 (fun H locs hh => ?_)
            have J162 : ∀  (H : Heap) (locs : List Loc) (ls : Array Slot), jx_H D 158 ad (jc_cell ad aK cA (jc_ldC (jc_freeDoc u o) (js_free u 8 39 0) url (jc_bx (jc_freeDoc u o) (url / 8) (jc_boxed u (u 7 (ix o)))))) A s.heap H locs → lv_has ls 8 [(0, .ref (ad 0)), (2, .int url), (3, .int step), (6, jv ad 78 (nI (js_free u 8 39 0))), (7, jv ad 6 (url / 8))] → W p l e (jr (k + 1)) s m args below meth c H locs 0 0 Q (F0 m 162 ls []) := by
              intro  H locs ls hh hl
              refine lv_aload_n hx hb d_J_load_162 rfl (lv_at hl 0 rfl) ?_
              refine jv_aload hx hb d_J_load_163 (lv_at hl 3 rfl) ?_
              refine jv_aload hx hb d_J_load_165 (lv_at hl 4 rfl) ?_
              refine lv_iload_n hx hb d_J_load_167 rfl (lv_at hl 2 rfl) ?_
              refine jx_callV [jv ad 78 (nI (js_free u 8 39 0)), jv ad 6 (url / 8), .int step] [] hc hh (hMF (jc_ldC (jc_freeDoc u o) (js_free u 8 39 0) url (jc_bx (jc_freeDoc u o) (url / 8) (jc_boxed u (u 7 (ix o))))) (js_free u 8 39 0) (url / 8) step (jc_Sh_ldC (jc_Sh_fdx hS (jc_Ow_ok hw))) js_f39 (by rw [(jc_ldC_fd _ rfl).1]; decide) (js_pg hu h35) (by rw [(jc_ldC_fd _ rfl).2]; exact jc_Ow_Gr hw (jc_ldC_Gr (jc_Gr_doc h0) h0)) (jc_Cp_Gr (jc_Cp_le hC (by omega) (by omega)) (jc_ldC_Gr (jc_Gr_doc h0) h0) (by omega))) wy_J_229 ⟨by decide, rfl, rfl⟩ ⟨rfl, rfl, by simp only [jr]; omega, by simp only [jr]; omega⟩ rfl hl.1 rfl (by decide) ⟨Nat.zero_le _, Nat.zero_le _⟩ d_J_load_168 (fun r u9 H locs hp hh _ _ => ?_)
              rw [hp.2] at hh
              refine W.eq (g2 := F0 m 171 ls []) rfl ?_
              refine jv_aload hx hb d_J_load_171 (lv_at hl 3 rfl) ?_
              exact jx_aret (r := (nI (js_free u 8 39 0))) hc hh hQ hlk hr (jv_or _ _ _) rfl ⟨rfl, by simp [jc_loadB, jc_ldU, h35, h94]⟩ d_J_load_173
            have e8 : (jc_ldC (jc_freeDoc u o) (js_free u 8 39 0) url (jc_bx (jc_freeDoc u o) (url / 8) (jc_boxed u (u 7 (ix o))))) = (js_up (js_up (js_up (jc_freeDoc u o) 11 (js_free u 8 39 0) (jc_bx (jc_freeDoc u o) (url / 8) (jc_boxed u (u 7 (ix o))))) 24 0 ((js_up (jc_freeDoc u o) 11 (js_free u 8 39 0) (jc_bx (jc_freeDoc u o) (url / 8) (jc_boxed u (u 7 (ix o))))) 24 0 + 1)) 10 (js_free u 8 39 0) (4 + (js_up (jc_freeDoc u o) 11 (js_free u 8 39 0) (jc_bx (jc_freeDoc u o) (url / 8) (jc_boxed u (u 7 (ix o))))) 24 0)) := by simp [jc_ldC, jc_opq, h145]
            refine J162 _ _ _ ?_ ?_
            ·
              try rw [e8]
              exact hh
            try rw [e8]
            exact lv_sub hl [0, 1, 2, 3, 4] rfl
          have e9 : (jc_bx (jc_freeDoc u o) (url / 8) (jc_boxed u (u 7 (ix o)))) = 1 := by first | (simp [jc_bx, h35, h94, h122, h127]; done) | (simp [jc_bx, h35, eq_true h94, eq_true h122, h127]; done)
          refine W.eq (g2 := F0 m 135 ls [.int (jc_bx (jc_freeDoc u o) (url / 8) (jc_boxed u (u 7 (ix o)))), jv ad 78 (nI (js_free u 8 39 0))]) (by first | (rw [e9]; done) | (rw [e9]; rfl)) ?_
          refine J135 _ ?_
          exact lv_sub hl [3, 5, 6, 1, 0] rfl
        refine jv_aload hx hb d_J_load_97 (lv_at hl 1 rfl) ?_
        refine lv_iconst (v := 0) hx hb d_J_load_99 (by decide) ?_
        refine jp_11 hc hh js_f39 (by decide) wf_J_219 d_J_load_100 (fun H locs hh => ?_)
        refine jv_aload hx hb d_J_load_103 (lv_at hl 1 rfl) ?_
        refine lv_aload_n hx hb d_J_load_105 rfl (lv_at hl 3 rfl) ?_
        refine jx_callV [] [jv ad 78 (nI (js_free u 8 39 0))] hc hh (c_giveOpaqueOrigin l D aK ad cA (js_up (jc_freeDoc u o) 11 (js_free u 8 39 0) 0)) wy_J_226 ⟨by decide, rfl, rfl⟩ ⟨rfl, rfl, by simp only [jr]; omega, by simp only [jr]; omega⟩ rfl hl.1 rfl (by simp [vc_int, vc_ref, vc_long, jv_cat]) ⟨Nat.zero_le _, Nat.zero_le _⟩ d_J_load_106 (fun r u9 H locs hp hh _ _ => ?_)
        rw [hp.2] at hh
        refine W.eq (g2 := F0 m 109 ls [.int (4 + (js_up (jc_freeDoc u o) 11 (js_free u 8 39 0) 0) 24 0), jv ad 78 (nI (js_free u 8 39 0))]) (by rw [hp.1]; rfl) ?_
        refine jp_10 hc hh js_f39 wf_J_168 d_J_load_109 (fun H locs hh => ?_)
        refine jv_aload hx hb d_J_load_112 (lv_at hl 1 rfl) ?_
        exact jx_aret (r := (nI (js_free u 8 39 0))) hc hh hQ hlk hr (jv_or _ _ _) rfl ⟨rfl, by simp [jc_loadB, jc_ldU, jc_opq, h35, h94]⟩ d_J_load_114
      refine jv_aload hx hb d_J_load_38 (lv_at hl 0 rfl) ?_
      refine lv_iload hx hb d_J_load_40 (lv_at hl 1 rfl) ?_
      refine jp_11 hc hh js_f39 jc_boxed_z wf_J_219 d_J_load_42 (fun H locs hh => ?_)
      refine jv_aload hx hb d_J_load_45 (lv_at hl 0 rfl) ?_
      refine jv_aload hx hb d_J_load_47 (lv_at hl 6 rfl) ?_
      refine jv_ifnull (tgt := 57) hx hb d_J_load_49 rfl (fun h49 => ?_) (fun h49 => ?_)
      ·
        refine lv_aload_n hx hb d_J_load_57 rfl (lv_at hl 2 rfl) ?_
        refine jx_callV [] [jv ad 78 (nI (js_free u 8 39 0))] hc hh (c_giveOpaqueOrigin l D aK ad cA (js_up (jc_freeDoc u o) 11 (js_free u 8 39 0) (jc_boxed u (u 7 (ix o))))) wy_J_226 ⟨by decide, rfl, rfl⟩ ⟨rfl, rfl, by simp only [jr]; omega, by simp only [jr]; omega⟩ rfl hl.1 rfl (by simp [vc_int, vc_ref, vc_long, jv_cat]) ⟨Nat.zero_le _, Nat.zero_le _⟩ d_J_load_58 (fun r u9 H locs hp hh _ _ => ?_)
        rw [hp.2] at hh
        refine W.eq (g2 := F0 m 61 ls [.int (4 + (js_up (jc_freeDoc u o) 11 (js_free u 8 39 0) (jc_boxed u (u 7 (ix o)))) 24 0), jv ad 78 (nI (js_free u 8 39 0))]) (by rw [hp.1]; rfl) ?_
        refine lv_goto (tgt := 69) hx hb d_J_load_61 rfl ?_
        refine jp_10 hc hh js_f39 wf_J_168 d_J_load_69 (fun H locs hh => ?_)
        refine jv_aload hx hb d_J_load_72 (lv_at hl 0 rfl) ?_
        exact jx_aret (r := (nI (js_free u 8 39 0))) hc hh hQ hlk hr (jv_or _ _ _) rfl ⟨rfl, by simp [jc_loadB, jc_ldA, jc_opq, h35, h49]⟩ d_J_load_74
      refine lv_iload hx hb d_J_load_52 (lv_at hl 1 rfl) ?_
      refine lv_if_eq (tgt := 64) hx hb d_J_load_54 rfl (fun h54 => ?_) (fun h54 => ?_)
      ·
        refine jv_aload hx hb d_J_load_64 (lv_at hl 6 rfl) ?_
        refine jgx_D hc hh (jq_ne (jc_S7x hS (jc_Ow_ok hw)) h49) 2 (by decide) rfl wf_J_168 d_J_load_66 ?_
        refine jp_10 hc hh js_f39 wf_J_168 d_J_load_69 (fun H locs hh => ?_)
        refine jv_aload hx hb d_J_load_72 (lv_at hl 0 rfl) ?_
        exact jx_aret (r := (nI (js_free u 8 39 0))) hc hh hQ hlk hr (jv_or _ _ _) rfl ⟨rfl, by simp [jc_loadB, jc_ldA, jc_opq, h35, h49, h54]⟩ d_J_load_74
      refine lv_aload_n hx hb d_J_load_57 rfl (lv_at hl 2 rfl) ?_
      refine jx_callV [] [jv ad 78 (nI (js_free u 8 39 0))] hc hh (c_giveOpaqueOrigin l D aK ad cA (js_up (jc_freeDoc u o) 11 (js_free u 8 39 0) (jc_boxed u (u 7 (ix o))))) wy_J_226 ⟨by decide, rfl, rfl⟩ ⟨rfl, rfl, by simp only [jr]; omega, by simp only [jr]; omega⟩ rfl hl.1 rfl (by simp [vc_int, vc_ref, vc_long, jv_cat]) ⟨Nat.zero_le _, Nat.zero_le _⟩ d_J_load_58 (fun r u9 H locs hp hh _ _ => ?_)
      rw [hp.2] at hh
      refine W.eq (g2 := F0 m 61 ls [.int (4 + (js_up (jc_freeDoc u o) 11 (js_free u 8 39 0) (jc_boxed u (u 7 (ix o)))) 24 0), jv ad 78 (nI (js_free u 8 39 0))]) (by rw [hp.1]; rfl) ?_
      refine lv_goto (tgt := 69) hx hb d_J_load_61 rfl ?_
      refine jp_10 hc hh js_f39 wf_J_168 d_J_load_69 (fun H locs hh => ?_)
      refine jv_aload hx hb d_J_load_72 (lv_at hl 0 rfl) ?_
      exact jx_aret (r := (nI (js_free u 8 39 0))) hc hh hQ hlk hr (jv_or _ _ _) rfl ⟨rfl, by simp [jc_loadB, jc_ldA, jc_opq, h35, h49, h54]⟩ d_J_load_74
    have e10 : (jc_boxed u (u 7 (ix o))) = 0 := by first | (simp [jc_boxed, h8]; done) | (simp [jc_boxed, eq_true h8]; done)
    refine W.eq (g2 := F0 m 24 ls [.int (jc_boxed u (u 7 (ix o)))]) (by first | (rw [e10]; done) | (rw [e10]; rfl)) ?_
    refine J24 _ ?_
    exact lv_sub hl [1, 2, 3, 4, 0] rfl
  refine jv_aload hx hb d_J_load_11 (lv_at hl 0 rfl) ?_
  refine jgx_D hc hh (jq_ne (jc_S7x hS (jc_Ow_ok hw)) h8) 3 (by decide) rfl wf_J_219 d_J_load_13 ?_
  refine lv_if_eq (tgt := 23) hx hb d_J_load_16 rfl (fun h16 => ?_) (fun h16 => ?_)
  ·
    refine lv_iconst (v := 0) hx hb d_J_load_23 (by decide) ?_
    have J24 : ∀  (ls : Array Slot), lv_has ls 8 [(0, .ref (ad 0)), (1, jv ad 38 o), (2, .int url), (3, .int step), (4, jv ad 78 (u 7 (ix o)))] → W p l e (jr (k + 1)) s m args below meth c H locs 0 0 Q (F0 m 24 ls [.int (jc_boxed u (u 7 (ix o)))]) := by
      intro  ls hl
      refine lv_istore (i := 5) (lv' := [(5, .int (jc_boxed u (u 7 (ix o)))), (0, .ref (ad 0)), (1, jv ad 38 o), (2, .int url), (3, .int step), (4, jv ad 78 (u 7 (ix o)))]) hx hb d_J_load_24 hl (by decide) (by simp [vc_int, vc_ref, vc_long, jv_cat]) (fun ls hl => ?_)
      refine lv_aload_n hx hb d_J_load_26 rfl (lv_at hl 1 rfl) ?_
      refine jv_aload_n hx hb d_J_load_27 rfl (lv_at hl 2 rfl) ?_
      refine jx_callV [jv ad 38 o] [] hc hh (c_freeDocument l D aK ad cA u o) wy_J_222 ⟨by decide, rfl, rfl⟩ ⟨rfl, rfl, by simp only [jr]; omega, by simp only [jr]; omega⟩ rfl hl.1 rfl (by decide) ⟨Nat.zero_le _, Nat.zero_le _⟩ d_J_load_28 (fun r u9 H locs hp hh _ _ => ?_)
      rw [hp.2] at hh
      refine W.eq (g2 := F0 m 31 ls [jv ad 78 (nI (js_free u 8 39 0))]) (by rw [hp.1]; rfl) ?_
      refine jv_astore (i := 6) (lv' := [(6, jv ad 78 (nI (js_free u 8 39 0))), (5, .int (jc_boxed u (u 7 (ix o)))), (0, .ref (ad 0)), (1, jv ad 38 o), (2, .int url), (3, .int step), (4, jv ad 78 (u 7 (ix o)))]) hx hb d_J_load_31 hl (by decide) rfl (fun ls hl => ?_)
      refine lv_iload_n hx hb d_J_load_33 rfl (lv_at hl 4 rfl) ?_
      refine lv_iconst (v := -1) hx hb d_J_load_34 (by decide) ?_
      refine lv_icmp_ne (tgt := 75) hx hb d_J_load_35 rfl (fun h35 => ?_) (fun h35 => ?_)
      ·
        refine lv_aload_n hx hb d_J_load_75 rfl (lv_at hl 2 rfl) ?_
        refine jg_J hc hh 0 (by decide) rfl wf_J_11 d_J_load_76 ?_
        refine lv_iload_n hx hb d_J_load_79 rfl (lv_at hl 4 rfl) ?_
        refine jx_callS [.int url] [.ref (ad 1)] hc hh (c_pageOf l D aK ad cA (jc_freeDoc u o) url) wy_J_202 ⟨rfl, rfl, by simp only [jr]; omega, by simp only [jr]; omega⟩ rfl hl.1 rfl (by simp [vc_int, vc_ref, vc_long, jv_cat]) ⟨Nat.zero_le _, Nat.zero_le _⟩ d_J_load_80 (fun r u9 H locs hp hh _ _ => ?_)
        rw [hp.2] at hh
        refine W.eq (g2 := F0 m 83 ls [.int (url / 8), .ref (ad 1)]) (by rw [hp.1]; rfl) ?_
        refine jax_A hc hh (js_pg hu h35) d_J_load_83 ?_
        refine jv_astore (i := 7) (lv' := [(7, jv ad 6 (url / 8)), (6, jv ad 78 (nI (js_free u 8 39 0))), (5, .int (jc_boxed u (u 7 (ix o)))), (0, .ref (ad 0)), (1, jv ad 38 o), (2, .int url), (3, .int step), (4, jv ad 78 (u 7 (ix o)))]) hx hb d_J_load_84 hl (by decide) (by simp [vc_int, vc_ref, vc_long, jv_cat]) (fun ls hl => ?_)
        refine jv_aload hx hb d_J_load_86 (lv_at hl 0 rfl) ?_
        refine jgx_A hc hh (js_pg hu h35) 0 (by decide) rfl wf_J_68 d_J_load_88 ?_
        refine jk_get (j := 0) hc hh (by decide) wf_J_62 d_J_load_91 ?_
        refine jv_acmp_eq (tgt := 115) (n := 3) hx hb (by decide) (jk_inj hc) (jc_Skx (jc_Sh_fdx hS (jc_Ow_ok hw)) (js_pg hu h35)) (jq_nI (by decide)) d_J_load_94 rfl (fun h94 => ?_) (fun h94 => ?_)
        ·
          refine jv_aload hx hb d_J_load_115 (lv_at hl 1 rfl) ?_
          refine jv_aload hx hb d_J_load_117 (lv_at hl 0 rfl) ?_
          refine jgx_A hc hh (js_pg hu h35) 3 (by decide) rfl wf_J_78 d_J_load_119 ?_
          refine lv_if_ne (tgt := 130) hx hb d_J_load_122 rfl (fun h122 => ?_) (fun h122 => ?_)
          ·
            refine lv_iconst (v := 1) hx hb d_J_load_130 (by decide) ?_
            refine lv_goto (tgt := 135) hx hb d_J_load_131 rfl ?_
            have J135 : ∀  (ls : Array Slot), lv_has ls 8 [(0, .ref (ad 0)), (2, .int url), (3, .int step), (6, jv ad 78 (nI (js_free u 8 39 0))), (7, jv ad 6 (url / 8))] → W p l e (jr (k + 1)) s m args below meth c H locs 0 0 Q (F0 m 135 ls [.int (jc_bx (jc_freeDoc u o) (url / 8) (jc_boxed u (u 7 (ix o)))), jv ad 78 (nI (js_free u 8 39 0))]) := by
              intro  ls hl
              refine jp_11 hc hh js_f39 jc_bx_z wf_J_219 d_J_load_135 (fun H locs hh => ?_)
              refine jv_aload hx hb d_J_load_138 (lv_at hl 3 rfl) ?_
              refine jv_aload hx hb d_J_load_140 (lv_at hl 3 rfl) ?_
              refine jg_D hc hh js_f39 3 (by decide) rfl wf_J_219 d_J_load_142 ?_
              refine lv_if_eq (tgt := 155) hx hb d_J_load_145 rfl (fun h145 => ?_) (fun h145 => ?_)
              ·
                refine lv_iload_n hx hb d_J_load_155 rfl (lv_at hl 1 rfl) ?_
                refine jx_callS [.int url] [jv ad 78 (nI (js_free u 8 39 0))] hc hh (c_hostOf l D aK ad cA (js_up (jc_freeDoc u o) 11 (js_free u 8 39 0) (jc_bx (jc_freeDoc u o) (url / 8) (jc_boxed u (u 7 (ix o))))) url) wy_J_205 ⟨rfl, rfl, by simp only [jr]; omega, by simp only [jr]; omega⟩ rfl hl.1 rfl (by simp [vc_int, vc_ref, vc_long, jv_cat]) ⟨Nat.zero_le _, Nat.zero_le _⟩ d_J_load_156 (fun r u9 H locs hp hh _ _ => ?_)
                rw [hp.2] at hh
                refine W.eq (g2 := F0 m 159 ls [.int (url / 64), jv ad 78 (nI (js_free u 8 39 0))]) (by rw [hp.1]; rfl) ?_
                refine jp_10 hc hh js_f39 wf_J_168 d_J_load_159 (fun H locs hh => ?_)
                have J162 : ∀  (H : Heap) (locs : List Loc) (ls : Array Slot), jx_H D 158 ad (jc_cell ad aK cA (jc_ldC (jc_freeDoc u o) (js_free u 8 39 0) url (jc_bx (jc_freeDoc u o) (url / 8) (jc_boxed u (u 7 (ix o)))))) A s.heap H locs → lv_has ls 8 [(0, .ref (ad 0)), (2, .int url), (3, .int step), (6, jv ad 78 (nI (js_free u 8 39 0))), (7, jv ad 6 (url / 8))] → W p l e (jr (k + 1)) s m args below meth c H locs 0 0 Q (F0 m 162 ls []) := by
                  intro  H locs ls hh hl
                  refine lv_aload_n hx hb d_J_load_162 rfl (lv_at hl 0 rfl) ?_
                  refine jv_aload hx hb d_J_load_163 (lv_at hl 3 rfl) ?_
                  refine jv_aload hx hb d_J_load_165 (lv_at hl 4 rfl) ?_
                  refine lv_iload_n hx hb d_J_load_167 rfl (lv_at hl 2 rfl) ?_
                  refine jx_callV [jv ad 78 (nI (js_free u 8 39 0)), jv ad 6 (url / 8), .int step] [] hc hh (hMF (jc_ldC (jc_freeDoc u o) (js_free u 8 39 0) url (jc_bx (jc_freeDoc u o) (url / 8) (jc_boxed u (u 7 (ix o))))) (js_free u 8 39 0) (url / 8) step (jc_Sh_ldC (jc_Sh_fdx hS (jc_Ow_ok hw))) js_f39 (by rw [(jc_ldC_fd _ rfl).1]; decide) (js_pg hu h35) (by rw [(jc_ldC_fd _ rfl).2]; exact jc_Ow_Gr hw (jc_ldC_Gr (jc_Gr_doc h0) h0)) (jc_Cp_Gr (jc_Cp_le hC (by omega) (by omega)) (jc_ldC_Gr (jc_Gr_doc h0) h0) (by omega))) wy_J_229 ⟨by decide, rfl, rfl⟩ ⟨rfl, rfl, by simp only [jr]; omega, by simp only [jr]; omega⟩ rfl hl.1 rfl (by decide) ⟨Nat.zero_le _, Nat.zero_le _⟩ d_J_load_168 (fun r u9 H locs hp hh _ _ => ?_)
                  rw [hp.2] at hh
                  refine W.eq (g2 := F0 m 171 ls []) rfl ?_
                  refine jv_aload hx hb d_J_load_171 (lv_at hl 3 rfl) ?_
                  exact jx_aret (r := (nI (js_free u 8 39 0))) hc hh hQ hlk hr (jv_or _ _ _) rfl ⟨rfl, by simp [jc_loadB, jc_ldU, h35, h94]⟩ d_J_load_173
                have e11 : (jc_ldC (jc_freeDoc u o) (js_free u 8 39 0) url (jc_bx (jc_freeDoc u o) (url / 8) (jc_boxed u (u 7 (ix o))))) = (js_up (js_up (jc_freeDoc u o) 11 (js_free u 8 39 0) (jc_bx (jc_freeDoc u o) (url / 8) (jc_boxed u (u 7 (ix o))))) 10 (js_free u 8 39 0) (url / 64)) := by first | (simp [jc_ldC, jc_opq, h145]; done) | (simp [jc_ldC, jc_opq, eq_true h145]; done)
                refine J162 _ _ _ ?_ ?_
                ·
                  try rw [e11]
                  exact hh
                try rw [e11]
                exact lv_sub hl [0, 1, 2, 3, 4] rfl
              refine lv_aload_n hx hb d_J_load_148 rfl (lv_at hl 0 rfl) ?_
              refine jx_callV [] [jv ad 78 (nI (js_free u 8 39 0))] hc hh (c_giveOpaqueOrigin l D aK ad cA (js_up (jc_freeDoc u o) 11 (js_free u 8 39 0) (jc_bx (jc_freeDoc u o) (url / 8) (jc_boxed u (u 7 (ix o)))))) wy_J_226 ⟨by decide, rfl, rfl⟩ ⟨rfl, rfl, by simp only [jr]; omega, by simp only [jr]; omega⟩ rfl hl.1 rfl (by simp [vc_int, vc_ref, vc_long, jv_cat]) ⟨Nat.zero_le _, Nat.zero_le _⟩ d_J_load_149 (fun r u9 H locs hp hh _ _ => ?_)
              rw [hp.2] at hh
              refine W.eq (g2 := F0 m 152 ls [.int (4 + (js_up (jc_freeDoc u o) 11 (js_free u 8 39 0) (jc_bx (jc_freeDoc u o) (url / 8) (jc_boxed u (u 7 (ix o))))) 24 0), jv ad 78 (nI (js_free u 8 39 0))]) (by rw [hp.1]; rfl) ?_
              refine lv_goto (tgt := 159) hx hb d_J_load_152 rfl ?_
              refine jp_10 hc hh js_f39 wf_J_168 d_J_load_159 (fun H locs hh => ?_)
              have J162 : ∀  (H : Heap) (locs : List Loc) (ls : Array Slot), jx_H D 158 ad (jc_cell ad aK cA (jc_ldC (jc_freeDoc u o) (js_free u 8 39 0) url (jc_bx (jc_freeDoc u o) (url / 8) (jc_boxed u (u 7 (ix o)))))) A s.heap H locs → lv_has ls 8 [(0, .ref (ad 0)), (2, .int url), (3, .int step), (6, jv ad 78 (nI (js_free u 8 39 0))), (7, jv ad 6 (url / 8))] → W p l e (jr (k + 1)) s m args below meth c H locs 0 0 Q (F0 m 162 ls []) := by
                intro  H locs ls hh hl
                refine lv_aload_n hx hb d_J_load_162 rfl (lv_at hl 0 rfl) ?_
                refine jv_aload hx hb d_J_load_163 (lv_at hl 3 rfl) ?_
                refine jv_aload hx hb d_J_load_165 (lv_at hl 4 rfl) ?_
                refine lv_iload_n hx hb d_J_load_167 rfl (lv_at hl 2 rfl) ?_
                refine jx_callV [jv ad 78 (nI (js_free u 8 39 0)), jv ad 6 (url / 8), .int step] [] hc hh (hMF (jc_ldC (jc_freeDoc u o) (js_free u 8 39 0) url (jc_bx (jc_freeDoc u o) (url / 8) (jc_boxed u (u 7 (ix o))))) (js_free u 8 39 0) (url / 8) step (jc_Sh_ldC (jc_Sh_fdx hS (jc_Ow_ok hw))) js_f39 (by rw [(jc_ldC_fd _ rfl).1]; decide) (js_pg hu h35) (by rw [(jc_ldC_fd _ rfl).2]; exact jc_Ow_Gr hw (jc_ldC_Gr (jc_Gr_doc h0) h0)) (jc_Cp_Gr (jc_Cp_le hC (by omega) (by omega)) (jc_ldC_Gr (jc_Gr_doc h0) h0) (by omega))) wy_J_229 ⟨by decide, rfl, rfl⟩ ⟨rfl, rfl, by simp only [jr]; omega, by simp only [jr]; omega⟩ rfl hl.1 rfl (by decide) ⟨Nat.zero_le _, Nat.zero_le _⟩ d_J_load_168 (fun r u9 H locs hp hh _ _ => ?_)
                rw [hp.2] at hh
                refine W.eq (g2 := F0 m 171 ls []) rfl ?_
                refine jv_aload hx hb d_J_load_171 (lv_at hl 3 rfl) ?_
                exact jx_aret (r := (nI (js_free u 8 39 0))) hc hh hQ hlk hr (jv_or _ _ _) rfl ⟨rfl, by simp [jc_loadB, jc_ldU, h35, h94]⟩ d_J_load_173
              have e12 : (jc_ldC (jc_freeDoc u o) (js_free u 8 39 0) url (jc_bx (jc_freeDoc u o) (url / 8) (jc_boxed u (u 7 (ix o))))) = (js_up (js_up (js_up (jc_freeDoc u o) 11 (js_free u 8 39 0) (jc_bx (jc_freeDoc u o) (url / 8) (jc_boxed u (u 7 (ix o))))) 24 0 ((js_up (jc_freeDoc u o) 11 (js_free u 8 39 0) (jc_bx (jc_freeDoc u o) (url / 8) (jc_boxed u (u 7 (ix o))))) 24 0 + 1)) 10 (js_free u 8 39 0) (4 + (js_up (jc_freeDoc u o) 11 (js_free u 8 39 0) (jc_bx (jc_freeDoc u o) (url / 8) (jc_boxed u (u 7 (ix o))))) 24 0)) := by simp [jc_ldC, jc_opq, h145]
              refine J162 _ _ _ ?_ ?_
              ·
                try rw [e12]
                exact hh
              try rw [e12]
              exact lv_sub hl [0, 1, 2, 3, 4] rfl
            have e13 : (jc_bx (jc_freeDoc u o) (url / 8) (jc_boxed u (u 7 (ix o)))) = 1 := by first | (simp [jc_bx, h35, h94, h122]; done) | (simp [jc_bx, h35, eq_true h94, h122]; done)
            refine W.eq (g2 := F0 m 135 ls [.int (jc_bx (jc_freeDoc u o) (url / 8) (jc_boxed u (u 7 (ix o)))), jv ad 78 (nI (js_free u 8 39 0))]) (by first | (rw [e13]; done) | (rw [e13]; rfl)) ?_
            refine J135 _ ?_
            exact lv_sub hl [3, 5, 6, 1, 0] rfl
          refine lv_iload hx hb d_J_load_125 (lv_at hl 2 rfl) ?_
          refine lv_if_eq (tgt := 134) hx hb d_J_load_127 rfl (fun h127 => ?_) (fun h127 => ?_)
          ·
            refine lv_iconst (v := 0) hx hb d_J_load_134 (by decide) ?_
            have J135 : ∀  (ls : Array Slot), lv_has ls 8 [(0, .ref (ad 0)), (2, .int url), (3, .int step), (6, jv ad 78 (nI (js_free u 8 39 0))), (7, jv ad 6 (url / 8))] → W p l e (jr (k + 1)) s m args below meth c H locs 0 0 Q (F0 m 135 ls [.int (jc_bx (jc_freeDoc u o) (url / 8) (jc_boxed u (u 7 (ix o)))), jv ad 78 (nI (js_free u 8 39 0))]) := by
              intro  ls hl
              refine jp_11 hc hh js_f39 jc_bx_z wf_J_219 d_J_load_135 (fun H locs hh => ?_)
              refine jv_aload hx hb d_J_load_138 (lv_at hl 3 rfl) ?_
              refine jv_aload hx hb d_J_load_140 (lv_at hl 3 rfl) ?_
              refine jg_D hc hh js_f39 3 (by decide) rfl wf_J_219 d_J_load_142 ?_
              refine lv_if_eq (tgt := 155) hx hb d_J_load_145 rfl (fun h145 => ?_) (fun h145 => ?_)
              ·
                refine lv_iload_n hx hb d_J_load_155 rfl (lv_at hl 1 rfl) ?_
                refine jx_callS [.int url] [jv ad 78 (nI (js_free u 8 39 0))] hc hh (c_hostOf l D aK ad cA (js_up (jc_freeDoc u o) 11 (js_free u 8 39 0) (jc_bx (jc_freeDoc u o) (url / 8) (jc_boxed u (u 7 (ix o))))) url) wy_J_205 ⟨rfl, rfl, by simp only [jr]; omega, by simp only [jr]; omega⟩ rfl hl.1 rfl (by simp [vc_int, vc_ref, vc_long, jv_cat]) ⟨Nat.zero_le _, Nat.zero_le _⟩ d_J_load_156 (fun r u9 H locs hp hh _ _ => ?_)
                rw [hp.2] at hh
                refine W.eq (g2 := F0 m 159 ls [.int (url / 64), jv ad 78 (nI (js_free u 8 39 0))]) (by rw [hp.1]; rfl) ?_
                refine jp_10 hc hh js_f39 wf_J_168 d_J_load_159 (fun H locs hh => ?_)
                have J162 : ∀  (H : Heap) (locs : List Loc) (ls : Array Slot), jx_H D 158 ad (jc_cell ad aK cA (jc_ldC (jc_freeDoc u o) (js_free u 8 39 0) url (jc_bx (jc_freeDoc u o) (url / 8) (jc_boxed u (u 7 (ix o)))))) A s.heap H locs → lv_has ls 8 [(0, .ref (ad 0)), (2, .int url), (3, .int step), (6, jv ad 78 (nI (js_free u 8 39 0))), (7, jv ad 6 (url / 8))] → W p l e (jr (k + 1)) s m args below meth c H locs 0 0 Q (F0 m 162 ls []) := by
                  intro  H locs ls hh hl
                  refine lv_aload_n hx hb d_J_load_162 rfl (lv_at hl 0 rfl) ?_
                  refine jv_aload hx hb d_J_load_163 (lv_at hl 3 rfl) ?_
                  refine jv_aload hx hb d_J_load_165 (lv_at hl 4 rfl) ?_
                  refine lv_iload_n hx hb d_J_load_167 rfl (lv_at hl 2 rfl) ?_
                  refine jx_callV [jv ad 78 (nI (js_free u 8 39 0)), jv ad 6 (url / 8), .int step] [] hc hh (hMF (jc_ldC (jc_freeDoc u o) (js_free u 8 39 0) url (jc_bx (jc_freeDoc u o) (url / 8) (jc_boxed u (u 7 (ix o))))) (js_free u 8 39 0) (url / 8) step (jc_Sh_ldC (jc_Sh_fdx hS (jc_Ow_ok hw))) js_f39 (by rw [(jc_ldC_fd _ rfl).1]; decide) (js_pg hu h35) (by rw [(jc_ldC_fd _ rfl).2]; exact jc_Ow_Gr hw (jc_ldC_Gr (jc_Gr_doc h0) h0)) (jc_Cp_Gr (jc_Cp_le hC (by omega) (by omega)) (jc_ldC_Gr (jc_Gr_doc h0) h0) (by omega))) wy_J_229 ⟨by decide, rfl, rfl⟩ ⟨rfl, rfl, by simp only [jr]; omega, by simp only [jr]; omega⟩ rfl hl.1 rfl (by decide) ⟨Nat.zero_le _, Nat.zero_le _⟩ d_J_load_168 (fun r u9 H locs hp hh _ _ => ?_)
                  rw [hp.2] at hh
                  refine W.eq (g2 := F0 m 171 ls []) rfl ?_
                  refine jv_aload hx hb d_J_load_171 (lv_at hl 3 rfl) ?_
                  exact jx_aret (r := (nI (js_free u 8 39 0))) hc hh hQ hlk hr (jv_or _ _ _) rfl ⟨rfl, by simp [jc_loadB, jc_ldU, h35, h94]⟩ d_J_load_173
                have e14 : (jc_ldC (jc_freeDoc u o) (js_free u 8 39 0) url (jc_bx (jc_freeDoc u o) (url / 8) (jc_boxed u (u 7 (ix o))))) = (js_up (js_up (jc_freeDoc u o) 11 (js_free u 8 39 0) (jc_bx (jc_freeDoc u o) (url / 8) (jc_boxed u (u 7 (ix o))))) 10 (js_free u 8 39 0) (url / 64)) := by first | (simp [jc_ldC, jc_opq, h145]; done) | (simp [jc_ldC, jc_opq, eq_true h145]; done)
                refine J162 _ _ _ ?_ ?_
                ·
                  try rw [e14]
                  exact hh
                try rw [e14]
                exact lv_sub hl [0, 1, 2, 3, 4] rfl
              refine lv_aload_n hx hb d_J_load_148 rfl (lv_at hl 0 rfl) ?_
              refine jx_callV [] [jv ad 78 (nI (js_free u 8 39 0))] hc hh (c_giveOpaqueOrigin l D aK ad cA (js_up (jc_freeDoc u o) 11 (js_free u 8 39 0) (jc_bx (jc_freeDoc u o) (url / 8) (jc_boxed u (u 7 (ix o)))))) wy_J_226 ⟨by decide, rfl, rfl⟩ ⟨rfl, rfl, by simp only [jr]; omega, by simp only [jr]; omega⟩ rfl hl.1 rfl (by simp [vc_int, vc_ref, vc_long, jv_cat]) ⟨Nat.zero_le _, Nat.zero_le _⟩ d_J_load_149 (fun r u9 H locs hp hh _ _ => ?_)
              rw [hp.2] at hh
              refine W.eq (g2 := F0 m 152 ls [.int (4 + (js_up (jc_freeDoc u o) 11 (js_free u 8 39 0) (jc_bx (jc_freeDoc u o) (url / 8) (jc_boxed u (u 7 (ix o))))) 24 0), jv ad 78 (nI (js_free u 8 39 0))]) (by rw [hp.1]; rfl) ?_
              refine lv_goto (tgt := 159) hx hb d_J_load_152 rfl ?_
              refine jp_10 hc hh js_f39 wf_J_168 d_J_load_159 (fun H locs hh => ?_)
              have J162 : ∀  (H : Heap) (locs : List Loc) (ls : Array Slot), jx_H D 158 ad (jc_cell ad aK cA (jc_ldC (jc_freeDoc u o) (js_free u 8 39 0) url (jc_bx (jc_freeDoc u o) (url / 8) (jc_boxed u (u 7 (ix o)))))) A s.heap H locs → lv_has ls 8 [(0, .ref (ad 0)), (2, .int url), (3, .int step), (6, jv ad 78 (nI (js_free u 8 39 0))), (7, jv ad 6 (url / 8))] → W p l e (jr (k + 1)) s m args below meth c H locs 0 0 Q (F0 m 162 ls []) := by
                intro  H locs ls hh hl
                refine lv_aload_n hx hb d_J_load_162 rfl (lv_at hl 0 rfl) ?_
                refine jv_aload hx hb d_J_load_163 (lv_at hl 3 rfl) ?_
                refine jv_aload hx hb d_J_load_165 (lv_at hl 4 rfl) ?_
                refine lv_iload_n hx hb d_J_load_167 rfl (lv_at hl 2 rfl) ?_
                refine jx_callV [jv ad 78 (nI (js_free u 8 39 0)), jv ad 6 (url / 8), .int step] [] hc hh (hMF (jc_ldC (jc_freeDoc u o) (js_free u 8 39 0) url (jc_bx (jc_freeDoc u o) (url / 8) (jc_boxed u (u 7 (ix o))))) (js_free u 8 39 0) (url / 8) step (jc_Sh_ldC (jc_Sh_fdx hS (jc_Ow_ok hw))) js_f39 (by rw [(jc_ldC_fd _ rfl).1]; decide) (js_pg hu h35) (by rw [(jc_ldC_fd _ rfl).2]; exact jc_Ow_Gr hw (jc_ldC_Gr (jc_Gr_doc h0) h0)) (jc_Cp_Gr (jc_Cp_le hC (by omega) (by omega)) (jc_ldC_Gr (jc_Gr_doc h0) h0) (by omega))) wy_J_229 ⟨by decide, rfl, rfl⟩ ⟨rfl, rfl, by simp only [jr]; omega, by simp only [jr]; omega⟩ rfl hl.1 rfl (by decide) ⟨Nat.zero_le _, Nat.zero_le _⟩ d_J_load_168 (fun r u9 H locs hp hh _ _ => ?_)
                rw [hp.2] at hh
                refine W.eq (g2 := F0 m 171 ls []) rfl ?_
                refine jv_aload hx hb d_J_load_171 (lv_at hl 3 rfl) ?_
                exact jx_aret (r := (nI (js_free u 8 39 0))) hc hh hQ hlk hr (jv_or _ _ _) rfl ⟨rfl, by simp [jc_loadB, jc_ldU, h35, h94]⟩ d_J_load_173
              have e15 : (jc_ldC (jc_freeDoc u o) (js_free u 8 39 0) url (jc_bx (jc_freeDoc u o) (url / 8) (jc_boxed u (u 7 (ix o))))) = (js_up (js_up (js_up (jc_freeDoc u o) 11 (js_free u 8 39 0) (jc_bx (jc_freeDoc u o) (url / 8) (jc_boxed u (u 7 (ix o))))) 24 0 ((js_up (jc_freeDoc u o) 11 (js_free u 8 39 0) (jc_bx (jc_freeDoc u o) (url / 8) (jc_boxed u (u 7 (ix o))))) 24 0 + 1)) 10 (js_free u 8 39 0) (4 + (js_up (jc_freeDoc u o) 11 (js_free u 8 39 0) (jc_bx (jc_freeDoc u o) (url / 8) (jc_boxed u (u 7 (ix o))))) 24 0)) := by simp [jc_ldC, jc_opq, h145]
              refine J162 _ _ _ ?_ ?_
              ·
                try rw [e15]
                exact hh
              try rw [e15]
              exact lv_sub hl [0, 1, 2, 3, 4] rfl
            have e16 : (jc_bx (jc_freeDoc u o) (url / 8) (jc_boxed u (u 7 (ix o)))) = 0 := by first | (simp [jc_bx, h35, h94, h122, h127]; done) | (simp [jc_bx, h35, eq_true h94, eq_true h122, eq_true h127]; done)
            refine W.eq (g2 := F0 m 135 ls [.int (jc_bx (jc_freeDoc u o) (url / 8) (jc_boxed u (u 7 (ix o)))), jv ad 78 (nI (js_free u 8 39 0))]) (by first | (rw [e16]; done) | (rw [e16]; rfl)) ?_
            refine J135 _ ?_
            exact lv_sub hl [3, 5, 6, 1, 0] rfl
          refine lv_iconst (v := 1) hx hb d_J_load_130 (by decide) ?_
          refine lv_goto (tgt := 135) hx hb d_J_load_131 rfl ?_
          have J135 : ∀  (ls : Array Slot), lv_has ls 8 [(0, .ref (ad 0)), (2, .int url), (3, .int step), (6, jv ad 78 (nI (js_free u 8 39 0))), (7, jv ad 6 (url / 8))] → W p l e (jr (k + 1)) s m args below meth c H locs 0 0 Q (F0 m 135 ls [.int (jc_bx (jc_freeDoc u o) (url / 8) (jc_boxed u (u 7 (ix o)))), jv ad 78 (nI (js_free u 8 39 0))]) := by
            intro  ls hl
            refine jp_11 hc hh js_f39 jc_bx_z wf_J_219 d_J_load_135 (fun H locs hh => ?_)
            refine jv_aload hx hb d_J_load_138 (lv_at hl 3 rfl) ?_
            refine jv_aload hx hb d_J_load_140 (lv_at hl 3 rfl) ?_
            refine jg_D hc hh js_f39 3 (by decide) rfl wf_J_219 d_J_load_142 ?_
            refine lv_if_eq (tgt := 155) hx hb d_J_load_145 rfl (fun h145 => ?_) (fun h145 => ?_)
            ·
              refine lv_iload_n hx hb d_J_load_155 rfl (lv_at hl 1 rfl) ?_
              refine jx_callS [.int url] [jv ad 78 (nI (js_free u 8 39 0))] hc hh (c_hostOf l D aK ad cA (js_up (jc_freeDoc u o) 11 (js_free u 8 39 0) (jc_bx (jc_freeDoc u o) (url / 8) (jc_boxed u (u 7 (ix o))))) url) wy_J_205 ⟨rfl, rfl, by simp only [jr]; omega, by simp only [jr]; omega⟩ rfl hl.1 rfl (by simp [vc_int, vc_ref, vc_long, jv_cat]) ⟨Nat.zero_le _, Nat.zero_le _⟩ d_J_load_156 (fun r u9 H locs hp hh _ _ => ?_)
              rw [hp.2] at hh
              refine W.eq (g2 := F0 m 159 ls [.int (url / 64), jv ad 78 (nI (js_free u 8 39 0))]) (by rw [hp.1]; rfl) ?_
              refine jp_10 hc hh js_f39 wf_J_168 d_J_load_159 (fun H locs hh => ?_)
              have J162 : ∀  (H : Heap) (locs : List Loc) (ls : Array Slot), jx_H D 158 ad (jc_cell ad aK cA (jc_ldC (jc_freeDoc u o) (js_free u 8 39 0) url (jc_bx (jc_freeDoc u o) (url / 8) (jc_boxed u (u 7 (ix o)))))) A s.heap H locs → lv_has ls 8 [(0, .ref (ad 0)), (2, .int url), (3, .int step), (6, jv ad 78 (nI (js_free u 8 39 0))), (7, jv ad 6 (url / 8))] → W p l e (jr (k + 1)) s m args below meth c H locs 0 0 Q (F0 m 162 ls []) := by
                intro  H locs ls hh hl
                refine lv_aload_n hx hb d_J_load_162 rfl (lv_at hl 0 rfl) ?_
                refine jv_aload hx hb d_J_load_163 (lv_at hl 3 rfl) ?_
                refine jv_aload hx hb d_J_load_165 (lv_at hl 4 rfl) ?_
                refine lv_iload_n hx hb d_J_load_167 rfl (lv_at hl 2 rfl) ?_
                refine jx_callV [jv ad 78 (nI (js_free u 8 39 0)), jv ad 6 (url / 8), .int step] [] hc hh (hMF (jc_ldC (jc_freeDoc u o) (js_free u 8 39 0) url (jc_bx (jc_freeDoc u o) (url / 8) (jc_boxed u (u 7 (ix o))))) (js_free u 8 39 0) (url / 8) step (jc_Sh_ldC (jc_Sh_fdx hS (jc_Ow_ok hw))) js_f39 (by rw [(jc_ldC_fd _ rfl).1]; decide) (js_pg hu h35) (by rw [(jc_ldC_fd _ rfl).2]; exact jc_Ow_Gr hw (jc_ldC_Gr (jc_Gr_doc h0) h0)) (jc_Cp_Gr (jc_Cp_le hC (by omega) (by omega)) (jc_ldC_Gr (jc_Gr_doc h0) h0) (by omega))) wy_J_229 ⟨by decide, rfl, rfl⟩ ⟨rfl, rfl, by simp only [jr]; omega, by simp only [jr]; omega⟩ rfl hl.1 rfl (by decide) ⟨Nat.zero_le _, Nat.zero_le _⟩ d_J_load_168 (fun r u9 H locs hp hh _ _ => ?_)
                rw [hp.2] at hh
                refine W.eq (g2 := F0 m 171 ls []) rfl ?_
                refine jv_aload hx hb d_J_load_171 (lv_at hl 3 rfl) ?_
                exact jx_aret (r := (nI (js_free u 8 39 0))) hc hh hQ hlk hr (jv_or _ _ _) rfl ⟨rfl, by simp [jc_loadB, jc_ldU, h35, h94]⟩ d_J_load_173
              have e17 : (jc_ldC (jc_freeDoc u o) (js_free u 8 39 0) url (jc_bx (jc_freeDoc u o) (url / 8) (jc_boxed u (u 7 (ix o))))) = (js_up (js_up (jc_freeDoc u o) 11 (js_free u 8 39 0) (jc_bx (jc_freeDoc u o) (url / 8) (jc_boxed u (u 7 (ix o))))) 10 (js_free u 8 39 0) (url / 64)) := by first | (simp [jc_ldC, jc_opq, h145]; done) | (simp [jc_ldC, jc_opq, eq_true h145]; done)
              refine J162 _ _ _ ?_ ?_
              ·
                try rw [e17]
                exact hh
              try rw [e17]
              exact lv_sub hl [0, 1, 2, 3, 4] rfl
            refine lv_aload_n hx hb d_J_load_148 rfl (lv_at hl 0 rfl) ?_
            refine jx_callV [] [jv ad 78 (nI (js_free u 8 39 0))] hc hh (c_giveOpaqueOrigin l D aK ad cA (js_up (jc_freeDoc u o) 11 (js_free u 8 39 0) (jc_bx (jc_freeDoc u o) (url / 8) (jc_boxed u (u 7 (ix o)))))) wy_J_226 ⟨by decide, rfl, rfl⟩ ⟨rfl, rfl, by simp only [jr]; omega, by simp only [jr]; omega⟩ rfl hl.1 rfl (by simp [vc_int, vc_ref, vc_long, jv_cat]) ⟨Nat.zero_le _, Nat.zero_le _⟩ d_J_load_149 (fun r u9 H locs hp hh _ _ => ?_)
            rw [hp.2] at hh
            refine W.eq (g2 := F0 m 152 ls [.int (4 + (js_up (jc_freeDoc u o) 11 (js_free u 8 39 0) (jc_bx (jc_freeDoc u o) (url / 8) (jc_boxed u (u 7 (ix o))))) 24 0), jv ad 78 (nI (js_free u 8 39 0))]) (by rw [hp.1]; rfl) ?_
            refine lv_goto (tgt := 159) hx hb d_J_load_152 rfl ?_
            refine jp_10 hc hh js_f39 wf_J_168 d_J_load_159 (fun H locs hh => ?_)
            have J162 : ∀  (H : Heap) (locs : List Loc) (ls : Array Slot), jx_H D 158 ad (jc_cell ad aK cA (jc_ldC (jc_freeDoc u o) (js_free u 8 39 0) url (jc_bx (jc_freeDoc u o) (url / 8) (jc_boxed u (u 7 (ix o)))))) A s.heap H locs → lv_has ls 8 [(0, .ref (ad 0)), (2, .int url), (3, .int step), (6, jv ad 78 (nI (js_free u 8 39 0))), (7, jv ad 6 (url / 8))] → W p l e (jr (k + 1)) s m args below meth c H locs 0 0 Q (F0 m 162 ls []) := by
              intro  H locs ls hh hl
              refine lv_aload_n hx hb d_J_load_162 rfl (lv_at hl 0 rfl) ?_
              refine jv_aload hx hb d_J_load_163 (lv_at hl 3 rfl) ?_
              refine jv_aload hx hb d_J_load_165 (lv_at hl 4 rfl) ?_
              refine lv_iload_n hx hb d_J_load_167 rfl (lv_at hl 2 rfl) ?_
              refine jx_callV [jv ad 78 (nI (js_free u 8 39 0)), jv ad 6 (url / 8), .int step] [] hc hh (hMF (jc_ldC (jc_freeDoc u o) (js_free u 8 39 0) url (jc_bx (jc_freeDoc u o) (url / 8) (jc_boxed u (u 7 (ix o))))) (js_free u 8 39 0) (url / 8) step (jc_Sh_ldC (jc_Sh_fdx hS (jc_Ow_ok hw))) js_f39 (by rw [(jc_ldC_fd _ rfl).1]; decide) (js_pg hu h35) (by rw [(jc_ldC_fd _ rfl).2]; exact jc_Ow_Gr hw (jc_ldC_Gr (jc_Gr_doc h0) h0)) (jc_Cp_Gr (jc_Cp_le hC (by omega) (by omega)) (jc_ldC_Gr (jc_Gr_doc h0) h0) (by omega))) wy_J_229 ⟨by decide, rfl, rfl⟩ ⟨rfl, rfl, by simp only [jr]; omega, by simp only [jr]; omega⟩ rfl hl.1 rfl (by decide) ⟨Nat.zero_le _, Nat.zero_le _⟩ d_J_load_168 (fun r u9 H locs hp hh _ _ => ?_)
              rw [hp.2] at hh
              refine W.eq (g2 := F0 m 171 ls []) rfl ?_
              refine jv_aload hx hb d_J_load_171 (lv_at hl 3 rfl) ?_
              exact jx_aret (r := (nI (js_free u 8 39 0))) hc hh hQ hlk hr (jv_or _ _ _) rfl ⟨rfl, by simp [jc_loadB, jc_ldU, h35, h94]⟩ d_J_load_173
            have e18 : (jc_ldC (jc_freeDoc u o) (js_free u 8 39 0) url (jc_bx (jc_freeDoc u o) (url / 8) (jc_boxed u (u 7 (ix o))))) = (js_up (js_up (js_up (jc_freeDoc u o) 11 (js_free u 8 39 0) (jc_bx (jc_freeDoc u o) (url / 8) (jc_boxed u (u 7 (ix o))))) 24 0 ((js_up (jc_freeDoc u o) 11 (js_free u 8 39 0) (jc_bx (jc_freeDoc u o) (url / 8) (jc_boxed u (u 7 (ix o))))) 24 0 + 1)) 10 (js_free u 8 39 0) (4 + (js_up (jc_freeDoc u o) 11 (js_free u 8 39 0) (jc_bx (jc_freeDoc u o) (url / 8) (jc_boxed u (u 7 (ix o))))) 24 0)) := by simp [jc_ldC, jc_opq, h145]
            refine J162 _ _ _ ?_ ?_
            ·
              try rw [e18]
              exact hh
            try rw [e18]
            exact lv_sub hl [0, 1, 2, 3, 4] rfl
          have e19 : (jc_bx (jc_freeDoc u o) (url / 8) (jc_boxed u (u 7 (ix o)))) = 1 := by first | (simp [jc_bx, h35, h94, h122, h127]; done) | (simp [jc_bx, h35, eq_true h94, eq_true h122, h127]; done)
          refine W.eq (g2 := F0 m 135 ls [.int (jc_bx (jc_freeDoc u o) (url / 8) (jc_boxed u (u 7 (ix o)))), jv ad 78 (nI (js_free u 8 39 0))]) (by first | (rw [e19]; done) | (rw [e19]; rfl)) ?_
          refine J135 _ ?_
          exact lv_sub hl [3, 5, 6, 1, 0] rfl
        refine jv_aload hx hb d_J_load_97 (lv_at hl 1 rfl) ?_
        refine lv_iconst (v := 0) hx hb d_J_load_99 (by decide) ?_
        refine jp_11 hc hh js_f39 (by decide) wf_J_219 d_J_load_100 (fun H locs hh => ?_)
        refine jv_aload hx hb d_J_load_103 (lv_at hl 1 rfl) ?_
        refine lv_aload_n hx hb d_J_load_105 rfl (lv_at hl 3 rfl) ?_
        refine jx_callV [] [jv ad 78 (nI (js_free u 8 39 0))] hc hh (c_giveOpaqueOrigin l D aK ad cA (js_up (jc_freeDoc u o) 11 (js_free u 8 39 0) 0)) wy_J_226 ⟨by decide, rfl, rfl⟩ ⟨rfl, rfl, by simp only [jr]; omega, by simp only [jr]; omega⟩ rfl hl.1 rfl (by simp [vc_int, vc_ref, vc_long, jv_cat]) ⟨Nat.zero_le _, Nat.zero_le _⟩ d_J_load_106 (fun r u9 H locs hp hh _ _ => ?_)
        rw [hp.2] at hh
        refine W.eq (g2 := F0 m 109 ls [.int (4 + (js_up (jc_freeDoc u o) 11 (js_free u 8 39 0) 0) 24 0), jv ad 78 (nI (js_free u 8 39 0))]) (by rw [hp.1]; rfl) ?_
        refine jp_10 hc hh js_f39 wf_J_168 d_J_load_109 (fun H locs hh => ?_)
        refine jv_aload hx hb d_J_load_112 (lv_at hl 1 rfl) ?_
        exact jx_aret (r := (nI (js_free u 8 39 0))) hc hh hQ hlk hr (jv_or _ _ _) rfl ⟨rfl, by simp [jc_loadB, jc_ldU, jc_opq, h35, h94]⟩ d_J_load_114
      refine jv_aload hx hb d_J_load_38 (lv_at hl 0 rfl) ?_
      refine lv_iload hx hb d_J_load_40 (lv_at hl 1 rfl) ?_
      refine jp_11 hc hh js_f39 jc_boxed_z wf_J_219 d_J_load_42 (fun H locs hh => ?_)
      refine jv_aload hx hb d_J_load_45 (lv_at hl 0 rfl) ?_
      refine jv_aload hx hb d_J_load_47 (lv_at hl 6 rfl) ?_
      refine jv_ifnull (tgt := 57) hx hb d_J_load_49 rfl (fun h49 => ?_) (fun h49 => ?_)
      ·
        refine lv_aload_n hx hb d_J_load_57 rfl (lv_at hl 2 rfl) ?_
        refine jx_callV [] [jv ad 78 (nI (js_free u 8 39 0))] hc hh (c_giveOpaqueOrigin l D aK ad cA (js_up (jc_freeDoc u o) 11 (js_free u 8 39 0) (jc_boxed u (u 7 (ix o))))) wy_J_226 ⟨by decide, rfl, rfl⟩ ⟨rfl, rfl, by simp only [jr]; omega, by simp only [jr]; omega⟩ rfl hl.1 rfl (by simp [vc_int, vc_ref, vc_long, jv_cat]) ⟨Nat.zero_le _, Nat.zero_le _⟩ d_J_load_58 (fun r u9 H locs hp hh _ _ => ?_)
        rw [hp.2] at hh
        refine W.eq (g2 := F0 m 61 ls [.int (4 + (js_up (jc_freeDoc u o) 11 (js_free u 8 39 0) (jc_boxed u (u 7 (ix o)))) 24 0), jv ad 78 (nI (js_free u 8 39 0))]) (by rw [hp.1]; rfl) ?_
        refine lv_goto (tgt := 69) hx hb d_J_load_61 rfl ?_
        refine jp_10 hc hh js_f39 wf_J_168 d_J_load_69 (fun H locs hh => ?_)
        refine jv_aload hx hb d_J_load_72 (lv_at hl 0 rfl) ?_
        exact jx_aret (r := (nI (js_free u 8 39 0))) hc hh hQ hlk hr (jv_or _ _ _) rfl ⟨rfl, by simp [jc_loadB, jc_ldA, jc_opq, h35, h49]⟩ d_J_load_74
      refine lv_iload hx hb d_J_load_52 (lv_at hl 1 rfl) ?_
      refine lv_if_eq (tgt := 64) hx hb d_J_load_54 rfl (fun h54 => ?_) (fun h54 => ?_)
      ·
        refine jv_aload hx hb d_J_load_64 (lv_at hl 6 rfl) ?_
        refine jgx_D hc hh (jq_ne (jc_S7x hS (jc_Ow_ok hw)) h49) 2 (by decide) rfl wf_J_168 d_J_load_66 ?_
        refine jp_10 hc hh js_f39 wf_J_168 d_J_load_69 (fun H locs hh => ?_)
        refine jv_aload hx hb d_J_load_72 (lv_at hl 0 rfl) ?_
        exact jx_aret (r := (nI (js_free u 8 39 0))) hc hh hQ hlk hr (jv_or _ _ _) rfl ⟨rfl, by simp [jc_loadB, jc_ldA, jc_opq, h35, h49, h54]⟩ d_J_load_74
      refine lv_aload_n hx hb d_J_load_57 rfl (lv_at hl 2 rfl) ?_
      refine jx_callV [] [jv ad 78 (nI (js_free u 8 39 0))] hc hh (c_giveOpaqueOrigin l D aK ad cA (js_up (jc_freeDoc u o) 11 (js_free u 8 39 0) (jc_boxed u (u 7 (ix o))))) wy_J_226 ⟨by decide, rfl, rfl⟩ ⟨rfl, rfl, by simp only [jr]; omega, by simp only [jr]; omega⟩ rfl hl.1 rfl (by simp [vc_int, vc_ref, vc_long, jv_cat]) ⟨Nat.zero_le _, Nat.zero_le _⟩ d_J_load_58 (fun r u9 H locs hp hh _ _ => ?_)
      rw [hp.2] at hh
      refine W.eq (g2 := F0 m 61 ls [.int (4 + (js_up (jc_freeDoc u o) 11 (js_free u 8 39 0) (jc_boxed u (u 7 (ix o)))) 24 0), jv ad 78 (nI (js_free u 8 39 0))]) (by rw [hp.1]; rfl) ?_
      refine lv_goto (tgt := 69) hx hb d_J_load_61 rfl ?_
      refine jp_10 hc hh js_f39 wf_J_168 d_J_load_69 (fun H locs hh => ?_)
      refine jv_aload hx hb d_J_load_72 (lv_at hl 0 rfl) ?_
      exact jx_aret (r := (nI (js_free u 8 39 0))) hc hh hQ hlk hr (jv_or _ _ _) rfl ⟨rfl, by simp [jc_loadB, jc_ldA, jc_opq, h35, h49, h54]⟩ d_J_load_74
    have e20 : (jc_boxed u (u 7 (ix o))) = 0 := by first | (simp [jc_boxed, h8, h16]; done) | (simp [jc_boxed, h8, eq_true h16]; done)
    refine W.eq (g2 := F0 m 24 ls [.int (jc_boxed u (u 7 (ix o)))]) (by first | (rw [e20]; done) | (rw [e20]; rfl)) ?_
    refine J24 _ ?_
    exact lv_sub hl [1, 2, 3, 4, 0] rfl
  refine lv_iconst (v := 1) hx hb d_J_load_19 (by decide) ?_
  refine lv_goto (tgt := 24) hx hb d_J_load_20 rfl ?_
  have J24 : ∀  (ls : Array Slot), lv_has ls 8 [(0, .ref (ad 0)), (1, jv ad 38 o), (2, .int url), (3, .int step), (4, jv ad 78 (u 7 (ix o)))] → W p l e (jr (k + 1)) s m args below meth c H locs 0 0 Q (F0 m 24 ls [.int (jc_boxed u (u 7 (ix o)))]) := by
    intro  ls hl
    refine lv_istore (i := 5) (lv' := [(5, .int (jc_boxed u (u 7 (ix o)))), (0, .ref (ad 0)), (1, jv ad 38 o), (2, .int url), (3, .int step), (4, jv ad 78 (u 7 (ix o)))]) hx hb d_J_load_24 hl (by decide) (by simp [vc_int, vc_ref, vc_long, jv_cat]) (fun ls hl => ?_)
    refine lv_aload_n hx hb d_J_load_26 rfl (lv_at hl 1 rfl) ?_
    refine jv_aload_n hx hb d_J_load_27 rfl (lv_at hl 2 rfl) ?_
    refine jx_callV [jv ad 38 o] [] hc hh (c_freeDocument l D aK ad cA u o) wy_J_222 ⟨by decide, rfl, rfl⟩ ⟨rfl, rfl, by simp only [jr]; omega, by simp only [jr]; omega⟩ rfl hl.1 rfl (by decide) ⟨Nat.zero_le _, Nat.zero_le _⟩ d_J_load_28 (fun r u9 H locs hp hh _ _ => ?_)
    rw [hp.2] at hh
    refine W.eq (g2 := F0 m 31 ls [jv ad 78 (nI (js_free u 8 39 0))]) (by rw [hp.1]; rfl) ?_
    refine jv_astore (i := 6) (lv' := [(6, jv ad 78 (nI (js_free u 8 39 0))), (5, .int (jc_boxed u (u 7 (ix o)))), (0, .ref (ad 0)), (1, jv ad 38 o), (2, .int url), (3, .int step), (4, jv ad 78 (u 7 (ix o)))]) hx hb d_J_load_31 hl (by decide) rfl (fun ls hl => ?_)
    refine lv_iload_n hx hb d_J_load_33 rfl (lv_at hl 4 rfl) ?_
    refine lv_iconst (v := -1) hx hb d_J_load_34 (by decide) ?_
    refine lv_icmp_ne (tgt := 75) hx hb d_J_load_35 rfl (fun h35 => ?_) (fun h35 => ?_)
    ·
      refine lv_aload_n hx hb d_J_load_75 rfl (lv_at hl 2 rfl) ?_
      refine jg_J hc hh 0 (by decide) rfl wf_J_11 d_J_load_76 ?_
      refine lv_iload_n hx hb d_J_load_79 rfl (lv_at hl 4 rfl) ?_
      refine jx_callS [.int url] [.ref (ad 1)] hc hh (c_pageOf l D aK ad cA (jc_freeDoc u o) url) wy_J_202 ⟨rfl, rfl, by simp only [jr]; omega, by simp only [jr]; omega⟩ rfl hl.1 rfl (by simp [vc_int, vc_ref, vc_long, jv_cat]) ⟨Nat.zero_le _, Nat.zero_le _⟩ d_J_load_80 (fun r u9 H locs hp hh _ _ => ?_)
      rw [hp.2] at hh
      refine W.eq (g2 := F0 m 83 ls [.int (url / 8), .ref (ad 1)]) (by rw [hp.1]; rfl) ?_
      refine jax_A hc hh (js_pg hu h35) d_J_load_83 ?_
      refine jv_astore (i := 7) (lv' := [(7, jv ad 6 (url / 8)), (6, jv ad 78 (nI (js_free u 8 39 0))), (5, .int (jc_boxed u (u 7 (ix o)))), (0, .ref (ad 0)), (1, jv ad 38 o), (2, .int url), (3, .int step), (4, jv ad 78 (u 7 (ix o)))]) hx hb d_J_load_84 hl (by decide) (by simp [vc_int, vc_ref, vc_long, jv_cat]) (fun ls hl => ?_)
      refine jv_aload hx hb d_J_load_86 (lv_at hl 0 rfl) ?_
      refine jgx_A hc hh (js_pg hu h35) 0 (by decide) rfl wf_J_68 d_J_load_88 ?_
      refine jk_get (j := 0) hc hh (by decide) wf_J_62 d_J_load_91 ?_
      refine jv_acmp_eq (tgt := 115) (n := 3) hx hb (by decide) (jk_inj hc) (jc_Skx (jc_Sh_fdx hS (jc_Ow_ok hw)) (js_pg hu h35)) (jq_nI (by decide)) d_J_load_94 rfl (fun h94 => ?_) (fun h94 => ?_)
      ·
        refine jv_aload hx hb d_J_load_115 (lv_at hl 1 rfl) ?_
        refine jv_aload hx hb d_J_load_117 (lv_at hl 0 rfl) ?_
        refine jgx_A hc hh (js_pg hu h35) 3 (by decide) rfl wf_J_78 d_J_load_119 ?_
        refine lv_if_ne (tgt := 130) hx hb d_J_load_122 rfl (fun h122 => ?_) (fun h122 => ?_)
        ·
          refine lv_iconst (v := 1) hx hb d_J_load_130 (by decide) ?_
          refine lv_goto (tgt := 135) hx hb d_J_load_131 rfl ?_
          have J135 : ∀  (ls : Array Slot), lv_has ls 8 [(0, .ref (ad 0)), (2, .int url), (3, .int step), (6, jv ad 78 (nI (js_free u 8 39 0))), (7, jv ad 6 (url / 8))] → W p l e (jr (k + 1)) s m args below meth c H locs 0 0 Q (F0 m 135 ls [.int (jc_bx (jc_freeDoc u o) (url / 8) (jc_boxed u (u 7 (ix o)))), jv ad 78 (nI (js_free u 8 39 0))]) := by
            intro  ls hl
            refine jp_11 hc hh js_f39 jc_bx_z wf_J_219 d_J_load_135 (fun H locs hh => ?_)
            refine jv_aload hx hb d_J_load_138 (lv_at hl 3 rfl) ?_
            refine jv_aload hx hb d_J_load_140 (lv_at hl 3 rfl) ?_
            refine jg_D hc hh js_f39 3 (by decide) rfl wf_J_219 d_J_load_142 ?_
            refine lv_if_eq (tgt := 155) hx hb d_J_load_145 rfl (fun h145 => ?_) (fun h145 => ?_)
            ·
              refine lv_iload_n hx hb d_J_load_155 rfl (lv_at hl 1 rfl) ?_
              refine jx_callS [.int url] [jv ad 78 (nI (js_free u 8 39 0))] hc hh (c_hostOf l D aK ad cA (js_up (jc_freeDoc u o) 11 (js_free u 8 39 0) (jc_bx (jc_freeDoc u o) (url / 8) (jc_boxed u (u 7 (ix o))))) url) wy_J_205 ⟨rfl, rfl, by simp only [jr]; omega, by simp only [jr]; omega⟩ rfl hl.1 rfl (by simp [vc_int, vc_ref, vc_long, jv_cat]) ⟨Nat.zero_le _, Nat.zero_le _⟩ d_J_load_156 (fun r u9 H locs hp hh _ _ => ?_)
              rw [hp.2] at hh
              refine W.eq (g2 := F0 m 159 ls [.int (url / 64), jv ad 78 (nI (js_free u 8 39 0))]) (by rw [hp.1]; rfl) ?_
              refine jp_10 hc hh js_f39 wf_J_168 d_J_load_159 (fun H locs hh => ?_)
              have J162 : ∀  (H : Heap) (locs : List Loc) (ls : Array Slot), jx_H D 158 ad (jc_cell ad aK cA (jc_ldC (jc_freeDoc u o) (js_free u 8 39 0) url (jc_bx (jc_freeDoc u o) (url / 8) (jc_boxed u (u 7 (ix o)))))) A s.heap H locs → lv_has ls 8 [(0, .ref (ad 0)), (2, .int url), (3, .int step), (6, jv ad 78 (nI (js_free u 8 39 0))), (7, jv ad 6 (url / 8))] → W p l e (jr (k + 1)) s m args below meth c H locs 0 0 Q (F0 m 162 ls []) := by
                intro  H locs ls hh hl
                refine lv_aload_n hx hb d_J_load_162 rfl (lv_at hl 0 rfl) ?_
                refine jv_aload hx hb d_J_load_163 (lv_at hl 3 rfl) ?_
                refine jv_aload hx hb d_J_load_165 (lv_at hl 4 rfl) ?_
                refine lv_iload_n hx hb d_J_load_167 rfl (lv_at hl 2 rfl) ?_
                refine jx_callV [jv ad 78 (nI (js_free u 8 39 0)), jv ad 6 (url / 8), .int step] [] hc hh (hMF (jc_ldC (jc_freeDoc u o) (js_free u 8 39 0) url (jc_bx (jc_freeDoc u o) (url / 8) (jc_boxed u (u 7 (ix o))))) (js_free u 8 39 0) (url / 8) step (jc_Sh_ldC (jc_Sh_fdx hS (jc_Ow_ok hw))) js_f39 (by rw [(jc_ldC_fd _ rfl).1]; decide) (js_pg hu h35) (by rw [(jc_ldC_fd _ rfl).2]; exact jc_Ow_Gr hw (jc_ldC_Gr (jc_Gr_doc h0) h0)) (jc_Cp_Gr (jc_Cp_le hC (by omega) (by omega)) (jc_ldC_Gr (jc_Gr_doc h0) h0) (by omega))) wy_J_229 ⟨by decide, rfl, rfl⟩ ⟨rfl, rfl, by simp only [jr]; omega, by simp only [jr]; omega⟩ rfl hl.1 rfl (by decide) ⟨Nat.zero_le _, Nat.zero_le _⟩ d_J_load_168 (fun r u9 H locs hp hh _ _ => ?_)
                rw [hp.2] at hh
                refine W.eq (g2 := F0 m 171 ls []) rfl ?_
                refine jv_aload hx hb d_J_load_171 (lv_at hl 3 rfl) ?_
                exact jx_aret (r := (nI (js_free u 8 39 0))) hc hh hQ hlk hr (jv_or _ _ _) rfl ⟨rfl, by simp [jc_loadB, jc_ldU, h35, h94]⟩ d_J_load_173
              have e21 : (jc_ldC (jc_freeDoc u o) (js_free u 8 39 0) url (jc_bx (jc_freeDoc u o) (url / 8) (jc_boxed u (u 7 (ix o))))) = (js_up (js_up (jc_freeDoc u o) 11 (js_free u 8 39 0) (jc_bx (jc_freeDoc u o) (url / 8) (jc_boxed u (u 7 (ix o))))) 10 (js_free u 8 39 0) (url / 64)) := by first | (simp [jc_ldC, jc_opq, h145]; done) | (simp [jc_ldC, jc_opq, eq_true h145]; done)
              refine J162 _ _ _ ?_ ?_
              ·
                try rw [e21]
                exact hh
              try rw [e21]
              exact lv_sub hl [0, 1, 2, 3, 4] rfl
            refine lv_aload_n hx hb d_J_load_148 rfl (lv_at hl 0 rfl) ?_
            refine jx_callV [] [jv ad 78 (nI (js_free u 8 39 0))] hc hh (c_giveOpaqueOrigin l D aK ad cA (js_up (jc_freeDoc u o) 11 (js_free u 8 39 0) (jc_bx (jc_freeDoc u o) (url / 8) (jc_boxed u (u 7 (ix o)))))) wy_J_226 ⟨by decide, rfl, rfl⟩ ⟨rfl, rfl, by simp only [jr]; omega, by simp only [jr]; omega⟩ rfl hl.1 rfl (by simp [vc_int, vc_ref, vc_long, jv_cat]) ⟨Nat.zero_le _, Nat.zero_le _⟩ d_J_load_149 (fun r u9 H locs hp hh _ _ => ?_)
            rw [hp.2] at hh
            refine W.eq (g2 := F0 m 152 ls [.int (4 + (js_up (jc_freeDoc u o) 11 (js_free u 8 39 0) (jc_bx (jc_freeDoc u o) (url / 8) (jc_boxed u (u 7 (ix o))))) 24 0), jv ad 78 (nI (js_free u 8 39 0))]) (by rw [hp.1]; rfl) ?_
            refine lv_goto (tgt := 159) hx hb d_J_load_152 rfl ?_
            refine jp_10 hc hh js_f39 wf_J_168 d_J_load_159 (fun H locs hh => ?_)
            have J162 : ∀  (H : Heap) (locs : List Loc) (ls : Array Slot), jx_H D 158 ad (jc_cell ad aK cA (jc_ldC (jc_freeDoc u o) (js_free u 8 39 0) url (jc_bx (jc_freeDoc u o) (url / 8) (jc_boxed u (u 7 (ix o)))))) A s.heap H locs → lv_has ls 8 [(0, .ref (ad 0)), (2, .int url), (3, .int step), (6, jv ad 78 (nI (js_free u 8 39 0))), (7, jv ad 6 (url / 8))] → W p l e (jr (k + 1)) s m args below meth c H locs 0 0 Q (F0 m 162 ls []) := by
              intro  H locs ls hh hl
              refine lv_aload_n hx hb d_J_load_162 rfl (lv_at hl 0 rfl) ?_
              refine jv_aload hx hb d_J_load_163 (lv_at hl 3 rfl) ?_
              refine jv_aload hx hb d_J_load_165 (lv_at hl 4 rfl) ?_
              refine lv_iload_n hx hb d_J_load_167 rfl (lv_at hl 2 rfl) ?_
              refine jx_callV [jv ad 78 (nI (js_free u 8 39 0)), jv ad 6 (url / 8), .int step] [] hc hh (hMF (jc_ldC (jc_freeDoc u o) (js_free u 8 39 0) url (jc_bx (jc_freeDoc u o) (url / 8) (jc_boxed u (u 7 (ix o))))) (js_free u 8 39 0) (url / 8) step (jc_Sh_ldC (jc_Sh_fdx hS (jc_Ow_ok hw))) js_f39 (by rw [(jc_ldC_fd _ rfl).1]; decide) (js_pg hu h35) (by rw [(jc_ldC_fd _ rfl).2]; exact jc_Ow_Gr hw (jc_ldC_Gr (jc_Gr_doc h0) h0)) (jc_Cp_Gr (jc_Cp_le hC (by omega) (by omega)) (jc_ldC_Gr (jc_Gr_doc h0) h0) (by omega))) wy_J_229 ⟨by decide, rfl, rfl⟩ ⟨rfl, rfl, by simp only [jr]; omega, by simp only [jr]; omega⟩ rfl hl.1 rfl (by decide) ⟨Nat.zero_le _, Nat.zero_le _⟩ d_J_load_168 (fun r u9 H locs hp hh _ _ => ?_)
              rw [hp.2] at hh
              refine W.eq (g2 := F0 m 171 ls []) rfl ?_
              refine jv_aload hx hb d_J_load_171 (lv_at hl 3 rfl) ?_
              exact jx_aret (r := (nI (js_free u 8 39 0))) hc hh hQ hlk hr (jv_or _ _ _) rfl ⟨rfl, by simp [jc_loadB, jc_ldU, h35, h94]⟩ d_J_load_173
            have e22 : (jc_ldC (jc_freeDoc u o) (js_free u 8 39 0) url (jc_bx (jc_freeDoc u o) (url / 8) (jc_boxed u (u 7 (ix o))))) = (js_up (js_up (js_up (jc_freeDoc u o) 11 (js_free u 8 39 0) (jc_bx (jc_freeDoc u o) (url / 8) (jc_boxed u (u 7 (ix o))))) 24 0 ((js_up (jc_freeDoc u o) 11 (js_free u 8 39 0) (jc_bx (jc_freeDoc u o) (url / 8) (jc_boxed u (u 7 (ix o))))) 24 0 + 1)) 10 (js_free u 8 39 0) (4 + (js_up (jc_freeDoc u o) 11 (js_free u 8 39 0) (jc_bx (jc_freeDoc u o) (url / 8) (jc_boxed u (u 7 (ix o))))) 24 0)) := by simp [jc_ldC, jc_opq, h145]
            refine J162 _ _ _ ?_ ?_
            ·
              try rw [e22]
              exact hh
            try rw [e22]
            exact lv_sub hl [0, 1, 2, 3, 4] rfl
          have e23 : (jc_bx (jc_freeDoc u o) (url / 8) (jc_boxed u (u 7 (ix o)))) = 1 := by first | (simp [jc_bx, h35, h94, h122]; done) | (simp [jc_bx, h35, eq_true h94, h122]; done)
          refine W.eq (g2 := F0 m 135 ls [.int (jc_bx (jc_freeDoc u o) (url / 8) (jc_boxed u (u 7 (ix o)))), jv ad 78 (nI (js_free u 8 39 0))]) (by first | (rw [e23]; done) | (rw [e23]; rfl)) ?_
          refine J135 _ ?_
          exact lv_sub hl [3, 5, 6, 1, 0] rfl
        refine lv_iload hx hb d_J_load_125 (lv_at hl 2 rfl) ?_
        refine lv_if_eq (tgt := 134) hx hb d_J_load_127 rfl (fun h127 => ?_) (fun h127 => ?_)
        ·
          refine lv_iconst (v := 0) hx hb d_J_load_134 (by decide) ?_
          have J135 : ∀  (ls : Array Slot), lv_has ls 8 [(0, .ref (ad 0)), (2, .int url), (3, .int step), (6, jv ad 78 (nI (js_free u 8 39 0))), (7, jv ad 6 (url / 8))] → W p l e (jr (k + 1)) s m args below meth c H locs 0 0 Q (F0 m 135 ls [.int (jc_bx (jc_freeDoc u o) (url / 8) (jc_boxed u (u 7 (ix o)))), jv ad 78 (nI (js_free u 8 39 0))]) := by
            intro  ls hl
            refine jp_11 hc hh js_f39 jc_bx_z wf_J_219 d_J_load_135 (fun H locs hh => ?_)
            refine jv_aload hx hb d_J_load_138 (lv_at hl 3 rfl) ?_
            refine jv_aload hx hb d_J_load_140 (lv_at hl 3 rfl) ?_
            refine jg_D hc hh js_f39 3 (by decide) rfl wf_J_219 d_J_load_142 ?_
            refine lv_if_eq (tgt := 155) hx hb d_J_load_145 rfl (fun h145 => ?_) (fun h145 => ?_)
            ·
              refine lv_iload_n hx hb d_J_load_155 rfl (lv_at hl 1 rfl) ?_
              refine jx_callS [.int url] [jv ad 78 (nI (js_free u 8 39 0))] hc hh (c_hostOf l D aK ad cA (js_up (jc_freeDoc u o) 11 (js_free u 8 39 0) (jc_bx (jc_freeDoc u o) (url / 8) (jc_boxed u (u 7 (ix o))))) url) wy_J_205 ⟨rfl, rfl, by simp only [jr]; omega, by simp only [jr]; omega⟩ rfl hl.1 rfl (by simp [vc_int, vc_ref, vc_long, jv_cat]) ⟨Nat.zero_le _, Nat.zero_le _⟩ d_J_load_156 (fun r u9 H locs hp hh _ _ => ?_)
              rw [hp.2] at hh
              refine W.eq (g2 := F0 m 159 ls [.int (url / 64), jv ad 78 (nI (js_free u 8 39 0))]) (by rw [hp.1]; rfl) ?_
              refine jp_10 hc hh js_f39 wf_J_168 d_J_load_159 (fun H locs hh => ?_)
              have J162 : ∀  (H : Heap) (locs : List Loc) (ls : Array Slot), jx_H D 158 ad (jc_cell ad aK cA (jc_ldC (jc_freeDoc u o) (js_free u 8 39 0) url (jc_bx (jc_freeDoc u o) (url / 8) (jc_boxed u (u 7 (ix o)))))) A s.heap H locs → lv_has ls 8 [(0, .ref (ad 0)), (2, .int url), (3, .int step), (6, jv ad 78 (nI (js_free u 8 39 0))), (7, jv ad 6 (url / 8))] → W p l e (jr (k + 1)) s m args below meth c H locs 0 0 Q (F0 m 162 ls []) := by
                intro  H locs ls hh hl
                refine lv_aload_n hx hb d_J_load_162 rfl (lv_at hl 0 rfl) ?_
                refine jv_aload hx hb d_J_load_163 (lv_at hl 3 rfl) ?_
                refine jv_aload hx hb d_J_load_165 (lv_at hl 4 rfl) ?_
                refine lv_iload_n hx hb d_J_load_167 rfl (lv_at hl 2 rfl) ?_
                refine jx_callV [jv ad 78 (nI (js_free u 8 39 0)), jv ad 6 (url / 8), .int step] [] hc hh (hMF (jc_ldC (jc_freeDoc u o) (js_free u 8 39 0) url (jc_bx (jc_freeDoc u o) (url / 8) (jc_boxed u (u 7 (ix o))))) (js_free u 8 39 0) (url / 8) step (jc_Sh_ldC (jc_Sh_fdx hS (jc_Ow_ok hw))) js_f39 (by rw [(jc_ldC_fd _ rfl).1]; decide) (js_pg hu h35) (by rw [(jc_ldC_fd _ rfl).2]; exact jc_Ow_Gr hw (jc_ldC_Gr (jc_Gr_doc h0) h0)) (jc_Cp_Gr (jc_Cp_le hC (by omega) (by omega)) (jc_ldC_Gr (jc_Gr_doc h0) h0) (by omega))) wy_J_229 ⟨by decide, rfl, rfl⟩ ⟨rfl, rfl, by simp only [jr]; omega, by simp only [jr]; omega⟩ rfl hl.1 rfl (by decide) ⟨Nat.zero_le _, Nat.zero_le _⟩ d_J_load_168 (fun r u9 H locs hp hh _ _ => ?_)
                rw [hp.2] at hh
                refine W.eq (g2 := F0 m 171 ls []) rfl ?_
                refine jv_aload hx hb d_J_load_171 (lv_at hl 3 rfl) ?_
                exact jx_aret (r := (nI (js_free u 8 39 0))) hc hh hQ hlk hr (jv_or _ _ _) rfl ⟨rfl, by simp [jc_loadB, jc_ldU, h35, h94]⟩ d_J_load_173
              have e24 : (jc_ldC (jc_freeDoc u o) (js_free u 8 39 0) url (jc_bx (jc_freeDoc u o) (url / 8) (jc_boxed u (u 7 (ix o))))) = (js_up (js_up (jc_freeDoc u o) 11 (js_free u 8 39 0) (jc_bx (jc_freeDoc u o) (url / 8) (jc_boxed u (u 7 (ix o))))) 10 (js_free u 8 39 0) (url / 64)) := by first | (simp [jc_ldC, jc_opq, h145]; done) | (simp [jc_ldC, jc_opq, eq_true h145]; done)
              refine J162 _ _ _ ?_ ?_
              ·
                try rw [e24]
                exact hh
              try rw [e24]
              exact lv_sub hl [0, 1, 2, 3, 4] rfl
            refine lv_aload_n hx hb d_J_load_148 rfl (lv_at hl 0 rfl) ?_
            refine jx_callV [] [jv ad 78 (nI (js_free u 8 39 0))] hc hh (c_giveOpaqueOrigin l D aK ad cA (js_up (jc_freeDoc u o) 11 (js_free u 8 39 0) (jc_bx (jc_freeDoc u o) (url / 8) (jc_boxed u (u 7 (ix o)))))) wy_J_226 ⟨by decide, rfl, rfl⟩ ⟨rfl, rfl, by simp only [jr]; omega, by simp only [jr]; omega⟩ rfl hl.1 rfl (by simp [vc_int, vc_ref, vc_long, jv_cat]) ⟨Nat.zero_le _, Nat.zero_le _⟩ d_J_load_149 (fun r u9 H locs hp hh _ _ => ?_)
            rw [hp.2] at hh
            refine W.eq (g2 := F0 m 152 ls [.int (4 + (js_up (jc_freeDoc u o) 11 (js_free u 8 39 0) (jc_bx (jc_freeDoc u o) (url / 8) (jc_boxed u (u 7 (ix o))))) 24 0), jv ad 78 (nI (js_free u 8 39 0))]) (by rw [hp.1]; rfl) ?_
            refine lv_goto (tgt := 159) hx hb d_J_load_152 rfl ?_
            refine jp_10 hc hh js_f39 wf_J_168 d_J_load_159 (fun H locs hh => ?_)
            have J162 : ∀  (H : Heap) (locs : List Loc) (ls : Array Slot), jx_H D 158 ad (jc_cell ad aK cA (jc_ldC (jc_freeDoc u o) (js_free u 8 39 0) url (jc_bx (jc_freeDoc u o) (url / 8) (jc_boxed u (u 7 (ix o)))))) A s.heap H locs → lv_has ls 8 [(0, .ref (ad 0)), (2, .int url), (3, .int step), (6, jv ad 78 (nI (js_free u 8 39 0))), (7, jv ad 6 (url / 8))] → W p l e (jr (k + 1)) s m args below meth c H locs 0 0 Q (F0 m 162 ls []) := by
              intro  H locs ls hh hl
              refine lv_aload_n hx hb d_J_load_162 rfl (lv_at hl 0 rfl) ?_
              refine jv_aload hx hb d_J_load_163 (lv_at hl 3 rfl) ?_
              refine jv_aload hx hb d_J_load_165 (lv_at hl 4 rfl) ?_
              refine lv_iload_n hx hb d_J_load_167 rfl (lv_at hl 2 rfl) ?_
              refine jx_callV [jv ad 78 (nI (js_free u 8 39 0)), jv ad 6 (url / 8), .int step] [] hc hh (hMF (jc_ldC (jc_freeDoc u o) (js_free u 8 39 0) url (jc_bx (jc_freeDoc u o) (url / 8) (jc_boxed u (u 7 (ix o))))) (js_free u 8 39 0) (url / 8) step (jc_Sh_ldC (jc_Sh_fdx hS (jc_Ow_ok hw))) js_f39 (by rw [(jc_ldC_fd _ rfl).1]; decide) (js_pg hu h35) (by rw [(jc_ldC_fd _ rfl).2]; exact jc_Ow_Gr hw (jc_ldC_Gr (jc_Gr_doc h0) h0)) (jc_Cp_Gr (jc_Cp_le hC (by omega) (by omega)) (jc_ldC_Gr (jc_Gr_doc h0) h0) (by omega))) wy_J_229 ⟨by decide, rfl, rfl⟩ ⟨rfl, rfl, by simp only [jr]; omega, by simp only [jr]; omega⟩ rfl hl.1 rfl (by decide) ⟨Nat.zero_le _, Nat.zero_le _⟩ d_J_load_168 (fun r u9 H locs hp hh _ _ => ?_)
              rw [hp.2] at hh
              refine W.eq (g2 := F0 m 171 ls []) rfl ?_
              refine jv_aload hx hb d_J_load_171 (lv_at hl 3 rfl) ?_
              exact jx_aret (r := (nI (js_free u 8 39 0))) hc hh hQ hlk hr (jv_or _ _ _) rfl ⟨rfl, by simp [jc_loadB, jc_ldU, h35, h94]⟩ d_J_load_173
            have e25 : (jc_ldC (jc_freeDoc u o) (js_free u 8 39 0) url (jc_bx (jc_freeDoc u o) (url / 8) (jc_boxed u (u 7 (ix o))))) = (js_up (js_up (js_up (jc_freeDoc u o) 11 (js_free u 8 39 0) (jc_bx (jc_freeDoc u o) (url / 8) (jc_boxed u (u 7 (ix o))))) 24 0 ((js_up (jc_freeDoc u o) 11 (js_free u 8 39 0) (jc_bx (jc_freeDoc u o) (url / 8) (jc_boxed u (u 7 (ix o))))) 24 0 + 1)) 10 (js_free u 8 39 0) (4 + (js_up (jc_freeDoc u o) 11 (js_free u 8 39 0) (jc_bx (jc_freeDoc u o) (url / 8) (jc_boxed u (u 7 (ix o))))) 24 0)) := by simp [jc_ldC, jc_opq, h145]
            refine J162 _ _ _ ?_ ?_
            ·
              try rw [e25]
              exact hh
            try rw [e25]
            exact lv_sub hl [0, 1, 2, 3, 4] rfl
          have e26 : (jc_bx (jc_freeDoc u o) (url / 8) (jc_boxed u (u 7 (ix o)))) = 0 := by first | (simp [jc_bx, h35, h94, h122, h127]; done) | (simp [jc_bx, h35, eq_true h94, eq_true h122, eq_true h127]; done)
          refine W.eq (g2 := F0 m 135 ls [.int (jc_bx (jc_freeDoc u o) (url / 8) (jc_boxed u (u 7 (ix o)))), jv ad 78 (nI (js_free u 8 39 0))]) (by first | (rw [e26]; done) | (rw [e26]; rfl)) ?_
          refine J135 _ ?_
          exact lv_sub hl [3, 5, 6, 1, 0] rfl
        refine lv_iconst (v := 1) hx hb d_J_load_130 (by decide) ?_
        refine lv_goto (tgt := 135) hx hb d_J_load_131 rfl ?_
        have J135 : ∀  (ls : Array Slot), lv_has ls 8 [(0, .ref (ad 0)), (2, .int url), (3, .int step), (6, jv ad 78 (nI (js_free u 8 39 0))), (7, jv ad 6 (url / 8))] → W p l e (jr (k + 1)) s m args below meth c H locs 0 0 Q (F0 m 135 ls [.int (jc_bx (jc_freeDoc u o) (url / 8) (jc_boxed u (u 7 (ix o)))), jv ad 78 (nI (js_free u 8 39 0))]) := by
          intro  ls hl
          refine jp_11 hc hh js_f39 jc_bx_z wf_J_219 d_J_load_135 (fun H locs hh => ?_)
          refine jv_aload hx hb d_J_load_138 (lv_at hl 3 rfl) ?_
          refine jv_aload hx hb d_J_load_140 (lv_at hl 3 rfl) ?_
          refine jg_D hc hh js_f39 3 (by decide) rfl wf_J_219 d_J_load_142 ?_
          refine lv_if_eq (tgt := 155) hx hb d_J_load_145 rfl (fun h145 => ?_) (fun h145 => ?_)
          ·
            refine lv_iload_n hx hb d_J_load_155 rfl (lv_at hl 1 rfl) ?_
            refine jx_callS [.int url] [jv ad 78 (nI (js_free u 8 39 0))] hc hh (c_hostOf l D aK ad cA (js_up (jc_freeDoc u o) 11 (js_free u 8 39 0) (jc_bx (jc_freeDoc u o) (url / 8) (jc_boxed u (u 7 (ix o))))) url) wy_J_205 ⟨rfl, rfl, by simp only [jr]; omega, by simp only [jr]; omega⟩ rfl hl.1 rfl (by simp [vc_int, vc_ref, vc_long, jv_cat]) ⟨Nat.zero_le _, Nat.zero_le _⟩ d_J_load_156 (fun r u9 H locs hp hh _ _ => ?_)
            rw [hp.2] at hh
            refine W.eq (g2 := F0 m 159 ls [.int (url / 64), jv ad 78 (nI (js_free u 8 39 0))]) (by rw [hp.1]; rfl) ?_
            refine jp_10 hc hh js_f39 wf_J_168 d_J_load_159 (fun H locs hh => ?_)
            have J162 : ∀  (H : Heap) (locs : List Loc) (ls : Array Slot), jx_H D 158 ad (jc_cell ad aK cA (jc_ldC (jc_freeDoc u o) (js_free u 8 39 0) url (jc_bx (jc_freeDoc u o) (url / 8) (jc_boxed u (u 7 (ix o)))))) A s.heap H locs → lv_has ls 8 [(0, .ref (ad 0)), (2, .int url), (3, .int step), (6, jv ad 78 (nI (js_free u 8 39 0))), (7, jv ad 6 (url / 8))] → W p l e (jr (k + 1)) s m args below meth c H locs 0 0 Q (F0 m 162 ls []) := by
              intro  H locs ls hh hl
              refine lv_aload_n hx hb d_J_load_162 rfl (lv_at hl 0 rfl) ?_
              refine jv_aload hx hb d_J_load_163 (lv_at hl 3 rfl) ?_
              refine jv_aload hx hb d_J_load_165 (lv_at hl 4 rfl) ?_
              refine lv_iload_n hx hb d_J_load_167 rfl (lv_at hl 2 rfl) ?_
              refine jx_callV [jv ad 78 (nI (js_free u 8 39 0)), jv ad 6 (url / 8), .int step] [] hc hh (hMF (jc_ldC (jc_freeDoc u o) (js_free u 8 39 0) url (jc_bx (jc_freeDoc u o) (url / 8) (jc_boxed u (u 7 (ix o))))) (js_free u 8 39 0) (url / 8) step (jc_Sh_ldC (jc_Sh_fdx hS (jc_Ow_ok hw))) js_f39 (by rw [(jc_ldC_fd _ rfl).1]; decide) (js_pg hu h35) (by rw [(jc_ldC_fd _ rfl).2]; exact jc_Ow_Gr hw (jc_ldC_Gr (jc_Gr_doc h0) h0)) (jc_Cp_Gr (jc_Cp_le hC (by omega) (by omega)) (jc_ldC_Gr (jc_Gr_doc h0) h0) (by omega))) wy_J_229 ⟨by decide, rfl, rfl⟩ ⟨rfl, rfl, by simp only [jr]; omega, by simp only [jr]; omega⟩ rfl hl.1 rfl (by decide) ⟨Nat.zero_le _, Nat.zero_le _⟩ d_J_load_168 (fun r u9 H locs hp hh _ _ => ?_)
              rw [hp.2] at hh
              refine W.eq (g2 := F0 m 171 ls []) rfl ?_
              refine jv_aload hx hb d_J_load_171 (lv_at hl 3 rfl) ?_
              exact jx_aret (r := (nI (js_free u 8 39 0))) hc hh hQ hlk hr (jv_or _ _ _) rfl ⟨rfl, by simp [jc_loadB, jc_ldU, h35, h94]⟩ d_J_load_173
            have e27 : (jc_ldC (jc_freeDoc u o) (js_free u 8 39 0) url (jc_bx (jc_freeDoc u o) (url / 8) (jc_boxed u (u 7 (ix o))))) = (js_up (js_up (jc_freeDoc u o) 11 (js_free u 8 39 0) (jc_bx (jc_freeDoc u o) (url / 8) (jc_boxed u (u 7 (ix o))))) 10 (js_free u 8 39 0) (url / 64)) := by first | (simp [jc_ldC, jc_opq, h145]; done) | (simp [jc_ldC, jc_opq, eq_true h145]; done)
            refine J162 _ _ _ ?_ ?_
            ·
              try rw [e27]
              exact hh
            try rw [e27]
            exact lv_sub hl [0, 1, 2, 3, 4] rfl
          refine lv_aload_n hx hb d_J_load_148 rfl (lv_at hl 0 rfl) ?_
          refine jx_callV [] [jv ad 78 (nI (js_free u 8 39 0))] hc hh (c_giveOpaqueOrigin l D aK ad cA (js_up (jc_freeDoc u o) 11 (js_free u 8 39 0) (jc_bx (jc_freeDoc u o) (url / 8) (jc_boxed u (u 7 (ix o)))))) wy_J_226 ⟨by decide, rfl, rfl⟩ ⟨rfl, rfl, by simp only [jr]; omega, by simp only [jr]; omega⟩ rfl hl.1 rfl (by simp [vc_int, vc_ref, vc_long, jv_cat]) ⟨Nat.zero_le _, Nat.zero_le _⟩ d_J_load_149 (fun r u9 H locs hp hh _ _ => ?_)
          rw [hp.2] at hh
          refine W.eq (g2 := F0 m 152 ls [.int (4 + (js_up (jc_freeDoc u o) 11 (js_free u 8 39 0) (jc_bx (jc_freeDoc u o) (url / 8) (jc_boxed u (u 7 (ix o))))) 24 0), jv ad 78 (nI (js_free u 8 39 0))]) (by rw [hp.1]; rfl) ?_
          refine lv_goto (tgt := 159) hx hb d_J_load_152 rfl ?_
          refine jp_10 hc hh js_f39 wf_J_168 d_J_load_159 (fun H locs hh => ?_)
          have J162 : ∀  (H : Heap) (locs : List Loc) (ls : Array Slot), jx_H D 158 ad (jc_cell ad aK cA (jc_ldC (jc_freeDoc u o) (js_free u 8 39 0) url (jc_bx (jc_freeDoc u o) (url / 8) (jc_boxed u (u 7 (ix o)))))) A s.heap H locs → lv_has ls 8 [(0, .ref (ad 0)), (2, .int url), (3, .int step), (6, jv ad 78 (nI (js_free u 8 39 0))), (7, jv ad 6 (url / 8))] → W p l e (jr (k + 1)) s m args below meth c H locs 0 0 Q (F0 m 162 ls []) := by
            intro  H locs ls hh hl
            refine lv_aload_n hx hb d_J_load_162 rfl (lv_at hl 0 rfl) ?_
            refine jv_aload hx hb d_J_load_163 (lv_at hl 3 rfl) ?_
            refine jv_aload hx hb d_J_load_165 (lv_at hl 4 rfl) ?_
            refine lv_iload_n hx hb d_J_load_167 rfl (lv_at hl 2 rfl) ?_
            refine jx_callV [jv ad 78 (nI (js_free u 8 39 0)), jv ad 6 (url / 8), .int step] [] hc hh (hMF (jc_ldC (jc_freeDoc u o) (js_free u 8 39 0) url (jc_bx (jc_freeDoc u o) (url / 8) (jc_boxed u (u 7 (ix o))))) (js_free u 8 39 0) (url / 8) step (jc_Sh_ldC (jc_Sh_fdx hS (jc_Ow_ok hw))) js_f39 (by rw [(jc_ldC_fd _ rfl).1]; decide) (js_pg hu h35) (by rw [(jc_ldC_fd _ rfl).2]; exact jc_Ow_Gr hw (jc_ldC_Gr (jc_Gr_doc h0) h0)) (jc_Cp_Gr (jc_Cp_le hC (by omega) (by omega)) (jc_ldC_Gr (jc_Gr_doc h0) h0) (by omega))) wy_J_229 ⟨by decide, rfl, rfl⟩ ⟨rfl, rfl, by simp only [jr]; omega, by simp only [jr]; omega⟩ rfl hl.1 rfl (by decide) ⟨Nat.zero_le _, Nat.zero_le _⟩ d_J_load_168 (fun r u9 H locs hp hh _ _ => ?_)
            rw [hp.2] at hh
            refine W.eq (g2 := F0 m 171 ls []) rfl ?_
            refine jv_aload hx hb d_J_load_171 (lv_at hl 3 rfl) ?_
            exact jx_aret (r := (nI (js_free u 8 39 0))) hc hh hQ hlk hr (jv_or _ _ _) rfl ⟨rfl, by simp [jc_loadB, jc_ldU, h35, h94]⟩ d_J_load_173
          have e28 : (jc_ldC (jc_freeDoc u o) (js_free u 8 39 0) url (jc_bx (jc_freeDoc u o) (url / 8) (jc_boxed u (u 7 (ix o))))) = (js_up (js_up (js_up (jc_freeDoc u o) 11 (js_free u 8 39 0) (jc_bx (jc_freeDoc u o) (url / 8) (jc_boxed u (u 7 (ix o))))) 24 0 ((js_up (jc_freeDoc u o) 11 (js_free u 8 39 0) (jc_bx (jc_freeDoc u o) (url / 8) (jc_boxed u (u 7 (ix o))))) 24 0 + 1)) 10 (js_free u 8 39 0) (4 + (js_up (jc_freeDoc u o) 11 (js_free u 8 39 0) (jc_bx (jc_freeDoc u o) (url / 8) (jc_boxed u (u 7 (ix o))))) 24 0)) := by simp [jc_ldC, jc_opq, h145]
          refine J162 _ _ _ ?_ ?_
          ·
            try rw [e28]
            exact hh
          try rw [e28]
          exact lv_sub hl [0, 1, 2, 3, 4] rfl
        have e29 : (jc_bx (jc_freeDoc u o) (url / 8) (jc_boxed u (u 7 (ix o)))) = 1 := by first | (simp [jc_bx, h35, h94, h122, h127]; done) | (simp [jc_bx, h35, eq_true h94, eq_true h122, h127]; done)
        refine W.eq (g2 := F0 m 135 ls [.int (jc_bx (jc_freeDoc u o) (url / 8) (jc_boxed u (u 7 (ix o)))), jv ad 78 (nI (js_free u 8 39 0))]) (by first | (rw [e29]; done) | (rw [e29]; rfl)) ?_
        refine J135 _ ?_
        exact lv_sub hl [3, 5, 6, 1, 0] rfl
      refine jv_aload hx hb d_J_load_97 (lv_at hl 1 rfl) ?_
      refine lv_iconst (v := 0) hx hb d_J_load_99 (by decide) ?_
      refine jp_11 hc hh js_f39 (by decide) wf_J_219 d_J_load_100 (fun H locs hh => ?_)
      refine jv_aload hx hb d_J_load_103 (lv_at hl 1 rfl) ?_
      refine lv_aload_n hx hb d_J_load_105 rfl (lv_at hl 3 rfl) ?_
      refine jx_callV [] [jv ad 78 (nI (js_free u 8 39 0))] hc hh (c_giveOpaqueOrigin l D aK ad cA (js_up (jc_freeDoc u o) 11 (js_free u 8 39 0) 0)) wy_J_226 ⟨by decide, rfl, rfl⟩ ⟨rfl, rfl, by simp only [jr]; omega, by simp only [jr]; omega⟩ rfl hl.1 rfl (by simp [vc_int, vc_ref, vc_long, jv_cat]) ⟨Nat.zero_le _, Nat.zero_le _⟩ d_J_load_106 (fun r u9 H locs hp hh _ _ => ?_)
      rw [hp.2] at hh
      refine W.eq (g2 := F0 m 109 ls [.int (4 + (js_up (jc_freeDoc u o) 11 (js_free u 8 39 0) 0) 24 0), jv ad 78 (nI (js_free u 8 39 0))]) (by rw [hp.1]; rfl) ?_
      refine jp_10 hc hh js_f39 wf_J_168 d_J_load_109 (fun H locs hh => ?_)
      refine jv_aload hx hb d_J_load_112 (lv_at hl 1 rfl) ?_
      exact jx_aret (r := (nI (js_free u 8 39 0))) hc hh hQ hlk hr (jv_or _ _ _) rfl ⟨rfl, by simp [jc_loadB, jc_ldU, jc_opq, h35, h94]⟩ d_J_load_114
    refine jv_aload hx hb d_J_load_38 (lv_at hl 0 rfl) ?_
    refine lv_iload hx hb d_J_load_40 (lv_at hl 1 rfl) ?_
    refine jp_11 hc hh js_f39 jc_boxed_z wf_J_219 d_J_load_42 (fun H locs hh => ?_)
    refine jv_aload hx hb d_J_load_45 (lv_at hl 0 rfl) ?_
    refine jv_aload hx hb d_J_load_47 (lv_at hl 6 rfl) ?_
    refine jv_ifnull (tgt := 57) hx hb d_J_load_49 rfl (fun h49 => ?_) (fun h49 => ?_)
    ·
      refine lv_aload_n hx hb d_J_load_57 rfl (lv_at hl 2 rfl) ?_
      refine jx_callV [] [jv ad 78 (nI (js_free u 8 39 0))] hc hh (c_giveOpaqueOrigin l D aK ad cA (js_up (jc_freeDoc u o) 11 (js_free u 8 39 0) (jc_boxed u (u 7 (ix o))))) wy_J_226 ⟨by decide, rfl, rfl⟩ ⟨rfl, rfl, by simp only [jr]; omega, by simp only [jr]; omega⟩ rfl hl.1 rfl (by simp [vc_int, vc_ref, vc_long, jv_cat]) ⟨Nat.zero_le _, Nat.zero_le _⟩ d_J_load_58 (fun r u9 H locs hp hh _ _ => ?_)
      rw [hp.2] at hh
      refine W.eq (g2 := F0 m 61 ls [.int (4 + (js_up (jc_freeDoc u o) 11 (js_free u 8 39 0) (jc_boxed u (u 7 (ix o)))) 24 0), jv ad 78 (nI (js_free u 8 39 0))]) (by rw [hp.1]; rfl) ?_
      refine lv_goto (tgt := 69) hx hb d_J_load_61 rfl ?_
      refine jp_10 hc hh js_f39 wf_J_168 d_J_load_69 (fun H locs hh => ?_)
      refine jv_aload hx hb d_J_load_72 (lv_at hl 0 rfl) ?_
      exact jx_aret (r := (nI (js_free u 8 39 0))) hc hh hQ hlk hr (jv_or _ _ _) rfl ⟨rfl, by simp [jc_loadB, jc_ldA, jc_opq, h35, h49]⟩ d_J_load_74
    refine lv_iload hx hb d_J_load_52 (lv_at hl 1 rfl) ?_
    refine lv_if_eq (tgt := 64) hx hb d_J_load_54 rfl (fun h54 => ?_) (fun h54 => ?_)
    ·
      refine jv_aload hx hb d_J_load_64 (lv_at hl 6 rfl) ?_
      refine jgx_D hc hh (jq_ne (jc_S7x hS (jc_Ow_ok hw)) h49) 2 (by decide) rfl wf_J_168 d_J_load_66 ?_
      refine jp_10 hc hh js_f39 wf_J_168 d_J_load_69 (fun H locs hh => ?_)
      refine jv_aload hx hb d_J_load_72 (lv_at hl 0 rfl) ?_
      exact jx_aret (r := (nI (js_free u 8 39 0))) hc hh hQ hlk hr (jv_or _ _ _) rfl ⟨rfl, by simp [jc_loadB, jc_ldA, jc_opq, h35, h49, h54]⟩ d_J_load_74
    refine lv_aload_n hx hb d_J_load_57 rfl (lv_at hl 2 rfl) ?_
    refine jx_callV [] [jv ad 78 (nI (js_free u 8 39 0))] hc hh (c_giveOpaqueOrigin l D aK ad cA (js_up (jc_freeDoc u o) 11 (js_free u 8 39 0) (jc_boxed u (u 7 (ix o))))) wy_J_226 ⟨by decide, rfl, rfl⟩ ⟨rfl, rfl, by simp only [jr]; omega, by simp only [jr]; omega⟩ rfl hl.1 rfl (by simp [vc_int, vc_ref, vc_long, jv_cat]) ⟨Nat.zero_le _, Nat.zero_le _⟩ d_J_load_58 (fun r u9 H locs hp hh _ _ => ?_)
    rw [hp.2] at hh
    refine W.eq (g2 := F0 m 61 ls [.int (4 + (js_up (jc_freeDoc u o) 11 (js_free u 8 39 0) (jc_boxed u (u 7 (ix o)))) 24 0), jv ad 78 (nI (js_free u 8 39 0))]) (by rw [hp.1]; rfl) ?_
    refine lv_goto (tgt := 69) hx hb d_J_load_61 rfl ?_
    refine jp_10 hc hh js_f39 wf_J_168 d_J_load_69 (fun H locs hh => ?_)
    refine jv_aload hx hb d_J_load_72 (lv_at hl 0 rfl) ?_
    exact jx_aret (r := (nI (js_free u 8 39 0))) hc hh hQ hlk hr (jv_or _ _ _) rfl ⟨rfl, by simp [jc_loadB, jc_ldA, jc_opq, h35, h49, h54]⟩ d_J_load_74
  have e30 : (jc_boxed u (u 7 (ix o))) = 1 := by simp [jc_boxed, h8, h16]
  refine W.eq (g2 := F0 m 24 ls [.int (jc_boxed u (u 7 (ix o)))]) (by first | (rw [e30]; done) | (rw [e30]; rfl)) ?_
  refine J24 _ ?_
  exact lv_sub hl [1, 2, 3, 4, 0] rfl
