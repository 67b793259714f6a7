set_option maxHeartbeats 4000000 in
set_option maxRecDepth 100000 in
theorem m_make (l : Launch) (D : va_G) (aK ad : Nat → Nat) (cA : Nat → ClassId) (u : js_S) (nav : Int32) (url : Int32) (hS : jm_Sh u) (h_nav : ∃ i, i < 48 ∧ nav = nI i) (hu : jq 256 url) : jx_M l y_M_make b_M_make 8 (some .int) (jr 2) D (jc_tys cA) aK 22 ad (jm_cell ad cA) [.ref (ad 0), .int nav, .int url] u (fun r : Int32 => some (.int r)) (fun r u' => r = nI (js_free u 10 47 0) ∧ u' = (jm_make u nav url)) := by
  refine jx_enter "JointHistoryModel" (by decide) rfl (by simp [lg_sl, vc_int, vc_ref, vc_long, jv_cat]) ?_
  intro p e s m args below meth c A Q H locs ls hQ hc hh hr hlk hl
  have hx := hc.1
  have hb := hc.2.1
  have hl : lv_has ls 8 [(0, .ref (ad 0)), (1, .int nav), (2, .int url)] := by simpa [lv_args, vc_int, vc_ref, vc_long, jv_cat] using hl
  refine lv_iconst (v := 0) hx hb d_M_make_0 (by decide) ?_
  refine lv_istore_n (i := 3) (lv' := [(3, .int 0), (0, .ref (ad 0)), (1, .int nav), (2, .int url)]) hx hb d_M_make_1 rfl hl (by decide) rfl (fun ls hl => ?_)
  have L2 : ∀ (n : Nat) (i : Nat) (ls : Array Slot), i + n = 47 → (js_free u 10 n i = js_free u 10 47 0) → lv_has ls 8 [(0, .ref (ad 0)), (1, .int nav), (2, .int url), (3, .int (nI i))] → W p l e (jr 2) s m args below meth c H locs 0 0 Q (F0 m 2 ls []) := by
    intro n
    induction n with
    | zero =>
      intro i ls hm hf hl
      have hi : i < 48 := by omega
      refine lv_iload_n hx hb d_M_make_2 rfl (lv_at hl 3 rfl) ?_
      refine lv_bipush (v := 47) hx hb d_M_make_3 (by decide) ?_
      refine lv_icmp_ge (tgt := 23) hx hb d_M_make_5 rfl (fun h5 => ?_) (fun hq => absurd (nI_le (show 47 ≤ i by omega) (show i < 2 ^ 31 by omega)) hq)
      have J23 : ∀ (i : Nat) (ls : Array Slot), (i < 48) → (i = js_free u 10 47 0) → lv_has ls 8 [(0, .ref (ad 0)), (1, .int nav), (2, .int url), (3, .int (nI i))] → W p l e (jr 2) s m args below meth c H locs 0 0 Q (F0 m 23 ls []) := by
        intro i ls hi hf hl
        refine lv_aload_n hx hb d_M_make_23 rfl (lv_at hl 0 rfl) ?_
        refine jg_M hc hh 10 (by decide) rfl wf_M_41 d_M_make_24 ?_
        refine lv_iload_n hx hb d_M_make_27 rfl (lv_at hl 3 rfl) ?_
        refine lv_iconst (v := 1) hx hb d_M_make_28 (by decide) ?_
        refine jmi_zst hc hh 10 (by decide) (by decide) hi (by decide) d_M_make_29 (fun H locs hh => ?_)
        refine lv_aload_n hx hb d_M_make_30 rfl (lv_at hl 0 rfl) ?_
        refine jg_M hc hh 13 (by decide) rfl wf_M_50 d_M_make_31 ?_
        refine lv_iload_n hx hb d_M_make_34 rfl (lv_at hl 3 rfl) ?_
        refine lv_iconst (v := -1) hx hb d_M_make_35 (by decide) ?_
        refine jmi_ist hc hh 13 (by decide) (by decide) hi d_M_make_36 (fun H locs hh => ?_)
        refine lv_aload_n hx hb d_M_make_37 rfl (lv_at hl 0 rfl) ?_
        refine jg_M hc hh 14 (by decide) rfl wf_M_53 d_M_make_38 ?_
        refine lv_iload_n hx hb d_M_make_41 rfl (lv_at hl 3 rfl) ?_
        refine lv_iconst (v := -1) hx hb d_M_make_42 (by decide) ?_
        refine jmi_ist hc hh 14 (by decide) (by decide) hi d_M_make_43 (fun H locs hh => ?_)
        have J44 : ∀  (H : Heap) (locs : List Loc) (ls : Array Slot), jx_H D 22 ad (jm_cell ad cA (jm_mk0 u i)) A s.heap H locs → lv_has ls 8 [(0, .ref (ad 0)), (1, .int nav), (2, .int url), (3, .int (nI i))] → W p l e (jr 2) s m args below meth c H locs 0 0 Q (F0 m 44 ls []) := by
          intro  H locs ls hh hl
          refine lv_aload_n hx hb d_M_make_44 rfl (lv_at hl 0 rfl) ?_
          refine jg_M hc hh 16 (by decide) rfl wf_M_59 d_M_make_45 ?_
          refine lv_iload_n hx hb d_M_make_48 rfl (lv_at hl 1 rfl) ?_
          refine jm_ild hc hh 16 (by decide) (by decide) h_nav d_M_make_49 ?_
          refine lv_istore (i := 4) (lv' := [(4, .int ((jm_mk0 u i) 16 (ix nav))), (0, .ref (ad 0)), (1, .int nav), (2, .int url), (3, .int (nI i))]) hx hb d_M_make_50 hl (by decide) rfl (fun ls hl => ?_)
          refine lv_iload hx hb d_M_make_52 (lv_at hl 0 rfl) ?_
          refine lv_if_lt (tgt := 71) hx hb d_M_make_54 rfl (fun h54 => ?_) (fun h54 => ?_)
          ·
            refine lv_iconst (v := 0) hx hb d_M_make_71 (by decide) ?_
            have J72 : ∀  (ls : Array Slot), lv_has ls 8 [(0, .ref (ad 0)), (1, .int nav), (2, .int url), (3, .int (nI i)), (4, .int ((jm_mk0 u i) 16 (ix nav)))] → W p l e (jr 2) s m args below meth c H locs 0 0 Q (F0 m 72 ls [.int (jm_under (jm_mk0 u i) nav)]) := by
              intro  ls hl
              refine lv_istore (i := 5) (lv' := [(5, .int (jm_under (jm_mk0 u i) nav)), (0, .ref (ad 0)), (1, .int nav), (2, .int url), (3, .int (nI i)), (4, .int ((jm_mk0 u i) 16 (ix nav)))]) hx hb d_M_make_72 hl (by decide) rfl (fun ls hl => ?_)
              refine lv_aload_n hx hb d_M_make_74 rfl (lv_at hl 1 rfl) ?_
              refine lv_iload_n hx hb d_M_make_75 rfl (lv_at hl 3 rfl) ?_
              refine jpm_25 hc hh wf_M_93 d_M_make_76 (fun H locs hh => ?_)
              refine lv_aload_n hx hb d_M_make_79 rfl (lv_at hl 1 rfl) ?_
              refine jg_M hc hh 12 (by decide) rfl wf_M_47 d_M_make_80 ?_
              refine lv_iload_n hx hb d_M_make_83 rfl (lv_at hl 4 rfl) ?_
              refine lv_iload hx hb d_M_make_84 (lv_at hl 0 rfl) ?_
              refine jmi_zst hc hh 12 (by decide) (by decide) hi jm_under_z d_M_make_86 (fun H locs hh => ?_)
              have J87 : ∀  (H : Heap) (locs : List Loc) (ls : Array Slot), jx_H D 22 ad (jm_cell ad cA (jm_mkS (jm_mk0 u i) i url (jm_under (jm_mk0 u i) nav))) A s.heap H locs → lv_has ls 8 [(0, .ref (ad 0)), (1, .int nav), (2, .int url), (3, .int (nI i)), (4, .int ((jm_mk0 u i) 16 (ix nav))), (5, .int (jm_under (jm_mk0 u i) nav))] → W p l e (jr 2) s m args below meth c H locs 0 0 Q (F0 m 87 ls []) := by
                intro  H locs ls hh hl
                refine lv_iload_n hx hb d_M_make_87 rfl (lv_at hl 2 rfl) ?_
                refine lv_iconst (v := -1) hx hb d_M_make_88 (by decide) ?_
                refine lv_icmp_ne (tgt := 124) hx hb d_M_make_89 rfl (fun h89 => ?_) (fun h89 => ?_)
                ·
                  refine lv_iconst (v := 0) hx hb d_M_make_124 (by decide) ?_
                  refine lv_istore (i := 6) (lv' := [(6, .int 0), (0, .ref (ad 0)), (1, .int nav), (2, .int url), (3, .int (nI i)), (4, .int ((jm_mk0 u i) 16 (ix nav))), (5, .int (jm_under (jm_mk0 u i) nav))]) hx hb d_M_make_125 hl (by decide) rfl (fun ls hl => ?_)
                  have L127 : ∀ (n : Nat) (v : js_S) (k9 : Nat) (H : Heap) (locs : List Loc) (ls : Array Slot), k9 + n = 4 → (jm_Sh v) → (∃ j, j < 256 ∧ v 25 0 = nI j) → (jm_fd v n = jm_fd (jm_mkS (jm_mk0 u i) i url (jm_under (jm_mk0 u i) nav)) 4) → jx_H D 22 ad (jm_cell ad cA v) A s.heap H locs → lv_has ls 8 [(0, .ref (ad 0)), (1, .int nav), (2, .int url), (3, .int (nI i)), (5, .int (jm_under (jm_mk0 u i) nav)), (6, .int (nI k9))] → W p l e (jr 2) s m args below meth c H locs 0 0 Q (F0 m 127 ls []) := by
                    intro n
                    induction n with
                    | zero =>
                      intro v k9 H locs ls hm hSv hlv hfv hh hl
                      refine lv_iload hx hb d_M_make_127 (lv_at hl 5 rfl) ?_
                      refine lv_iconst (v := 4) hx hb d_M_make_129 (by decide) ?_
                      refine lv_icmp_ge (tgt := 196) hx hb d_M_make_130 rfl (fun h130 => ?_) (fun hq => absurd (nI_le (show 4 ≤ k9 by omega) (show k9 < 2 ^ 31 by omega)) hq)
                      have J196 : ∀ (v : js_S) (H : Heap) (locs : List Loc) (ls : Array Slot), (∃ j, j < 256 ∧ v 25 0 = nI j) → (jm_make u nav url = jm_mk1 v i (jm_under (jm_mk0 u i) nav)) → jx_H D 22 ad (jm_cell ad cA v) A s.heap H locs → lv_has ls 8 [(0, .ref (ad 0)), (3, .int (nI i)), (5, .int (jm_under (jm_mk0 u i) nav))] → W p l e (jr 2) s m args below meth c H locs 0 0 Q (F0 m 196 ls []) := by
                        intro v H locs ls hlv hmk hh hl
                        refine lv_aload_n hx hb d_M_make_196 rfl (lv_at hl 0 rfl) ?_
                        refine jg_M hc hh 0 (by decide) rfl wf_M_7 d_M_make_197 ?_
                        refine lv_aload_n hx hb d_M_make_200 rfl (lv_at hl 0 rfl) ?_
                        refine jg_M hc hh 25 (by decide) rfl wf_M_93 d_M_make_201 ?_
                        refine lv_bipush (v := 8) hx hb d_M_make_204 (by decide) ?_
                        refine lv_idiv hx hb d_M_make_206 (by decide) ?_
                        refine jm_ild hc hh 0 (by decide) (by decide) (js_pgn hlv) d_M_make_207 ?_
                        refine lv_if_eq (tgt := 230) hx hb d_M_make_208 rfl (fun h208 => ?_) (fun h208 => ?_)
                        ·
                          refine lv_aload_n hx hb d_M_make_230 rfl (lv_at hl 0 rfl) ?_
                          refine jg_M hc hh 12 (by decide) rfl wf_M_47 d_M_make_231 ?_
                          refine lv_iload_n hx hb d_M_make_234 rfl (lv_at hl 1 rfl) ?_
                          refine lv_iload hx hb d_M_make_235 (lv_at hl 2 rfl) ?_
                          refine lv_if_ne (tgt := 255) hx hb d_M_make_237 rfl (fun h237 => ?_) (fun h237 => ?_)
                          ·
                            refine lv_iconst (v := 1) hx hb d_M_make_255 (by decide) ?_
                            refine lv_goto (tgt := 260) hx hb d_M_make_256 rfl ?_
                            have J260 : ∀  (ls : Array Slot), lv_has ls 8 [(0, .ref (ad 0)), (3, .int (nI i))] → W p l e (jr 2) s m args below meth c H locs 0 0 Q (F0 m 260 ls [.int (jm_mb v (jm_under (jm_mk0 u i) nav)), .int (nI i), .ref (ad 13)]) := by
                              intro  ls hl
                              refine jmi_zst hc hh 12 (by decide) (by decide) hi jm_mb_z d_M_make_260 (fun H locs hh => ?_)
                              refine lv_aload_n hx hb d_M_make_261 rfl (lv_at hl 0 rfl) ?_
                              refine jg_M hc hh 11 (by decide) rfl wf_M_44 d_M_make_262 ?_
                              refine lv_iload_n hx hb d_M_make_265 rfl (lv_at hl 1 rfl) ?_
                              refine lv_aload_n hx hb d_M_make_266 rfl (lv_at hl 0 rfl) ?_
                              refine jg_M hc hh 12 (by decide) rfl wf_M_47 d_M_make_267 ?_
                              refine lv_iload_n hx hb d_M_make_270 rfl (lv_at hl 1 rfl) ?_
                              refine jmi_zld hc hh 12 (by decide) (by decide) hi d_M_make_271 ?_
                              refine lv_if_eq (tgt := 282) hx hb d_M_make_272 rfl (fun h272 => ?_) (fun h272 => ?_)
                              ·
                                refine lv_aload_n hx hb d_M_make_282 rfl (lv_at hl 0 rfl) ?_
                                refine jg_M hc hh 25 (by decide) rfl wf_M_93 d_M_make_283 ?_
                                refine lv_bipush (v := 64) hx hb d_M_make_286 (by decide) ?_
                                refine lv_idiv hx hb d_M_make_288 (by decide) ?_
                                refine jmi_ist hc hh 11 (by decide) (by decide) hi d_M_make_289 (fun H locs hh => ?_)
                                refine lv_iload_n hx hb d_M_make_290 rfl (lv_at hl 1 rfl) ?_
                                exact jx_iret (r := nI i) hc hh hQ hlk hr rfl rfl ⟨by rw [← hf], by rw [hmk]; simp [jm_mk1, jm_mkC, jm_opq, h208, h272]⟩ d_M_make_291
                              refine lv_aload_n hx hb d_M_make_275 rfl (lv_at hl 0 rfl) ?_
                              refine jx_callV [] [.int (nI i), .ref (ad 12)] hc hh (m_freshOrigin l D aK ad cA (js_up v 12 i (jm_mb v (jm_under (jm_mk0 u i) nav)))) wy_M_96 ⟨by decide, rfl, rfl⟩ (by decide) rfl hl.1 rfl (by simp [vc_int, vc_ref, vc_long, jv_cat]) ⟨Nat.zero_le _, Nat.zero_le _⟩ d_M_make_276 (fun r u9 H locs hp hh _ _ => ?_)
                              rw [hp.2] at hh
                              refine W.eq (g2 := F0 m 279 ls [.int (3 + ((js_up v 12 i (jm_mb v (jm_under (jm_mk0 u i) nav))) 22 0 + 1)), .int (nI i), .ref (ad 12)]) (by rw [hp.1]; rfl) ?_
                              refine lv_goto (tgt := 289) hx hb d_M_make_279 rfl ?_
                              refine jmi_ist hc hh 11 (by decide) (by decide) hi d_M_make_289 (fun H locs hh => ?_)
                              refine lv_iload_n hx hb d_M_make_290 rfl (lv_at hl 1 rfl) ?_
                              exact jx_iret (r := nI i) hc hh hQ hlk hr rfl rfl ⟨by rw [← hf], by rw [hmk]; simp [jm_mk1, jm_mkC, jm_opq, h208, h272]⟩ d_M_make_291
                            have e1 : (jm_mb v (jm_under (jm_mk0 u i) nav)) = 1 := by first | (simp [jm_mb, h208, h237]; done) | (simp [jm_mb, eq_true h208, h237]; done)
                            refine W.eq (g2 := F0 m 260 ls [.int (jm_mb v (jm_under (jm_mk0 u i) nav)), .int (nI i), .ref (ad 13)]) (by first | (rw [e1]; done) | (rw [e1]; rfl)) ?_
                            refine J260 _ ?_
                            exact lv_sub hl [0, 1] rfl
                          refine lv_aload_n hx hb d_M_make_240 rfl (lv_at hl 0 rfl) ?_
                          refine jg_M hc hh 3 (by decide) rfl wf_M_19 d_M_make_241 ?_
                          refine lv_aload_n hx hb d_M_make_244 rfl (lv_at hl 0 rfl) ?_
                          refine jg_M hc hh 25 (by decide) rfl wf_M_93 d_M_make_245 ?_
                          refine lv_bipush (v := 8) hx hb d_M_make_248 (by decide) ?_
                          refine lv_idiv hx hb d_M_make_250 (by decide) ?_
                          refine jm_zld hc hh 3 (by decide) (by decide) (js_pgn hlv) d_M_make_251 ?_
                          refine lv_if_eq (tgt := 259) hx hb d_M_make_252 rfl (fun h252 => ?_) (fun h252 => ?_)
                          ·
                            refine lv_iconst (v := 0) hx hb d_M_make_259 (by decide) ?_
                            have J260 : ∀  (ls : Array Slot), lv_has ls 8 [(0, .ref (ad 0)), (3, .int (nI i))] → W p l e (jr 2) s m args below meth c H locs 0 0 Q (F0 m 260 ls [.int (jm_mb v (jm_under (jm_mk0 u i) nav)), .int (nI i), .ref (ad 13)]) := by
                              intro  ls hl
                              refine jmi_zst hc hh 12 (by decide) (by decide) hi jm_mb_z d_M_make_260 (fun H locs hh => ?_)
                              refine lv_aload_n hx hb d_M_make_261 rfl (lv_at hl 0 rfl) ?_
                              refine jg_M hc hh 11 (by decide) rfl wf_M_44 d_M_make_262 ?_
                              refine lv_iload_n hx hb d_M_make_265 rfl (lv_at hl 1 rfl) ?_
                              refine lv_aload_n hx hb d_M_make_266 rfl (lv_at hl 0 rfl) ?_
                              refine jg_M hc hh 12 (by decide) rfl wf_M_47 d_M_make_267 ?_
                              refine lv_iload_n hx hb d_M_make_270 rfl (lv_at hl 1 rfl) ?_
                              refine jmi_zld hc hh 12 (by decide) (by decide) hi d_M_make_271 ?_
                              refine lv_if_eq (tgt := 282) hx hb d_M_make_272 rfl (fun h272 => ?_) (fun h272 => ?_)
                              ·
                                refine lv_aload_n hx hb d_M_make_282 rfl (lv_at hl 0 rfl) ?_
                                refine jg_M hc hh 25 (by decide) rfl wf_M_93 d_M_make_283 ?_
                                refine lv_bipush (v := 64) hx hb d_M_make_286 (by decide) ?_
                                refine lv_idiv hx hb d_M_make_288 (by decide) ?_
                                refine jmi_ist hc hh 11 (by decide) (by decide) hi d_M_make_289 (fun H locs hh => ?_)
                                refine lv_iload_n hx hb d_M_make_290 rfl (lv_at hl 1 rfl) ?_
                                exact jx_iret (r := nI i) hc hh hQ hlk hr rfl rfl ⟨by rw [← hf], by rw [hmk]; simp [jm_mk1, jm_mkC, jm_opq, h208, h272]⟩ d_M_make_291
                              refine lv_aload_n hx hb d_M_make_275 rfl (lv_at hl 0 rfl) ?_
                              refine jx_callV [] [.int (nI i), .ref (ad 12)] hc hh (m_freshOrigin l D aK ad cA (js_up v 12 i (jm_mb v (jm_under (jm_mk0 u i) nav)))) wy_M_96 ⟨by decide, rfl, rfl⟩ (by decide) rfl hl.1 rfl (by simp [vc_int, vc_ref, vc_long, jv_cat]) ⟨Nat.zero_le _, Nat.zero_le _⟩ d_M_make_276 (fun r u9 H locs hp hh _ _ => ?_)
                              rw [hp.2] at hh
                              refine W.eq (g2 := F0 m 279 ls [.int (3 + ((js_up v 12 i (jm_mb v (jm_under (jm_mk0 u i) nav))) 22 0 + 1)), .int (nI i), .ref (ad 12)]) (by rw [hp.1]; rfl) ?_
                              refine lv_goto (tgt := 289) hx hb d_M_make_279 rfl ?_
                              refine jmi_ist hc hh 11 (by decide) (by decide) hi d_M_make_289 (fun H locs hh => ?_)
                              refine lv_iload_n hx hb d_M_make_290 rfl (lv_at hl 1 rfl) ?_
                              exact jx_iret (r := nI i) hc hh hQ hlk hr rfl rfl ⟨by rw [← hf], by rw [hmk]; simp [jm_mk1, jm_mkC, jm_opq, h208, h272]⟩ d_M_make_291
                            have e2 : (jm_mb v (jm_under (jm_mk0 u i) nav)) = 0 := by first | (simp [jm_mb, h208, h237, h252]; done) | (simp [jm_mb, eq_true h208, eq_true h237, eq_true h252]; done)
                            refine W.eq (g2 := F0 m 260 ls [.int (jm_mb v (jm_under (jm_mk0 u i) nav)), .int (nI i), .ref (ad 13)]) (by first | (rw [e2]; done) | (rw [e2]; rfl)) ?_
                            refine J260 _ ?_
                            exact lv_sub hl [0, 1] rfl
                          refine lv_iconst (v := 1) hx hb d_M_make_255 (by decide) ?_
                          refine lv_goto (tgt := 260) hx hb d_M_make_256 rfl ?_
                          have J260 : ∀  (ls : Array Slot), lv_has ls 8 [(0, .ref (ad 0)), (3, .int (nI i))] → W p l e (jr 2) s m args below meth c H locs 0 0 Q (F0 m 260 ls [.int (jm_mb v (jm_under (jm_mk0 u i) nav)), .int (nI i), .ref (ad 13)]) := by
                            intro  ls hl
                            refine jmi_zst hc hh 12 (by decide) (by decide) hi jm_mb_z d_M_make_260 (fun H locs hh => ?_)
                            refine lv_aload_n hx hb d_M_make_261 rfl (lv_at hl 0 rfl) ?_
                            refine jg_M hc hh 11 (by decide) rfl wf_M_44 d_M_make_262 ?_
                            refine lv_iload_n hx hb d_M_make_265 rfl (lv_at hl 1 rfl) ?_
                            refine lv_aload_n hx hb d_M_make_266 rfl (lv_at hl 0 rfl) ?_
                            refine jg_M hc hh 12 (by decide) rfl wf_M_47 d_M_make_267 ?_
                            refine lv_iload_n hx hb d_M_make_270 rfl (lv_at hl 1 rfl) ?_
                            refine jmi_zld hc hh 12 (by decide) (by decide) hi d_M_make_271 ?_
                            refine lv_if_eq (tgt := 282) hx hb d_M_make_272 rfl (fun h272 => ?_) (fun h272 => ?_)
                            ·
                              refine lv_aload_n hx hb d_M_make_282 rfl (lv_at hl 0 rfl) ?_
                              refine jg_M hc hh 25 (by decide) rfl wf_M_93 d_M_make_283 ?_
                              refine lv_bipush (v := 64) hx hb d_M_make_286 (by decide) ?_
                              refine lv_idiv hx hb d_M_make_288 (by decide) ?_
                              refine jmi_ist hc hh 11 (by decide) (by decide) hi d_M_make_289 (fun H locs hh => ?_)
                              refine lv_iload_n hx hb d_M_make_290 rfl (lv_at hl 1 rfl) ?_
                              exact jx_iret (r := nI i) hc hh hQ hlk hr rfl rfl ⟨by rw [← hf], by rw [hmk]; simp [jm_mk1, jm_mkC, jm_opq, h208, h272]⟩ d_M_make_291
                            refine lv_aload_n hx hb d_M_make_275 rfl (lv_at hl 0 rfl) ?_
                            refine jx_callV [] [.int (nI i), .ref (ad 12)] hc hh (m_freshOrigin l D aK ad cA (js_up v 12 i (jm_mb v (jm_under (jm_mk0 u i) nav)))) wy_M_96 ⟨by decide, rfl, rfl⟩ (by decide) rfl hl.1 rfl (by simp [vc_int, vc_ref, vc_long, jv_cat]) ⟨Nat.zero_le _, Nat.zero_le _⟩ d_M_make_276 (fun r u9 H locs hp hh _ _ => ?_)
                            rw [hp.2] at hh
                            refine W.eq (g2 := F0 m 279 ls [.int (3 + ((js_up v 12 i (jm_mb v (jm_under (jm_mk0 u i) nav))) 22 0 + 1)), .int (nI i), .ref (ad 12)]) (by rw [hp.1]; rfl) ?_
                            refine lv_goto (tgt := 289) hx hb d_M_make_279 rfl ?_
                            refine jmi_ist hc hh 11 (by decide) (by decide) hi d_M_make_289 (fun H locs hh => ?_)
                            refine lv_iload_n hx hb d_M_make_290 rfl (lv_at hl 1 rfl) ?_
                            exact jx_iret (r := nI i) hc hh hQ hlk hr rfl rfl ⟨by rw [← hf], by rw [hmk]; simp [jm_mk1, jm_mkC, jm_opq, h208, h272]⟩ d_M_make_291
                          have e3 : (jm_mb v (jm_under (jm_mk0 u i) nav)) = 1 := by first | (simp [jm_mb, h208, h237, h252]; done) | (simp [jm_mb, eq_true h208, eq_true h237, h252]; done)
                          refine W.eq (g2 := F0 m 260 ls [.int (jm_mb v (jm_under (jm_mk0 u i) nav)), .int (nI i), .ref (ad 13)]) (by first | (rw [e3]; done) | (rw [e3]; rfl)) ?_
                          refine J260 _ ?_
                          exact lv_sub hl [0, 1] rfl
                        refine lv_aload_n hx hb d_M_make_211 rfl (lv_at hl 0 rfl) ?_
                        refine jg_M hc hh 12 (by decide) rfl wf_M_47 d_M_make_212 ?_
                        refine lv_iload_n hx hb d_M_make_215 rfl (lv_at hl 1 rfl) ?_
                        refine lv_iconst (v := 0) hx hb d_M_make_216 (by decide) ?_
                        refine jmi_zst hc hh 12 (by decide) (by decide) hi (by decide) d_M_make_217 (fun H locs hh => ?_)
                        refine lv_aload_n hx hb d_M_make_218 rfl (lv_at hl 0 rfl) ?_
                        refine jg_M hc hh 11 (by decide) rfl wf_M_44 d_M_make_219 ?_
                        refine lv_iload_n hx hb d_M_make_222 rfl (lv_at hl 1 rfl) ?_
                        refine lv_aload_n hx hb d_M_make_223 rfl (lv_at hl 0 rfl) ?_
                        refine jx_callV [] [.int (nI i), .ref (ad 12)] hc hh (m_freshOrigin l D aK ad cA (js_up v 12 i 0)) wy_M_96 ⟨by decide, rfl, rfl⟩ (by decide) rfl hl.1 rfl (by simp [vc_int, vc_ref, vc_long, jv_cat]) ⟨Nat.zero_le _, Nat.zero_le _⟩ d_M_make_224 (fun r u9 H locs hp hh _ _ => ?_)
                        rw [hp.2] at hh
                        refine W.eq (g2 := F0 m 227 ls [.int (3 + ((js_up v 12 i 0) 22 0 + 1)), .int (nI i), .ref (ad 12)]) (by rw [hp.1]; rfl) ?_
                        refine jmi_ist hc hh 11 (by decide) (by decide) hi d_M_make_227 (fun H locs hh => ?_)
                        refine lv_iload_n hx hb d_M_make_228 rfl (lv_at hl 1 rfl) ?_
                        exact jx_iret (r := nI i) hc hh hQ hlk hr rfl rfl ⟨by rw [← hf], by rw [hmk]; simp [jm_mk1, jm_opq, h208]⟩ d_M_make_229
                      refine J196 v _ _ _ hlv (by rw [jm_make_i hf]; unfold jm_mkB; rw [if_neg h89, ← hfv]; first | rfl | simp [jm_fd, h146]) ?_ ?_
                      ·
                        exact hh
                      exact lv_sub hl [0, 3, 4] rfl
                    | succ n ih =>
                      intro v k9 H locs ls hm hSv hlv hfv hh hl
                      refine lv_iload hx hb d_M_make_127 (lv_at hl 5 rfl) ?_
                      refine lv_iconst (v := 4) hx hb d_M_make_129 (by decide) ?_
                      refine lv_icmp_ge (tgt := 196) hx hb d_M_make_130 rfl (fun hq => absurd hq (nI_ge (show k9 < 4 by omega) (by decide))) (fun h130 => ?_)
                      refine lv_aload_n hx hb d_M_make_133 rfl (lv_at hl 0 rfl) ?_
                      refine jg_M hc hh 0 (by decide) rfl wf_M_7 d_M_make_134 ?_
                      refine lv_aload_n hx hb d_M_make_137 rfl (lv_at hl 0 rfl) ?_
                      refine jg_M hc hh 25 (by decide) rfl wf_M_93 d_M_make_138 ?_
                      refine lv_bipush (v := 8) hx hb d_M_make_141 (by decide) ?_
                      refine lv_idiv hx hb d_M_make_143 (by decide) ?_
                      refine jm_ild hc hh 0 (by decide) (by decide) (js_pgn hlv) d_M_make_144 ?_
                      refine lv_iconst (v := 1) hx hb d_M_make_145 (by decide) ?_
                      refine lv_icmp_ne (tgt := 196) hx hb d_M_make_146 rfl (fun h146 => ?_) (fun h146 => ?_)
                      ·
                        have J196 : ∀ (v : js_S) (H : Heap) (locs : List Loc) (ls : Array Slot), (∃ j, j < 256 ∧ v 25 0 = nI j) → (jm_make u nav url = jm_mk1 v i (jm_under (jm_mk0 u i) nav)) → jx_H D 22 ad (jm_cell ad cA v) A s.heap H locs → lv_has ls 8 [(0, .ref (ad 0)), (3, .int (nI i)), (5, .int (jm_under (jm_mk0 u i) nav))] → W p l e (jr 2) s m args below meth c H locs 0 0 Q (F0 m 196 ls []) := by
                          intro v H locs ls hlv hmk hh hl
                          refine lv_aload_n hx hb d_M_make_196 rfl (lv_at hl 0 rfl) ?_
                          refine jg_M hc hh 0 (by decide) rfl wf_M_7 d_M_make_197 ?_
                          refine lv_aload_n hx hb d_M_make_200 rfl (lv_at hl 0 rfl) ?_
                          refine jg_M hc hh 25 (by decide) rfl wf_M_93 d_M_make_201 ?_
                          refine lv_bipush (v := 8) hx hb d_M_make_204 (by decide) ?_
                          refine lv_idiv hx hb d_M_make_206 (by decide) ?_
                          refine jm_ild hc hh 0 (by decide) (by decide) (js_pgn hlv) d_M_make_207 ?_
                          refine lv_if_eq (tgt := 230) hx hb d_M_make_208 rfl (fun h208 => ?_) (fun h208 => ?_)
                          ·
                            refine lv_aload_n hx hb d_M_make_230 rfl (lv_at hl 0 rfl) ?_
                            refine jg_M hc hh 12 (by decide) rfl wf_M_47 d_M_make_231 ?_
                            refine lv_iload_n hx hb d_M_make_234 rfl (lv_at hl 1 rfl) ?_
                            refine lv_iload hx hb d_M_make_235 (lv_at hl 2 rfl) ?_
                            refine lv_if_ne (tgt := 255) hx hb d_M_make_237 rfl (fun h237 => ?_) (fun h237 => ?_)
                            ·
                              refine lv_iconst (v := 1) hx hb d_M_make_255 (by decide) ?_
                              refine lv_goto (tgt := 260) hx hb d_M_make_256 rfl ?_
                              have J260 : ∀  (ls : Array Slot), lv_has ls 8 [(0, .ref (ad 0)), (3, .int (nI i))] → W p l e (jr 2) s m args below meth c H locs 0 0 Q (F0 m 260 ls [.int (jm_mb v (jm_under (jm_mk0 u i) nav)), .int (nI i), .ref (ad 13)]) := by
                                intro  ls hl
                                refine jmi_zst hc hh 12 (by decide) (by decide) hi jm_mb_z d_M_make_260 (fun H locs hh => ?_)
                                refine lv_aload_n hx hb d_M_make_261 rfl (lv_at hl 0 rfl) ?_
                                refine jg_M hc hh 11 (by decide) rfl wf_M_44 d_M_make_262 ?_
                                refine lv_iload_n hx hb d_M_make_265 rfl (lv_at hl 1 rfl) ?_
                                refine lv_aload_n hx hb d_M_make_266 rfl (lv_at hl 0 rfl) ?_
                                refine jg_M hc hh 12 (by decide) rfl wf_M_47 d_M_make_267 ?_
                                refine lv_iload_n hx hb d_M_make_270 rfl (lv_at hl 1 rfl) ?_
                                refine jmi_zld hc hh 12 (by decide) (by decide) hi d_M_make_271 ?_
                                refine lv_if_eq (tgt := 282) hx hb d_M_make_272 rfl (fun h272 => ?_) (fun h272 => ?_)
                                ·
                                  refine lv_aload_n hx hb d_M_make_282 rfl (lv_at hl 0 rfl) ?_
                                  refine jg_M hc hh 25 (by decide) rfl wf_M_93 d_M_make_283 ?_
                                  refine lv_bipush (v := 64) hx hb d_M_make_286 (by decide) ?_
                                  refine lv_idiv hx hb d_M_make_288 (by decide) ?_
                                  refine jmi_ist hc hh 11 (by decide) (by decide) hi d_M_make_289 (fun H locs hh => ?_)
                                  refine lv_iload_n hx hb d_M_make_290 rfl (lv_at hl 1 rfl) ?_
                                  exact jx_iret (r := nI i) hc hh hQ hlk hr rfl rfl ⟨by rw [← hf], by rw [hmk]; simp [jm_mk1, jm_mkC, jm_opq, h208, h272]⟩ d_M_make_291
                                refine lv_aload_n hx hb d_M_make_275 rfl (lv_at hl 0 rfl) ?_
                                refine jx_callV [] [.int (nI i), .ref (ad 12)] hc hh (m_freshOrigin l D aK ad cA (js_up v 12 i (jm_mb v (jm_under (jm_mk0 u i) nav)))) wy_M_96 ⟨by decide, rfl, rfl⟩ (by decide) rfl hl.1 rfl (by simp [vc_int, vc_ref, vc_long, jv_cat]) ⟨Nat.zero_le _, Nat.zero_le _⟩ d_M_make_276 (fun r u9 H locs hp hh _ _ => ?_)
                                rw [hp.2] at hh
                                refine W.eq (g2 := F0 m 279 ls [.int (3 + ((js_up v 12 i (jm_mb v (jm_under (jm_mk0 u i) nav))) 22 0 + 1)), .int (nI i), .ref (ad 12)]) (by rw [hp.1]; rfl) ?_
                                refine lv_goto (tgt := 289) hx hb d_M_make_279 rfl ?_
                                refine jmi_ist hc hh 11 (by decide) (by decide) hi d_M_make_289 (fun H locs hh => ?_)
                                refine lv_iload_n hx hb d_M_make_290 rfl (lv_at hl 1 rfl) ?_
                                exact jx_iret (r := nI i) hc hh hQ hlk hr rfl rfl ⟨by rw [← hf], by rw [hmk]; simp [jm_mk1, jm_mkC, jm_opq, h208, h272]⟩ d_M_make_291
                              have e4 : (jm_mb v (jm_under (jm_mk0 u i) nav)) = 1 := by first | (simp [jm_mb, h208, h237]; done) | (simp [jm_mb, eq_true h208, h237]; done)
                              refine W.eq (g2 := F0 m 260 ls [.int (jm_mb v (jm_under (jm_mk0 u i) nav)), .int (nI i), .ref (ad 13)]) (by first | (rw [e4]; done) | (rw [e4]; rfl)) ?_
                              refine J260 _ ?_
                              exact lv_sub hl [0, 1] rfl
                            refine lv_aload_n hx hb d_M_make_240 rfl (lv_at hl 0 rfl) ?_
                            refine jg_M hc hh 3 (by decide) rfl wf_M_19 d_M_make_241 ?_
                            refine lv_aload_n hx hb d_M_make_244 rfl (lv_at hl 0 rfl) ?_
                            refine jg_M hc hh 25 (by decide) rfl wf_M_93 d_M_make_245 ?_
                            refine lv_bipush (v := 8) hx hb d_M_make_248 (by decide) ?_
                            refine lv_idiv hx hb d_M_make_250 (by decide) ?_
                            refine jm_zld hc hh 3 (by decide) (by decide) (js_pgn hlv) d_M_make_251 ?_
                            refine lv_if_eq (tgt := 259) hx hb d_M_make_252 rfl (fun h252 => ?_) (fun h252 => ?_)
                            ·
                              refine lv_iconst (v := 0) hx hb d_M_make_259 (by decide) ?_
                              have J260 : ∀  (ls : Array Slot), lv_has ls 8 [(0, .ref (ad 0)), (3, .int (nI i))] → W p l e (jr 2) s m args below meth c H locs 0 0 Q (F0 m 260 ls [.int (jm_mb v (jm_under (jm_mk0 u i) nav)), .int (nI i), .ref (ad 13)]) := by
                                intro  ls hl
                                refine jmi_zst hc hh 12 (by decide) (by decide) hi jm_mb_z d_M_make_260 (fun H locs hh => ?_)
                                refine lv_aload_n hx hb d_M_make_261 rfl (lv_at hl 0 rfl) ?_
                                refine jg_M hc hh 11 (by decide) rfl wf_M_44 d_M_make_262 ?_
                                refine lv_iload_n hx hb d_M_make_265 rfl (lv_at hl 1 rfl) ?_
                                refine lv_aload_n hx hb d_M_make_266 rfl (lv_at hl 0 rfl) ?_
                                refine jg_M hc hh 12 (by decide) rfl wf_M_47 d_M_make_267 ?_
                                refine lv_iload_n hx hb d_M_make_270 rfl (lv_at hl 1 rfl) ?_
                                refine jmi_zld hc hh 12 (by decide) (by decide) hi d_M_make_271 ?_
                                refine lv_if_eq (tgt := 282) hx hb d_M_make_272 rfl (fun h272 => ?_) (fun h272 => ?_)
                                ·
                                  refine lv_aload_n hx hb d_M_make_282 rfl (lv_at hl 0 rfl) ?_
                                  refine jg_M hc hh 25 (by decide) rfl wf_M_93 d_M_make_283 ?_
                                  refine lv_bipush (v := 64) hx hb d_M_make_286 (by decide) ?_
                                  refine lv_idiv hx hb d_M_make_288 (by decide) ?_
                                  refine jmi_ist hc hh 11 (by decide) (by decide) hi d_M_make_289 (fun H locs hh => ?_)
                                  refine lv_iload_n hx hb d_M_make_290 rfl (lv_at hl 1 rfl) ?_
                                  exact jx_iret (r := nI i) hc hh hQ hlk hr rfl rfl ⟨by rw [← hf], by rw [hmk]; simp [jm_mk1, jm_mkC, jm_opq, h208, h272]⟩ d_M_make_291
                                refine lv_aload_n hx hb d_M_make_275 rfl (lv_at hl 0 rfl) ?_
                                refine jx_callV [] [.int (nI i), .ref (ad 12)] hc hh (m_freshOrigin l D aK ad cA (js_up v 12 i (jm_mb v (jm_under (jm_mk0 u i) nav)))) wy_M_96 ⟨by decide, rfl, rfl⟩ (by decide) rfl hl.1 rfl (by simp [vc_int, vc_ref, vc_long, jv_cat]) ⟨Nat.zero_le _, Nat.zero_le _⟩ d_M_make_276 (fun r u9 H locs hp hh _ _ => ?_)
                                rw [hp.2] at hh
                                refine W.eq (g2 := F0 m 279 ls [.int (3 + ((js_up v 12 i (jm_mb v (jm_under (jm_mk0 u i) nav))) 22 0 + 1)), .int (nI i), .ref (ad 12)]) (by rw [hp.1]; rfl) ?_
                                refine lv_goto (tgt := 289) hx hb d_M_make_279 rfl ?_
                                refine jmi_ist hc hh 11 (by decide) (by decide) hi d_M_make_289 (fun H locs hh => ?_)
                                refine lv_iload_n hx hb d_M_make_290 rfl (lv_at hl 1 rfl) ?_
                                exact jx_iret (r := nI i) hc hh hQ hlk hr rfl rfl ⟨by rw [← hf], by rw [hmk]; simp [jm_mk1, jm_mkC, jm_opq, h208, h272]⟩ d_M_make_291
                              have e5 : (jm_mb v (jm_under (jm_mk0 u i) nav)) = 0 := by first | (simp [jm_mb, h208, h237, h252]; done) | (simp [jm_mb, eq_true h208, eq_true h237, eq_true h252]; done)
                              refine W.eq (g2 := F0 m 260 ls [.int (jm_mb v (jm_under (jm_mk0 u i) nav)), .int (nI i), .ref (ad 13)]) (by first | (rw [e5]; done) | (rw [e5]; rfl)) ?_
                              refine J260 _ ?_
                              exact lv_sub hl [0, 1] rfl
                            refine lv_iconst (v := 1) hx hb d_M_make_255 (by decide) ?_
                            refine lv_goto (tgt := 260) hx hb d_M_make_256 rfl ?_
                            have J260 : ∀  (ls : Array Slot), lv_has ls 8 [(0, .ref (ad 0)), (3, .int (nI i))] → W p l e (jr 2) s m args below meth c H locs 0 0 Q (F0 m 260 ls [.int (jm_mb v (jm_under (jm_mk0 u i) nav)), .int (nI i), .ref (ad 13)]) := by
                              intro  ls hl
                              refine jmi_zst hc hh 12 (by decide) (by decide) hi jm_mb_z d_M_make_260 (fun H locs hh => ?_)
                              refine lv_aload_n hx hb d_M_make_261 rfl (lv_at hl 0 rfl) ?_
                              refine jg_M hc hh 11 (by decide) rfl wf_M_44 d_M_make_262 ?_
                              refine lv_iload_n hx hb d_M_make_265 rfl (lv_at hl 1 rfl) ?_
                              refine lv_aload_n hx hb d_M_make_266 rfl (lv_at hl 0 rfl) ?_
                              refine jg_M hc hh 12 (by decide) rfl wf_M_47 d_M_make_267 ?_
                              refine lv_iload_n hx hb d_M_make_270 rfl (lv_at hl 1 rfl) ?_
                              refine jmi_zld hc hh 12 (by decide) (by decide) hi d_M_make_271 ?_
                              refine lv_if_eq (tgt := 282) hx hb d_M_make_272 rfl (fun h272 => ?_) (fun h272 => ?_)
                              ·
                                refine lv_aload_n hx hb d_M_make_282 rfl (lv_at hl 0 rfl) ?_
                                refine jg_M hc hh 25 (by decide) rfl wf_M_93 d_M_make_283 ?_
                                refine lv_bipush (v := 64) hx hb d_M_make_286 (by decide) ?_
                                refine lv_idiv hx hb d_M_make_288 (by decide) ?_
                                refine jmi_ist hc hh 11 (by decide) (by decide) hi d_M_make_289 (fun H locs hh => ?_)
                                refine lv_iload_n hx hb d_M_make_290 rfl (lv_at hl 1 rfl) ?_
                                exact jx_iret (r := nI i) hc hh hQ hlk hr rfl rfl ⟨by rw [← hf], by rw [hmk]; simp [jm_mk1, jm_mkC, jm_opq, h208, h272]⟩ d_M_make_291
                              refine lv_aload_n hx hb d_M_make_275 rfl (lv_at hl 0 rfl) ?_
                              refine jx_callV [] [.int (nI i), .ref (ad 12)] hc hh (m_freshOrigin l D aK ad cA (js_up v 12 i (jm_mb v (jm_under (jm_mk0 u i) nav)))) wy_M_96 ⟨by decide, rfl, rfl⟩ (by decide) rfl hl.1 rfl (by simp [vc_int, vc_ref, vc_long, jv_cat]) ⟨Nat.zero_le _, Nat.zero_le _⟩ d_M_make_276 (fun r u9 H locs hp hh _ _ => ?_)
                              rw [hp.2] at hh
                              refine W.eq (g2 := F0 m 279 ls [.int (3 + ((js_up v 12 i (jm_mb v (jm_under (jm_mk0 u i) nav))) 22 0 + 1)), .int (nI i), .ref (ad 12)]) (by rw [hp.1]; rfl) ?_
                              refine lv_goto (tgt := 289) hx hb d_M_make_279 rfl ?_
                              refine jmi_ist hc hh 11 (by decide) (by decide) hi d_M_make_289 (fun H locs hh => ?_)
                              refine lv_iload_n hx hb d_M_make_290 rfl (lv_at hl 1 rfl) ?_
                              exact jx_iret (r := nI i) hc hh hQ hlk hr rfl rfl ⟨by rw [← hf], by rw [hmk]; simp [jm_mk1, jm_mkC, jm_opq, h208, h272]⟩ d_M_make_291
                            have e6 : (jm_mb v (jm_under (jm_mk0 u i) nav)) = 1 := by first | (simp [jm_mb, h208, h237, h252]; done) | (simp [jm_mb, eq_true h208, eq_true h237, h252]; done)
                            refine W.eq (g2 := F0 m 260 ls [.int (jm_mb v (jm_under (jm_mk0 u i) nav)), .int (nI i), .ref (ad 13)]) (by first | (rw [e6]; done) | (rw [e6]; rfl)) ?_
                            refine J260 _ ?_
                            exact lv_sub hl [0, 1] rfl
                          refine lv_aload_n hx hb d_M_make_211 rfl (lv_at hl 0 rfl) ?_
                          refine jg_M hc hh 12 (by decide) rfl wf_M_47 d_M_make_212 ?_
                          refine lv_iload_n hx hb d_M_make_215 rfl (lv_at hl 1 rfl) ?_
                          refine lv_iconst (v := 0) hx hb d_M_make_216 (by decide) ?_
                          refine jmi_zst hc hh 12 (by decide) (by decide) hi (by decide) d_M_make_217 (fun H locs hh => ?_)
                          refine lv_aload_n hx hb d_M_make_218 rfl (lv_at hl 0 rfl) ?_
                          refine jg_M hc hh 11 (by decide) rfl wf_M_44 d_M_make_219 ?_
                          refine lv_iload_n hx hb d_M_make_222 rfl (lv_at hl 1 rfl) ?_
                          refine lv_aload_n hx hb d_M_make_223 rfl (lv_at hl 0 rfl) ?_
                          refine jx_callV [] [.int (nI i), .ref (ad 12)] hc hh (m_freshOrigin l D aK ad cA (js_up v 12 i 0)) wy_M_96 ⟨by decide, rfl, rfl⟩ (by decide) rfl hl.1 rfl (by simp [vc_int, vc_ref, vc_long, jv_cat]) ⟨Nat.zero_le _, Nat.zero_le _⟩ d_M_make_224 (fun r u9 H locs hp hh _ _ => ?_)
                          rw [hp.2] at hh
                          refine W.eq (g2 := F0 m 227 ls [.int (3 + ((js_up v 12 i 0) 22 0 + 1)), .int (nI i), .ref (ad 12)]) (by rw [hp.1]; rfl) ?_
                          refine jmi_ist hc hh 11 (by decide) (by decide) hi d_M_make_227 (fun H locs hh => ?_)
                          refine lv_iload_n hx hb d_M_make_228 rfl (lv_at hl 1 rfl) ?_
                          exact jx_iret (r := nI i) hc hh hQ hlk hr rfl rfl ⟨by rw [← hf], by rw [hmk]; simp [jm_mk1, jm_opq, h208]⟩ d_M_make_229
                        refine J196 v _ _ _ hlv (by rw [jm_make_i hf]; unfold jm_mkB; rw [if_neg h89, ← hfv]; first | rfl | simp [jm_fd, h146]) ?_ ?_
                        ·
                          exact hh
                        exact lv_sub hl [0, 3, 4] rfl
                      refine lv_aload_n hx hb d_M_make_149 rfl (lv_at hl 0 rfl) ?_
                      refine jg_M hc hh 1 (by decide) rfl wf_M_13 d_M_make_150 ?_
                      refine lv_aload_n hx hb d_M_make_153 rfl (lv_at hl 0 rfl) ?_
                      refine jg_M hc hh 25 (by decide) rfl wf_M_93 d_M_make_154 ?_
                      refine lv_bipush (v := 8) hx hb d_M_make_157 (by decide) ?_
                      refine lv_idiv hx hb d_M_make_159 (by decide) ?_
                      refine jm_ild hc hh 1 (by decide) (by decide) (js_pgn hlv) d_M_make_160 ?_
                      refine lv_istore (i := 7) (lv' := [(7, .int (v 1 (ix ((v 25 0) / 8)))), (0, .ref (ad 0)), (1, .int nav), (2, .int url), (3, .int (nI i)), (5, .int (jm_under (jm_mk0 u i) nav)), (6, .int (nI k9))]) hx hb d_M_make_161 hl (by decide) rfl (fun ls hl => ?_)
                      refine lv_aload_n hx hb d_M_make_163 rfl (lv_at hl 1 rfl) ?_
                      refine lv_iload hx hb d_M_make_164 (lv_at hl 0 rfl) ?_
                      refine lv_bipush (v := 8) hx hb d_M_make_166 (by decide) ?_
                      refine lv_irem hx hb d_M_make_168 (by decide) ?_
                      refine lv_if_ne (tgt := 185) hx hb d_M_make_169 rfl (fun h169 => ?_) (fun h169 => ?_)
                      ·
                        refine lv_iload hx hb d_M_make_185 (lv_at hl 0 rfl) ?_
                        refine jpm_25 hc hh wf_M_93 d_M_make_187 (fun H locs hh => ?_)
                        refine lv_iinc (k := 6) (v := nI (k9 + 1)) (lv' := [(6, .int (nI (k9 + 1))), (7, .int (v 1 (ix ((v 25 0) / 8)))), (0, .ref (ad 0)), (1, .int nav), (2, .int url), (3, .int (nI i)), (5, .int (jm_under (jm_mk0 u i) nav))]) hx hb d_M_make_190 hl rfl (nI_1 k9) (by decide) rfl (fun ls hl => ?_)
                        refine lv_goto (tgt := 127) hx hb d_M_make_193 rfl ?_
                        refine ih (js_up v 25 0 (v 1 (ix ((v 25 0) / 8)))) (k9 + 1) _ _ _ (by omega) (jm_Sh_25 hSv) (by rw [js_up_s]; have q9 := jm_led hSv hlv h146; simpa [h169] using q9) (by rw [← hfv]; simp [jm_fd, h146, h169]) ?_ ?_
                        ·
                          exact hh
                        exact lv_sub hl [2, 3, 4, 5, 6, 0] rfl
                      refine lv_iload hx hb d_M_make_172 (lv_at hl 0 rfl) ?_
                      refine lv_aload_n hx hb d_M_make_174 rfl (lv_at hl 1 rfl) ?_
                      refine jg_M hc hh 25 (by decide) rfl wf_M_93 d_M_make_175 ?_
                      refine lv_bipush (v := 8) hx hb d_M_make_178 (by decide) ?_
                      refine lv_irem hx hb d_M_make_180 (by decide) ?_
                      refine lv_iadd hx hb d_M_make_181 ?_
                      refine lv_goto (tgt := 187) hx hb d_M_make_182 rfl ?_
                      refine jpm_25 hc hh wf_M_93 d_M_make_187 (fun H locs hh => ?_)
                      refine lv_iinc (k := 6) (v := nI (k9 + 1)) (lv' := [(6, .int (nI (k9 + 1))), (7, .int (v 1 (ix ((v 25 0) / 8)))), (0, .ref (ad 0)), (1, .int nav), (2, .int url), (3, .int (nI i)), (5, .int (jm_under (jm_mk0 u i) nav))]) hx hb d_M_make_190 hl rfl (nI_1 k9) (by decide) rfl (fun ls hl => ?_)
                      refine lv_goto (tgt := 127) hx hb d_M_make_193 rfl ?_
                      refine ih (js_up v 25 0 ((v 1 (ix ((v 25 0) / 8))) + ((v 25 0) - (v 25 0) / 8 * 8))) (k9 + 1) _ _ _ (by omega) (jm_Sh_25 hSv) (by rw [js_up_s]; have q9 := jm_led hSv hlv h146; simpa [h169] using q9) (by rw [← hfv]; simp [jm_fd, h146, h169]) ?_ ?_
                      ·
                        exact hh
                      exact lv_sub hl [2, 3, 4, 5, 6, 0] rfl
                  have e7 : nI 0 = 0 := rfl
                  refine L127 4 (jm_mkS (jm_mk0 u i) i url (jm_under (jm_mk0 u i) nav)) 0 _ _ _ (by omega) (jm_Sh_mkS (jm_Sh_mk0 hS)) (by rw [jm_mkS_25]; exact jq_ne hu h89) rfl ?_ ?_
                  ·
                    try rw [e7]
                    exact hh
                  try rw [e7]
                  exact lv_sub hl [1, 2, 3, 4, 6, 0] rfl
                refine lv_aload_n hx hb d_M_make_92 rfl (lv_at hl 0 rfl) ?_
                refine jg_M hc hh 11 (by decide) rfl wf_M_44 d_M_make_93 ?_
                refine lv_iload_n hx hb d_M_make_96 rfl (lv_at hl 3 rfl) ?_
                refine lv_iload hx hb d_M_make_97 (lv_at hl 4 rfl) ?_
                refine lv_if_lt (tgt := 117) hx hb d_M_make_99 rfl (fun h99 => ?_) (fun h99 => ?_)
                ·
                  refine lv_aload_n hx hb d_M_make_117 rfl (lv_at hl 0 rfl) ?_
                  refine jx_callV [] [.int (nI i), .ref (ad 12)] hc hh (m_freshOrigin l D aK ad cA (jm_mkS (jm_mk0 u i) i url (jm_under (jm_mk0 u i) nav))) wy_M_96 ⟨by decide, rfl, rfl⟩ (by decide) rfl hl.1 rfl (by simp [vc_int, vc_ref, vc_long, jv_cat]) ⟨Nat.zero_le _, Nat.zero_le _⟩ d_M_make_118 (fun r u9 H locs hp hh _ _ => ?_)
                  rw [hp.2] at hh
                  refine W.eq (g2 := F0 m 121 ls [.int (3 + ((jm_mkS (jm_mk0 u i) i url (jm_under (jm_mk0 u i) nav)) 22 0 + 1)), .int (nI i), .ref (ad 12)]) (by rw [hp.1]; rfl) ?_
                  refine jmi_ist hc hh 11 (by decide) (by decide) hi d_M_make_121 (fun H locs hh => ?_)
                  refine lv_iload_n hx hb d_M_make_122 rfl (lv_at hl 3 rfl) ?_
                  exact jx_iret (r := nI i) hc hh hQ hlk hr rfl rfl ⟨by rw [← hf], by rw [jm_make_i hf]; simp [jm_mkB, jm_mkA, jm_opq, h89, h99]⟩ d_M_make_123
                refine lv_iload hx hb d_M_make_102 (lv_at hl 5 rfl) ?_
                refine lv_if_ne (tgt := 117) hx hb d_M_make_104 rfl (fun h104 => ?_) (fun h104 => ?_)
                ·
                  refine lv_aload_n hx hb d_M_make_117 rfl (lv_at hl 0 rfl) ?_
                  refine jx_callV [] [.int (nI i), .ref (ad 12)] hc hh (m_freshOrigin l D aK ad cA (jm_mkS (jm_mk0 u i) i url (jm_under (jm_mk0 u i) nav))) wy_M_96 ⟨by decide, rfl, rfl⟩ (by decide) rfl hl.1 rfl (by simp [vc_int, vc_ref, vc_long, jv_cat]) ⟨Nat.zero_le _, Nat.zero_le _⟩ d_M_make_118 (fun r u9 H locs hp hh _ _ => ?_)
                  rw [hp.2] at hh
                  refine W.eq (g2 := F0 m 121 ls [.int (3 + ((jm_mkS (jm_mk0 u i) i url (jm_under (jm_mk0 u i) nav)) 22 0 + 1)), .int (nI i), .ref (ad 12)]) (by rw [hp.1]; rfl) ?_
                  refine jmi_ist hc hh 11 (by decide) (by decide) hi d_M_make_121 (fun H locs hh => ?_)
                  refine lv_iload_n hx hb d_M_make_122 rfl (lv_at hl 3 rfl) ?_
                  exact jx_iret (r := nI i) hc hh hQ hlk hr rfl rfl ⟨by rw [← hf], by rw [jm_make_i hf]; simp [jm_mkB, jm_mkA, jm_opq, h89, h99, h104]⟩ d_M_make_123
                refine lv_aload_n hx hb d_M_make_107 rfl (lv_at hl 0 rfl) ?_
                refine jg_M hc hh 11 (by decide) rfl wf_M_44 d_M_make_108 ?_
                refine lv_iload hx hb d_M_make_111 (lv_at hl 4 rfl) ?_
                refine jm_ild hc hh 11 (by decide) (by decide) (jq_nn (jm_Sax (jm_Sh_mk0 hS) h_nav) h99) d_M_make_113 ?_
                refine lv_goto (tgt := 121) hx hb d_M_make_114 rfl ?_
                refine jmi_ist hc hh 11 (by decide) (by decide) hi d_M_make_121 (fun H locs hh => ?_)
                refine lv_iload_n hx hb d_M_make_122 rfl (lv_at hl 3 rfl) ?_
                exact jx_iret (r := nI i) hc hh hQ hlk hr rfl rfl ⟨by rw [← hf], by rw [jm_make_i hf]; simp [jm_mkB, jm_mkA, jm_opq, h89, h99, h104]⟩ d_M_make_123
              have e8 : (jm_mkS (jm_mk0 u i) i url (jm_under (jm_mk0 u i) nav)) = (js_up (js_up (jm_mk0 u i) 25 0 url) 12 i (jm_under (jm_mk0 u i) nav)) := rfl
              refine J87 _ _ _ ?_ ?_
              ·
                try rw [e8]
                exact hh
              try rw [e8]
              exact lv_sub hl [1, 2, 3, 4, 5, 0] rfl
            have e9 : (jm_under (jm_mk0 u i) nav) = 0 := by simp [jm_under, h54]
            refine W.eq (g2 := F0 m 72 ls [.int (jm_under (jm_mk0 u i) nav)]) (by first | (rw [e9]; done) | (rw [e9]; rfl)) ?_
            refine J72 _ ?_
            exact lv_sub hl [1, 2, 3, 4, 0] rfl
          refine lv_aload_n hx hb d_M_make_57 rfl (lv_at hl 1 rfl) ?_
          refine jg_M hc hh 12 (by decide) rfl wf_M_47 d_M_make_58 ?_
          refine lv_iload hx hb d_M_make_61 (lv_at hl 0 rfl) ?_
          refine jm_zld hc hh 12 (by decide) (by decide) (jq_nn (jm_Sax (jm_Sh_mk0 hS) h_nav) h54) d_M_make_63 ?_
          refine lv_if_eq (tgt := 71) hx hb d_M_make_64 rfl (fun h64 => ?_) (fun h64 => ?_)
          ·
            refine lv_iconst (v := 0) hx hb d_M_make_71 (by decide) ?_
            have J72 : ∀  (ls : Array Slot), lv_has ls 8 [(0, .ref (ad 0)), (1, .int nav), (2, .int url), (3, .int (nI i)), (4, .int ((jm_mk0 u i) 16 (ix nav)))] → W p l e (jr 2) s m args below meth c H locs 0 0 Q (F0 m 72 ls [.int (jm_under (jm_mk0 u i) nav)]) := by
              intro  ls hl
              refine lv_istore (i := 5) (lv' := [(5, .int (jm_under (jm_mk0 u i) nav)), (0, .ref (ad 0)), (1, .int nav), (2, .int url), (3, .int (nI i)), (4, .int ((jm_mk0 u i) 16 (ix nav)))]) hx hb d_M_make_72 hl (by decide) rfl (fun ls hl => ?_)
              refine lv_aload_n hx hb d_M_make_74 rfl (lv_at hl 1 rfl) ?_
              refine lv_iload_n hx hb d_M_make_75 rfl (lv_at hl 3 rfl) ?_
              refine jpm_25 hc hh wf_M_93 d_M_make_76 (fun H locs hh => ?_)
              refine lv_aload_n hx hb d_M_make_79 rfl (lv_at hl 1 rfl) ?_
              refine jg_M hc hh 12 (by decide) rfl wf_M_47 d_M_make_80 ?_
              refine lv_iload_n hx hb d_M_make_83 rfl (lv_at hl 4 rfl) ?_
              refine lv_iload hx hb d_M_make_84 (lv_at hl 0 rfl) ?_
              refine jmi_zst hc hh 12 (by decide) (by decide) hi jm_under_z d_M_make_86 (fun H locs hh => ?_)
              have J87 : ∀  (H : Heap) (locs : List Loc) (ls : Array Slot), jx_H D 22 ad (jm_cell ad cA (jm_mkS (jm_mk0 u i) i url (jm_under (jm_mk0 u i) nav))) A s.heap H locs → lv_has ls 8 [(0, .ref (ad 0)), (1, .int nav), (2, .int url), (3, .int (nI i)), (4, .int ((jm_mk0 u i) 16 (ix nav))), (5, .int (jm_under (jm_mk0 u i) nav))] → W p l e (jr 2) s m args below meth c H locs 0 0 Q (F0 m 87 ls []) := by
                intro  H locs ls hh hl
                refine lv_iload_n hx hb d_M_make_87 rfl (lv_at hl 2 rfl) ?_
                refine lv_iconst (v := -1) hx hb d_M_make_88 (by decide) ?_
                refine lv_icmp_ne (tgt := 124) hx hb d_M_make_89 rfl (fun h89 => ?_) (fun h89 => ?_)
                ·
                  refine lv_iconst (v := 0) hx hb d_M_make_124 (by decide) ?_
                  refine lv_istore (i := 6) (lv' := [(6, .int 0), (0, .ref (ad 0)), (1, .int nav), (2, .int url), (3, .int (nI i)), (4, .int ((jm_mk0 u i) 16 (ix nav))), (5, .int (jm_under (jm_mk0 u i) nav))]) hx hb d_M_make_125 hl (by decide) rfl (fun ls hl => ?_)
                  have L127 : ∀ (n : Nat) (v : js_S) (k9 : Nat) (H : Heap) (locs : List Loc) (ls : Array Slot), k9 + n = 4 → (jm_Sh v) → (∃ j, j < 256 ∧ v 25 0 = nI j) → (jm_fd v n = jm_fd (jm_mkS (jm_mk0 u i) i url (jm_under (jm_mk0 u i) nav)) 4) → jx_H D 22 ad (jm_cell ad cA v) A s.heap H locs → lv_has ls 8 [(0, .ref (ad 0)), (1, .int nav), (2, .int url), (3, .int (nI i)), (5, .int (jm_under (jm_mk0 u i) nav)), (6, .int (nI k9))] → W p l e (jr 2) s m args below meth c H locs 0 0 Q (F0 m 127 ls []) := by
                    intro n
                    induction n with
                    | zero =>
                      intro v k9 H locs ls hm hSv hlv hfv hh hl
                      refine lv_iload hx hb d_M_make_127 (lv_at hl 5 rfl) ?_
                      refine lv_iconst (v := 4) hx hb d_M_make_129 (by decide) ?_
                      refine lv_icmp_ge (tgt := 196) hx hb d_M_make_130 rfl (fun h130 => ?_) (fun hq => absurd (nI_le (show 4 ≤ k9 by omega) (show k9 < 2 ^ 31 by omega)) hq)
                      have J196 : ∀ (v : js_S) (H : Heap) (locs : List Loc) (ls : Array Slot), (∃ j, j < 256 ∧ v 25 0 = nI j) → (jm_make u nav url = jm_mk1 v i (jm_under (jm_mk0 u i) nav)) → jx_H D 22 ad (jm_cell ad cA v) A s.heap H locs → lv_has ls 8 [(0, .ref (ad 0)), (3, .int (nI i)), (5, .int (jm_under (jm_mk0 u i) nav))] → W p l e (jr 2) s m args below meth c H locs 0 0 Q (F0 m 196 ls []) := by
                        intro v H locs ls hlv hmk hh hl
                        refine lv_aload_n hx hb d_M_make_196 rfl (lv_at hl 0 rfl) ?_
                        refine jg_M hc hh 0 (by decide) rfl wf_M_7 d_M_make_197 ?_
                        refine lv_aload_n hx hb d_M_make_200 rfl (lv_at hl 0 rfl) ?_
                        refine jg_M hc hh 25 (by decide) rfl wf_M_93 d_M_make_201 ?_
                        refine lv_bipush (v := 8) hx hb d_M_make_204 (by decide) ?_
                        refine lv_idiv hx hb d_M_make_206 (by decide) ?_
                        refine jm_ild hc hh 0 (by decide) (by decide) (js_pgn hlv) d_M_make_207 ?_
                        refine lv_if_eq (tgt := 230) hx hb d_M_make_208 rfl (fun h208 => ?_) (fun h208 => ?_)
                        ·
                          refine lv_aload_n hx hb d_M_make_230 rfl (lv_at hl 0 rfl) ?_
                          refine jg_M hc hh 12 (by decide) rfl wf_M_47 d_M_make_231 ?_
                          refine lv_iload_n hx hb d_M_make_234 rfl (lv_at hl 1 rfl) ?_
                          refine lv_iload hx hb d_M_make_235 (lv_at hl 2 rfl) ?_
                          refine lv_if_ne (tgt := 255) hx hb d_M_make_237 rfl (fun h237 => ?_) (fun h237 => ?_)
                          ·
                            refine lv_iconst (v := 1) hx hb d_M_make_255 (by decide) ?_
                            refine lv_goto (tgt := 260) hx hb d_M_make_256 rfl ?_
                            have J260 : ∀  (ls : Array Slot), lv_has ls 8 [(0, .ref (ad 0)), (3, .int (nI i))] → W p l e (jr 2) s m args below meth c H locs 0 0 Q (F0 m 260 ls [.int (jm_mb v (jm_under (jm_mk0 u i) nav)), .int (nI i), .ref (ad 13)]) := by
                              intro  ls hl
                              refine jmi_zst hc hh 12 (by decide) (by decide) hi jm_mb_z d_M_make_260 (fun H locs hh => ?_)
                              refine lv_aload_n hx hb d_M_make_261 rfl (lv_at hl 0 rfl) ?_
                              refine jg_M hc hh 11 (by decide) rfl wf_M_44 d_M_make_262 ?_
                              refine lv_iload_n hx hb d_M_make_265 rfl (lv_at hl 1 rfl) ?_
                              refine lv_aload_n hx hb d_M_make_266 rfl (lv_at hl 0 rfl) ?_
                              refine jg_M hc hh 12 (by decide) rfl wf_M_47 d_M_make_267 ?_
                              refine lv_iload_n hx hb d_M_make_270 rfl (lv_at hl 1 rfl) ?_
                              refine jmi_zld hc hh 12 (by decide) (by decide) hi d_M_make_271 ?_
                              refine lv_if_eq (tgt := 282) hx hb d_M_make_272 rfl (fun h272 => ?_) (fun h272 => ?_)
                              ·
                                refine lv_aload_n hx hb d_M_make_282 rfl (lv_at hl 0 rfl) ?_
                                refine jg_M hc hh 25 (by decide) rfl wf_M_93 d_M_make_283 ?_
                                refine lv_bipush (v := 64) hx hb d_M_make_286 (by decide) ?_
                                refine lv_idiv hx hb d_M_make_288 (by decide) ?_
                                refine jmi_ist hc hh 11 (by decide) (by decide) hi d_M_make_289 (fun H locs hh => ?_)
                                refine lv_iload_n hx hb d_M_make_290 rfl (lv_at hl 1 rfl) ?_
                                exact jx_iret (r := nI i) hc hh hQ hlk hr rfl rfl ⟨by rw [← hf], by rw [hmk]; simp [jm_mk1, jm_mkC, jm_opq, h208, h272]⟩ d_M_make_291
                              refine lv_aload_n hx hb d_M_make_275 rfl (lv_at hl 0 rfl) ?_
                              refine jx_callV [] [.int (nI i), .ref (ad 12)] hc hh (m_freshOrigin l D aK ad cA (js_up v 12 i (jm_mb v (jm_under (jm_mk0 u i) nav)))) wy_M_96 ⟨by decide, rfl, rfl⟩ (by decide) rfl hl.1 rfl (by simp [vc_int, vc_ref, vc_long, jv_cat]) ⟨Nat.zero_le _, Nat.zero_le _⟩ d_M_make_276 (fun r u9 H locs hp hh _ _ => ?_)
                              rw [hp.2] at hh
                              refine W.eq (g2 := F0 m 279 ls [.int (3 + ((js_up v 12 i (jm_mb v (jm_under (jm_mk0 u i) nav))) 22 0 + 1)), .int (nI i), .ref (ad 12)]) (by rw [hp.1]; rfl) ?_
                              refine lv_goto (tgt := 289) hx hb d_M_make_279 rfl ?_
                              refine jmi_ist hc hh 11 (by decide) (by decide) hi d_M_make_289 (fun H locs hh => ?_)
                              refine lv_iload_n hx hb d_M_make_290 rfl (lv_at hl 1 rfl) ?_
                              exact jx_iret (r := nI i) hc hh hQ hlk hr rfl rfl ⟨by rw [← hf], by rw [hmk]; simp [jm_mk1, jm_mkC, jm_opq, h208, h272]⟩ d_M_make_291
                            have e10 : (jm_mb v (jm_under (jm_mk0 u i) nav)) = 1 := by first | (simp [jm_mb, h208, h237]; done) | (simp [jm_mb, eq_true h208, h237]; done)
                            refine W.eq (g2 := F0 m 260 ls [.int (jm_mb v (jm_under (jm_mk0 u i) nav)), .int (nI i), .ref (ad 13)]) (by first | (rw [e10]; done) | (rw [e10]; rfl)) ?_
                            refine J260 _ ?_
                            exact lv_sub hl [0, 1] rfl
                          refine lv_aload_n hx hb d_M_make_240 rfl (lv_at hl 0 rfl) ?_
                          refine jg_M hc hh 3 (by decide) rfl wf_M_19 d_M_make_241 ?_
                          refine lv_aload_n hx hb d_M_make_244 rfl (lv_at hl 0 rfl) ?_
                          refine jg_M hc hh 25 (by decide) rfl wf_M_93 d_M_make_245 ?_
                          refine lv_bipush (v := 8) hx hb d_M_make_248 (by decide) ?_
                          refine lv_idiv hx hb d_M_make_250 (by decide) ?_
                          refine jm_zld hc hh 3 (by decide) (by decide) (js_pgn hlv) d_M_make_251 ?_
                          refine lv_if_eq (tgt := 259) hx hb d_M_make_252 rfl (fun h252 => ?_) (fun h252 => ?_)
                          ·
                            refine lv_iconst (v := 0) hx hb d_M_make_259 (by decide) ?_
                            have J260 : ∀  (ls : Array Slot), lv_has ls 8 [(0, .ref (ad 0)), (3, .int (nI i))] → W p l e (jr 2) s m args below meth c H locs 0 0 Q (F0 m 260 ls [.int (jm_mb v (jm_under (jm_mk0 u i) nav)), .int (nI i), .ref (ad 13)]) := by
                              intro  ls hl
                              refine jmi_zst hc hh 12 (by decide) (by decide) hi jm_mb_z d_M_make_260 (fun H locs hh => ?_)
                              refine lv_aload_n hx hb d_M_make_261 rfl (lv_at hl 0 rfl) ?_
                              refine jg_M hc hh 11 (by decide) rfl wf_M_44 d_M_make_262 ?_
                              refine lv_iload_n hx hb d_M_make_265 rfl (lv_at hl 1 rfl) ?_
                              refine lv_aload_n hx hb d_M_make_266 rfl (lv_at hl 0 rfl) ?_
                              refine jg_M hc hh 12 (by decide) rfl wf_M_47 d_M_make_267 ?_
                              refine lv_iload_n hx hb d_M_make_270 rfl (lv_at hl 1 rfl) ?_
                              refine jmi_zld hc hh 12 (by decide) (by decide) hi d_M_make_271 ?_
                              refine lv_if_eq (tgt := 282) hx hb d_M_make_272 rfl (fun h272 => ?_) (fun h272 => ?_)
                              ·
                                refine lv_aload_n hx hb d_M_make_282 rfl (lv_at hl 0 rfl) ?_
                                refine jg_M hc hh 25 (by decide) rfl wf_M_93 d_M_make_283 ?_
                                refine lv_bipush (v := 64) hx hb d_M_make_286 (by decide) ?_
                                refine lv_idiv hx hb d_M_make_288 (by decide) ?_
                                refine jmi_ist hc hh 11 (by decide) (by decide) hi d_M_make_289 (fun H locs hh => ?_)
                                refine lv_iload_n hx hb d_M_make_290 rfl (lv_at hl 1 rfl) ?_
                                exact jx_iret (r := nI i) hc hh hQ hlk hr rfl rfl ⟨by rw [← hf], by rw [hmk]; simp [jm_mk1, jm_mkC, jm_opq, h208, h272]⟩ d_M_make_291
                              refine lv_aload_n hx hb d_M_make_275 rfl (lv_at hl 0 rfl) ?_
                              refine jx_callV [] [.int (nI i), .ref (ad 12)] hc hh (m_freshOrigin l D aK ad cA (js_up v 12 i (jm_mb v (jm_under (jm_mk0 u i) nav)))) wy_M_96 ⟨by decide, rfl, rfl⟩ (by decide) rfl hl.1 rfl (by simp [vc_int, vc_ref, vc_long, jv_cat]) ⟨Nat.zero_le _, Nat.zero_le _⟩ d_M_make_276 (fun r u9 H locs hp hh _ _ => ?_)
                              rw [hp.2] at hh
                              refine W.eq (g2 := F0 m 279 ls [.int (3 + ((js_up v 12 i (jm_mb v (jm_under (jm_mk0 u i) nav))) 22 0 + 1)), .int (nI i), .ref (ad 12)]) (by rw [hp.1]; rfl) ?_
                              refine lv_goto (tgt := 289) hx hb d_M_make_279 rfl ?_
                              refine jmi_ist hc hh 11 (by decide) (by decide) hi d_M_make_289 (fun H locs hh => ?_)
                              refine lv_iload_n hx hb d_M_make_290 rfl (lv_at hl 1 rfl) ?_
                              exact jx_iret (r := nI i) hc hh hQ hlk hr rfl rfl ⟨by rw [← hf], by rw [hmk]; simp [jm_mk1, jm_mkC, jm_opq, h208, h272]⟩ d_M_make_291
                            have e11 : (jm_mb v (jm_under (jm_mk0 u i) nav)) = 0 := by first | (simp [jm_mb, h208, h237, h252]; done) | (simp [jm_mb, eq_true h208, eq_true h237, eq_true h252]; done)
                            refine W.eq (g2 := F0 m 260 ls [.int (jm_mb v (jm_under (jm_mk0 u i) nav)), .int (nI i), .ref (ad 13)]) (by first | (rw [e11]; done) | (rw [e11]; rfl)) ?_
                            refine J260 _ ?_
                            exact lv_sub hl [0, 1] rfl
                          refine lv_iconst (v := 1) hx hb d_M_make_255 (by decide) ?_
                          refine lv_goto (tgt := 260) hx hb d_M_make_256 rfl ?_
                          have J260 : ∀  (ls : Array Slot), lv_has ls 8 [(0, .ref (ad 0)), (3, .int (nI i))] → W p l e (jr 2) s m args below meth c H locs 0 0 Q (F0 m 260 ls [.int (jm_mb v (jm_under (jm_mk0 u i) nav)), .int (nI i), .ref (ad 13)]) := by
                            intro  ls hl
                            refine jmi_zst hc hh 12 (by decide) (by decide) hi jm_mb_z d_M_make_260 (fun H locs hh => ?_)
                            refine lv_aload_n hx hb d_M_make_261 rfl (lv_at hl 0 rfl) ?_
                            refine jg_M hc hh 11 (by decide) rfl wf_M_44 d_M_make_262 ?_
                            refine lv_iload_n hx hb d_M_make_265 rfl (lv_at hl 1 rfl) ?_
                            refine lv_aload_n hx hb d_M_make_266 rfl (lv_at hl 0 rfl) ?_
                            refine jg_M hc hh 12 (by decide) rfl wf_M_47 d_M_make_267 ?_
                            refine lv_iload_n hx hb d_M_make_270 rfl (lv_at hl 1 rfl) ?_
                            refine jmi_zld hc hh 12 (by decide) (by decide) hi d_M_make_271 ?_
                            refine lv_if_eq (tgt := 282) hx hb d_M_make_272 rfl (fun h272 => ?_) (fun h272 => ?_)
                            ·
                              refine lv_aload_n hx hb d_M_make_282 rfl (lv_at hl 0 rfl) ?_
                              refine jg_M hc hh 25 (by decide) rfl wf_M_93 d_M_make_283 ?_
                              refine lv_bipush (v := 64) hx hb d_M_make_286 (by decide) ?_
                              refine lv_idiv hx hb d_M_make_288 (by decide) ?_
                              refine jmi_ist hc hh 11 (by decide) (by decide) hi d_M_make_289 (fun H locs hh => ?_)
                              refine lv_iload_n hx hb d_M_make_290 rfl (lv_at hl 1 rfl) ?_
                              exact jx_iret (r := nI i) hc hh hQ hlk hr rfl rfl ⟨by rw [← hf], by rw [hmk]; simp [jm_mk1, jm_mkC, jm_opq, h208, h272]⟩ d_M_make_291
                            refine lv_aload_n hx hb d_M_make_275 rfl (lv_at hl 0 rfl) ?_
                            refine jx_callV [] [.int (nI i), .ref (ad 12)] hc hh (m_freshOrigin l D aK ad cA (js_up v 12 i (jm_mb v (jm_under (jm_mk0 u i) nav)))) wy_M_96 ⟨by decide, rfl, rfl⟩ (by decide) rfl hl.1 rfl (by simp [vc_int, vc_ref, vc_long, jv_cat]) ⟨Nat.zero_le _, Nat.zero_le _⟩ d_M_make_276 (fun r u9 H locs hp hh _ _ => ?_)
                            rw [hp.2] at hh
                            refine W.eq (g2 := F0 m 279 ls [.int (3 + ((js_up v 12 i (jm_mb v (jm_under (jm_mk0 u i) nav))) 22 0 + 1)), .int (nI i), .ref (ad 12)]) (by rw [hp.1]; rfl) ?_
                            refine lv_goto (tgt := 289) hx hb d_M_make_279 rfl ?_
                            refine jmi_ist hc hh 11 (by decide) (by decide) hi d_M_make_289 (fun H locs hh => ?_)
                            refine lv_iload_n hx hb d_M_make_290 rfl (lv_at hl 1 rfl) ?_
                            exact jx_iret (r := nI i) hc hh hQ hlk hr rfl rfl ⟨by rw [← hf], by rw [hmk]; simp [jm_mk1, jm_mkC, jm_opq, h208, h272]⟩ d_M_make_291
                          have e12 : (jm_mb v (jm_under (jm_mk0 u i) nav)) = 1 := by first | (simp [jm_mb, h208, h237, h252]; done) | (simp [jm_mb, eq_true h208, eq_true h237, h252]; done)
                          refine W.eq (g2 := F0 m 260 ls [.int (jm_mb v (jm_under (jm_mk0 u i) nav)), .int (nI i), .ref (ad 13)]) (by first | (rw [e12]; done) | (rw [e12]; rfl)) ?_
                          refine J260 _ ?_
                          exact lv_sub hl [0, 1] rfl
                        refine lv_aload_n hx hb d_M_make_211 rfl (lv_at hl 0 rfl) ?_
                        refine jg_M hc hh 12 (by decide) rfl wf_M_47 d_M_make_212 ?_
                        refine lv_iload_n hx hb d_M_make_215 rfl (lv_at hl 1 rfl) ?_
                        refine lv_iconst (v := 0) hx hb d_M_make_216 (by decide) ?_
                        refine jmi_zst hc hh 12 (by decide) (by decide) hi (by decide) d_M_make_217 (fun H locs hh => ?_)
                        refine lv_aload_n hx hb d_M_make_218 rfl (lv_at hl 0 rfl) ?_
                        refine jg_M hc hh 11 (by decide) rfl wf_M_44 d_M_make_219 ?_
                        refine lv_iload_n hx hb d_M_make_222 rfl (lv_at hl 1 rfl) ?_
                        refine lv_aload_n hx hb d_M_make_223 rfl (lv_at hl 0 rfl) ?_
                        refine jx_callV [] [.int (nI i), .ref (ad 12)] hc hh (m_freshOrigin l D aK ad cA (js_up v 12 i 0)) wy_M_96 ⟨by decide, rfl, rfl⟩ (by decide) rfl hl.1 rfl (by simp [vc_int, vc_ref, vc_long, jv_cat]) ⟨Nat.zero_le _, Nat.zero_le _⟩ d_M_make_224 (fun r u9 H locs hp hh _ _ => ?_)
                        rw [hp.2] at hh
                        refine W.eq (g2 := F0 m 227 ls [.int (3 + ((js_up v 12 i 0) 22 0 + 1)), .int (nI i), .ref (ad 12)]) (by rw [hp.1]; rfl) ?_
                        refine jmi_ist hc hh 11 (by decide) (by decide) hi d_M_make_227 (fun H locs hh => ?_)
                        refine lv_iload_n hx hb d_M_make_228 rfl (lv_at hl 1 rfl) ?_
                        exact jx_iret (r := nI i) hc hh hQ hlk hr rfl rfl ⟨by rw [← hf], by rw [hmk]; simp [jm_mk1, jm_opq, h208]⟩ d_M_make_229
                      refine J196 v _ _ _ hlv (by rw [jm_make_i hf]; unfold jm_mkB; rw [if_neg h89, ← hfv]; first | rfl | simp [jm_fd, h146]) ?_ ?_
                      ·
                        exact hh
                      exact lv_sub hl [0, 3, 4] rfl
                    | succ n ih =>
                      intro v k9 H locs ls hm hSv hlv hfv hh hl
                      refine lv_iload hx hb d_M_make_127 (lv_at hl 5 rfl) ?_
                      refine lv_iconst (v := 4) hx hb d_M_make_129 (by decide) ?_
                      refine lv_icmp_ge (tgt := 196) hx hb d_M_make_130 rfl (fun hq => absurd hq (nI_ge (show k9 < 4 by omega) (by decide))) (fun h130 => ?_)
                      refine lv_aload_n hx hb d_M_make_133 rfl (lv_at hl 0 rfl) ?_
                      refine jg_M hc hh 0 (by decide) rfl wf_M_7 d_M_make_134 ?_
                      refine lv_aload_n hx hb d_M_make_137 rfl (lv_at hl 0 rfl) ?_
                      refine jg_M hc hh 25 (by decide) rfl wf_M_93 d_M_make_138 ?_
                      refine lv_bipush (v := 8) hx hb d_M_make_141 (by decide) ?_
                      refine lv_idiv hx hb d_M_make_143 (by decide) ?_
                      refine jm_ild hc hh 0 (by decide) (by decide) (js_pgn hlv) d_M_make_144 ?_
                      refine lv_iconst (v := 1) hx hb d_M_make_145 (by decide) ?_
                      refine lv_icmp_ne (tgt := 196) hx hb d_M_make_146 rfl (fun h146 => ?_) (fun h146 => ?_)
                      ·
                        have J196 : ∀ (v : js_S) (H : Heap) (locs : List Loc) (ls : Array Slot), (∃ j, j < 256 ∧ v 25 0 = nI j) → (jm_make u nav url = jm_mk1 v i (jm_under (jm_mk0 u i) nav)) → jx_H D 22 ad (jm_cell ad cA v) A s.heap H locs → lv_has ls 8 [(0, .ref (ad 0)), (3, .int (nI i)), (5, .int (jm_under (jm_mk0 u i) nav))] → W p l e (jr 2) s m args below meth c H locs 0 0 Q (F0 m 196 ls []) := by
                          intro v H locs ls hlv hmk hh hl
                          refine lv_aload_n hx hb d_M_make_196 rfl (lv_at hl 0 rfl) ?_
                          refine jg_M hc hh 0 (by decide) rfl wf_M_7 d_M_make_197 ?_
                          refine lv_aload_n hx hb d_M_make_200 rfl (lv_at hl 0 rfl) ?_
                          refine jg_M hc hh 25 (by decide) rfl wf_M_93 d_M_make_201 ?_
                          refine lv_bipush (v := 8) hx hb d_M_make_204 (by decide) ?_
                          refine lv_idiv hx hb d_M_make_206 (by decide) ?_
                          refine jm_ild hc hh 0 (by decide) (by decide) (js_pgn hlv) d_M_make_207 ?_
                          refine lv_if_eq (tgt := 230) hx hb d_M_make_208 rfl (fun h208 => ?_) (fun h208 => ?_)
                          ·
                            refine lv_aload_n hx hb d_M_make_230 rfl (lv_at hl 0 rfl) ?_
                            refine jg_M hc hh 12 (by decide) rfl wf_M_47 d_M_make_231 ?_
                            refine lv_iload_n hx hb d_M_make_234 rfl (lv_at hl 1 rfl) ?_
                            refine lv_iload hx hb d_M_make_235 (lv_at hl 2 rfl) ?_
                            refine lv_if_ne (tgt := 255) hx hb d_M_make_237 rfl (fun h237 => ?_) (fun h237 => ?_)
                            ·
                              refine lv_iconst (v := 1) hx hb d_M_make_255 (by decide) ?_
                              refine lv_goto (tgt := 260) hx hb d_M_make_256 rfl ?_
                              have J260 : ∀  (ls : Array Slot), lv_has ls 8 [(0, .ref (ad 0)), (3, .int (nI i))] → W p l e (jr 2) s m args below meth c H locs 0 0 Q (F0 m 260 ls [.int (jm_mb v (jm_under (jm_mk0 u i) nav)), .int (nI i), .ref (ad 13)]) := by
                                intro  ls hl
                                refine jmi_zst hc hh 12 (by decide) (by decide) hi jm_mb_z d_M_make_260 (fun H locs hh => ?_)
                                refine lv_aload_n hx hb d_M_make_261 rfl (lv_at hl 0 rfl) ?_
                                refine jg_M hc hh 11 (by decide) rfl wf_M_44 d_M_make_262 ?_
                                refine lv_iload_n hx hb d_M_make_265 rfl (lv_at hl 1 rfl) ?_
                                refine lv_aload_n hx hb d_M_make_266 rfl (lv_at hl 0 rfl) ?_
                                refine jg_M hc hh 12 (by decide) rfl wf_M_47 d_M_make_267 ?_
                                refine lv_iload_n hx hb d_M_make_270 rfl (lv_at hl 1 rfl) ?_
                                refine jmi_zld hc hh 12 (by decide) (by decide) hi d_M_make_271 ?_
                                refine lv_if_eq (tgt := 282) hx hb d_M_make_272 rfl (fun h272 => ?_) (fun h272 => ?_)
                                ·
                                  refine lv_aload_n hx hb d_M_make_282 rfl (lv_at hl 0 rfl) ?_
                                  refine jg_M hc hh 25 (by decide) rfl wf_M_93 d_M_make_283 ?_
                                  refine lv_bipush (v := 64) hx hb d_M_make_286 (by decide) ?_
                                  refine lv_idiv hx hb d_M_make_288 (by decide) ?_
                                  refine jmi_ist hc hh 11 (by decide) (by decide) hi d_M_make_289 (fun H locs hh => ?_)
                                  refine lv_iload_n hx hb d_M_make_290 rfl (lv_at hl 1 rfl) ?_
                                  exact jx_iret (r := nI i) hc hh hQ hlk hr rfl rfl ⟨by rw [← hf], by rw [hmk]; simp [jm_mk1, jm_mkC, jm_opq, h208, h272]⟩ d_M_make_291
                                refine lv_aload_n hx hb d_M_make_275 rfl (lv_at hl 0 rfl) ?_
                                refine jx_callV [] [.int (nI i), .ref (ad 12)] hc hh (m_freshOrigin l D aK ad cA (js_up v 12 i (jm_mb v (jm_under (jm_mk0 u i) nav)))) wy_M_96 ⟨by decide, rfl, rfl⟩ (by decide) rfl hl.1 rfl (by simp [vc_int, vc_ref, vc_long, jv_cat]) ⟨Nat.zero_le _, Nat.zero_le _⟩ d_M_make_276 (fun r u9 H locs hp hh _ _ => ?_)
                                rw [hp.2] at hh
                                refine W.eq (g2 := F0 m 279 ls [.int (3 + ((js_up v 12 i (jm_mb v (jm_under (jm_mk0 u i) nav))) 22 0 + 1)), .int (nI i), .ref (ad 12)]) (by rw [hp.1]; rfl) ?_
                                refine lv_goto (tgt := 289) hx hb d_M_make_279 rfl ?_
                                refine jmi_ist hc hh 11 (by decide) (by decide) hi d_M_make_289 (fun H locs hh => ?_)
                                refine lv_iload_n hx hb d_M_make_290 rfl (lv_at hl 1 rfl) ?_
                                exact jx_iret (r := nI i) hc hh hQ hlk hr rfl rfl ⟨by rw [← hf], by rw [hmk]; simp [jm_mk1, jm_mkC, jm_opq, h208, h272]⟩ d_M_make_291
                              have e13 : (jm_mb v (jm_under (jm_mk0 u i) nav)) = 1 := by first | (simp [jm_mb, h208, h237]; done) | (simp [jm_mb, eq_true h208, h237]; done)
                              refine W.eq (g2 := F0 m 260 ls [.int (jm_mb v (jm_under (jm_mk0 u i) nav)), .int (nI i), .ref (ad 13)]) (by first | (rw [e13]; done) | (rw [e13]; rfl)) ?_
                              refine J260 _ ?_
                              exact lv_sub hl [0, 1] rfl
                            refine lv_aload_n hx hb d_M_make_240 rfl (lv_at hl 0 rfl) ?_
                            refine jg_M hc hh 3 (by decide) rfl wf_M_19 d_M_make_241 ?_
                            refine lv_aload_n hx hb d_M_make_244 rfl (lv_at hl 0 rfl) ?_
                            refine jg_M hc hh 25 (by decide) rfl wf_M_93 d_M_make_245 ?_
                            refine lv_bipush (v := 8) hx hb d_M_make_248 (by decide) ?_
                            refine lv_idiv hx hb d_M_make_250 (by decide) ?_
                            refine jm_zld hc hh 3 (by decide) (by decide) (js_pgn hlv) d_M_make_251 ?_
                            refine lv_if_eq (tgt := 259) hx hb d_M_make_252 rfl (fun h252 => ?_) (fun h252 => ?_)
                            ·
                              refine lv_iconst (v := 0) hx hb d_M_make_259 (by decide) ?_
                              have J260 : ∀  (ls : Array Slot), lv_has ls 8 [(0, .ref (ad 0)), (3, .int (nI i))] → W p l e (jr 2) s m args below meth c H locs 0 0 Q (F0 m 260 ls [.int (jm_mb v (jm_under (jm_mk0 u i) nav)), .int (nI i), .ref (ad 13)]) := by
                                intro  ls hl
                                refine jmi_zst hc hh 12 (by decide) (by decide) hi jm_mb_z d_M_make_260 (fun H locs hh => ?_)
                                refine lv_aload_n hx hb d_M_make_261 rfl (lv_at hl 0 rfl) ?_
                                refine jg_M hc hh 11 (by decide) rfl wf_M_44 d_M_make_262 ?_
                                refine lv_iload_n hx hb d_M_make_265 rfl (lv_at hl 1 rfl) ?_
                                refine lv_aload_n hx hb d_M_make_266 rfl (lv_at hl 0 rfl) ?_
                                refine jg_M hc hh 12 (by decide) rfl wf_M_47 d_M_make_267 ?_
                                refine lv_iload_n hx hb d_M_make_270 rfl (lv_at hl 1 rfl) ?_
                                refine jmi_zld hc hh 12 (by decide) (by decide) hi d_M_make_271 ?_
                                refine lv_if_eq (tgt := 282) hx hb d_M_make_272 rfl (fun h272 => ?_) (fun h272 => ?_)
                                ·
                                  refine lv_aload_n hx hb d_M_make_282 rfl (lv_at hl 0 rfl) ?_
                                  refine jg_M hc hh 25 (by decide) rfl wf_M_93 d_M_make_283 ?_
                                  refine lv_bipush (v := 64) hx hb d_M_make_286 (by decide) ?_
                                  refine lv_idiv hx hb d_M_make_288 (by decide) ?_
                                  refine jmi_ist hc hh 11 (by decide) (by decide) hi d_M_make_289 (fun H locs hh => ?_)
                                  refine lv_iload_n hx hb d_M_make_290 rfl (lv_at hl 1 rfl) ?_
                                  exact jx_iret (r := nI i) hc hh hQ hlk hr rfl rfl ⟨by rw [← hf], by rw [hmk]; simp [jm_mk1, jm_mkC, jm_opq, h208, h272]⟩ d_M_make_291
                                refine lv_aload_n hx hb d_M_make_275 rfl (lv_at hl 0 rfl) ?_
                                refine jx_callV [] [.int (nI i), .ref (ad 12)] hc hh (m_freshOrigin l D aK ad cA (js_up v 12 i (jm_mb v (jm_under (jm_mk0 u i) nav)))) wy_M_96 ⟨by decide, rfl, rfl⟩ (by decide) rfl hl.1 rfl (by simp [vc_int, vc_ref, vc_long, jv_cat]) ⟨Nat.zero_le _, Nat.zero_le _⟩ d_M_make_276 (fun r u9 H locs hp hh _ _ => ?_)
                                rw [hp.2] at hh
                                refine W.eq (g2 := F0 m 279 ls [.int (3 + ((js_up v 12 i (jm_mb v (jm_under (jm_mk0 u i) nav))) 22 0 + 1)), .int (nI i), .ref (ad 12)]) (by rw [hp.1]; rfl) ?_
                                refine lv_goto (tgt := 289) hx hb d_M_make_279 rfl ?_
                                refine jmi_ist hc hh 11 (by decide) (by decide) hi d_M_make_289 (fun H locs hh => ?_)
                                refine lv_iload_n hx hb d_M_make_290 rfl (lv_at hl 1 rfl) ?_
                                exact jx_iret (r := nI i) hc hh hQ hlk hr rfl rfl ⟨by rw [← hf], by rw [hmk]; simp [jm_mk1, jm_mkC, jm_opq, h208, h272]⟩ d_M_make_291
                              have e14 : (jm_mb v (jm_under (jm_mk0 u i) nav)) = 0 := by first | (simp [jm_mb, h208, h237, h252]; done) | (simp [jm_mb, eq_true h208, eq_true h237, eq_true h252]; done)
                              refine W.eq (g2 := F0 m 260 ls [.int (jm_mb v (jm_under (jm_mk0 u i) nav)), .int (nI i), .ref (ad 13)]) (by first | (rw [e14]; done) | (rw [e14]; rfl)) ?_
                              refine J260 _ ?_
                              exact lv_sub hl [0, 1] rfl
                            refine lv_iconst (v := 1) hx hb d_M_make_255 (by decide) ?_
                            refine lv_goto (tgt := 260) hx hb d_M_make_256 rfl ?_
                            have J260 : ∀  (ls : Array Slot), lv_has ls 8 [(0, .ref (ad 0)), (3, .int (nI i))] → W p l e (jr 2) s m args below meth c H locs 0 0 Q (F0 m 260 ls [.int (jm_mb v (jm_under (jm_mk0 u i) nav)), .int (nI i), .ref (ad 13)]) := by
                              intro  ls hl
                              refine jmi_zst hc hh 12 (by decide) (by decide) hi jm_mb_z d_M_make_260 (fun H locs hh => ?_)
                              refine lv_aload_n hx hb d_M_make_261 rfl (lv_at hl 0 rfl) ?_
                              refine jg_M hc hh 11 (by decide) rfl wf_M_44 d_M_make_262 ?_
                              refine lv_iload_n hx hb d_M_make_265 rfl (lv_at hl 1 rfl) ?_
                              refine lv_aload_n hx hb d_M_make_266 rfl (lv_at hl 0 rfl) ?_
                              refine jg_M hc hh 12 (by decide) rfl wf_M_47 d_M_make_267 ?_
                              refine lv_iload_n hx hb d_M_make_270 rfl (lv_at hl 1 rfl) ?_
                              refine jmi_zld hc hh 12 (by decide) (by decide) hi d_M_make_271 ?_
                              refine lv_if_eq (tgt := 282) hx hb d_M_make_272 rfl (fun h272 => ?_) (fun h272 => ?_)
                              ·
                                refine lv_aload_n hx hb d_M_make_282 rfl (lv_at hl 0 rfl) ?_
                                refine jg_M hc hh 25 (by decide) rfl wf_M_93 d_M_make_283 ?_
                                refine lv_bipush (v := 64) hx hb d_M_make_286 (by decide) ?_
                                refine lv_idiv hx hb d_M_make_288 (by decide) ?_
                                refine jmi_ist hc hh 11 (by decide) (by decide) hi d_M_make_289 (fun H locs hh => ?_)
                                refine lv_iload_n hx hb d_M_make_290 rfl (lv_at hl 1 rfl) ?_
                                exact jx_iret (r := nI i) hc hh hQ hlk hr rfl rfl ⟨by rw [← hf], by rw [hmk]; simp [jm_mk1, jm_mkC, jm_opq, h208, h272]⟩ d_M_make_291
                              refine lv_aload_n hx hb d_M_make_275 rfl (lv_at hl 0 rfl) ?_
                              refine jx_callV [] [.int (nI i), .ref (ad 12)] hc hh (m_freshOrigin l D aK ad cA (js_up v 12 i (jm_mb v (jm_under (jm_mk0 u i) nav)))) wy_M_96 ⟨by decide, rfl, rfl⟩ (by decide) rfl hl.1 rfl (by simp [vc_int, vc_ref, vc_long, jv_cat]) ⟨Nat.zero_le _, Nat.zero_le _⟩ d_M_make_276 (fun r u9 H locs hp hh _ _ => ?_)
                              rw [hp.2] at hh
                              refine W.eq (g2 := F0 m 279 ls [.int (3 + ((js_up v 12 i (jm_mb v (jm_under (jm_mk0 u i) nav))) 22 0 + 1)), .int (nI i), .ref (ad 12)]) (by rw [hp.1]; rfl) ?_
                              refine lv_goto (tgt := 289) hx hb d_M_make_279 rfl ?_
                              refine jmi_ist hc hh 11 (by decide) (by decide) hi d_M_make_289 (fun H locs hh => ?_)
                              refine lv_iload_n hx hb d_M_make_290 rfl (lv_at hl 1 rfl) ?_
                              exact jx_iret (r := nI i) hc hh hQ hlk hr rfl rfl ⟨by rw [← hf], by rw [hmk]; simp [jm_mk1, jm_mkC, jm_opq, h208, h272]⟩ d_M_make_291
                            have e15 : (jm_mb v (jm_under (jm_mk0 u i) nav)) = 1 := by first | (simp [jm_mb, h208, h237, h252]; done) | (simp [jm_mb, eq_true h208, eq_true h237, h252]; done)
                            refine W.eq (g2 := F0 m 260 ls [.int (jm_mb v (jm_under (jm_mk0 u i) nav)), .int (nI i), .ref (ad 13)]) (by first | (rw [e15]; done) | (rw [e15]; rfl)) ?_
                            refine J260 _ ?_
                            exact lv_sub hl [0, 1] rfl
                          refine lv_aload_n hx hb d_M_make_211 rfl (lv_at hl 0 rfl) ?_
                          refine jg_M hc hh 12 (by decide) rfl wf_M_47 d_M_make_212 ?_
                          refine lv_iload_n hx hb d_M_make_215 rfl (lv_at hl 1 rfl) ?_
                          refine lv_iconst (v := 0) hx hb d_M_make_216 (by decide) ?_
                          refine jmi_zst hc hh 12 (by decide) (by decide) hi (by decide) d_M_make_217 (fun H locs hh => ?_)
                          refine lv_aload_n hx hb d_M_make_218 rfl (lv_at hl 0 rfl) ?_
                          refine jg_M hc hh 11 (by decide) rfl wf_M_44 d_M_make_219 ?_
                          refine lv_iload_n hx hb d_M_make_222 rfl (lv_at hl 1 rfl) ?_
                          refine lv_aload_n hx hb d_M_make_223 rfl (lv_at hl 0 rfl) ?_
                          refine jx_callV [] [.int (nI i), .ref (ad 12)] hc hh (m_freshOrigin l D aK ad cA (js_up v 12 i 0)) wy_M_96 ⟨by decide, rfl, rfl⟩ (by decide) rfl hl.1 rfl (by simp [vc_int, vc_ref, vc_long, jv_cat]) ⟨Nat.zero_le _, Nat.zero_le _⟩ d_M_make_224 (fun r u9 H locs hp hh _ _ => ?_)
                          rw [hp.2] at hh
                          refine W.eq (g2 := F0 m 227 ls [.int (3 + ((js_up v 12 i 0) 22 0 + 1)), .int (nI i), .ref (ad 12)]) (by rw [hp.1]; rfl) ?_
                          refine jmi_ist hc hh 11 (by decide) (by decide) hi d_M_make_227 (fun H locs hh => ?_)
                          refine lv_iload_n hx hb d_M_make_228 rfl (lv_at hl 1 rfl) ?_
                          exact jx_iret (r := nI i) hc hh hQ hlk hr rfl rfl ⟨by rw [← hf], by rw [hmk]; simp [jm_mk1, jm_opq, h208]⟩ d_M_make_229
                        refine J196 v _ _ _ hlv (by rw [jm_make_i hf]; unfold jm_mkB; rw [if_neg h89, ← hfv]; first | rfl | simp [jm_fd, h146]) ?_ ?_
                        ·
                          exact hh
                        exact lv_sub hl [0, 3, 4] rfl
                      refine lv_aload_n hx hb d_M_make_149 rfl (lv_at hl 0 rfl) ?_
                      refine jg_M hc hh 1 (by decide) rfl wf_M_13 d_M_make_150 ?_
                      refine lv_aload_n hx hb d_M_make_153 rfl (lv_at hl 0 rfl) ?_
                      refine jg_M hc hh 25 (by decide) rfl wf_M_93 d_M_make_154 ?_
                      refine lv_bipush (v := 8) hx hb d_M_make_157 (by decide) ?_
                      refine lv_idiv hx hb d_M_make_159 (by decide) ?_
                      refine jm_ild hc hh 1 (by decide) (by decide) (js_pgn hlv) d_M_make_160 ?_
                      refine lv_istore (i := 7) (lv' := [(7, .int (v 1 (ix ((v 25 0) / 8)))), (0, .ref (ad 0)), (1, .int nav), (2, .int url), (3, .int (nI i)), (5, .int (jm_under (jm_mk0 u i) nav)), (6, .int (nI k9))]) hx hb d_M_make_161 hl (by decide) rfl (fun ls hl => ?_)
                      refine lv_aload_n hx hb d_M_make_163 rfl (lv_at hl 1 rfl) ?_
                      refine lv_iload hx hb d_M_make_164 (lv_at hl 0 rfl) ?_
                      refine lv_bipush (v := 8) hx hb d_M_make_166 (by decide) ?_
                      refine lv_irem hx hb d_M_make_168 (by decide) ?_
                      refine lv_if_ne (tgt := 185) hx hb d_M_make_169 rfl (fun h169 => ?_) (fun h169 => ?_)
                      ·
                        refine lv_iload hx hb d_M_make_185 (lv_at hl 0 rfl) ?_
                        refine jpm_25 hc hh wf_M_93 d_M_make_187 (fun H locs hh => ?_)
                        refine lv_iinc (k := 6) (v := nI (k9 + 1)) (lv' := [(6, .int (nI (k9 + 1))), (7, .int (v 1 (ix ((v 25 0) / 8)))), (0, .ref (ad 0)), (1, .int nav), (2, .int url), (3, .int (nI i)), (5, .int (jm_under (jm_mk0 u i) nav))]) hx hb d_M_make_190 hl rfl (nI_1 k9) (by decide) rfl (fun ls hl => ?_)
                        refine lv_goto (tgt := 127) hx hb d_M_make_193 rfl ?_
                        refine ih (js_up v 25 0 (v 1 (ix ((v 25 0) / 8)))) (k9 + 1) _ _ _ (by omega) (jm_Sh_25 hSv) (by rw [js_up_s]; have q9 := jm_led hSv hlv h146; simpa [h169] using q9) (by rw [← hfv]; simp [jm_fd, h146, h169]) ?_ ?_
                        ·
                          exact hh
                        exact lv_sub hl [2, 3, 4, 5, 6, 0] rfl
                      refine lv_iload hx hb d_M_make_172 (lv_at hl 0 rfl) ?_
                      refine lv_aload_n hx hb d_M_make_174 rfl (lv_at hl 1 rfl) ?_
                      refine jg_M hc hh 25 (by decide) rfl wf_M_93 d_M_make_175 ?_
                      refine lv_bipush (v := 8) hx hb d_M_make_178 (by decide) ?_
                      refine lv_irem hx hb d_M_make_180 (by decide) ?_
                      refine lv_iadd hx hb d_M_make_181 ?_
                      refine lv_goto (tgt := 187) hx hb d_M_make_182 rfl ?_
                      refine jpm_25 hc hh wf_M_93 d_M_make_187 (fun H locs hh => ?_)
                      refine lv_iinc (k := 6) (v := nI (k9 + 1)) (lv' := [(6, .int (nI (k9 + 1))), (7, .int (v 1 (ix ((v 25 0) / 8)))), (0, .ref (ad 0)), (1, .int nav), (2, .int url), (3, .int (nI i)), (5, .int (jm_under (jm_mk0 u i) nav))]) hx hb d_M_make_190 hl rfl (nI_1 k9) (by decide) rfl (fun ls hl => ?_)
                      refine lv_goto (tgt := 127) hx hb d_M_make_193 rfl ?_
                      refine ih (js_up v 25 0 ((v 1 (ix ((v 25 0) / 8))) + ((v 25 0) - (v 25 0) / 8 * 8))) (k9 + 1) _ _ _ (by omega) (jm_Sh_25 hSv) (by rw [js_up_s]; have q9 := jm_led hSv hlv h146; simpa [h169] using q9) (by rw [← hfv]; simp [jm_fd, h146, h169]) ?_ ?_
                      ·
                        exact hh
                      exact lv_sub hl [2, 3, 4, 5, 6, 0] rfl
                  have e16 : nI 0 = 0 := rfl
                  refine L127 4 (jm_mkS (jm_mk0 u i) i url (jm_under (jm_mk0 u i) nav)) 0 _ _ _ (by omega) (jm_Sh_mkS (jm_Sh_mk0 hS)) (by rw [jm_mkS_25]; exact jq_ne hu h89) rfl ?_ ?_
                  ·
                    try rw [e16]
                    exact hh
                  try rw [e16]
                  exact lv_sub hl [1, 2, 3, 4, 6, 0] rfl
                refine lv_aload_n hx hb d_M_make_92 rfl (lv_at hl 0 rfl) ?_
                refine jg_M hc hh 11 (by decide) rfl wf_M_44 d_M_make_93 ?_
                refine lv_iload_n hx hb d_M_make_96 rfl (lv_at hl 3 rfl) ?_
                refine lv_iload hx hb d_M_make_97 (lv_at hl 4 rfl) ?_
                refine lv_if_lt (tgt := 117) hx hb d_M_make_99 rfl (fun h99 => ?_) (fun h99 => ?_)
                ·
                  refine lv_aload_n hx hb d_M_make_117 rfl (lv_at hl 0 rfl) ?_
                  refine jx_callV [] [.int (nI i), .ref (ad 12)] hc hh (m_freshOrigin l D aK ad cA (jm_mkS (jm_mk0 u i) i url (jm_under (jm_mk0 u i) nav))) wy_M_96 ⟨by decide, rfl, rfl⟩ (by decide) rfl hl.1 rfl (by simp [vc_int, vc_ref, vc_long, jv_cat]) ⟨Nat.zero_le _, Nat.zero_le _⟩ d_M_make_118 (fun r u9 H locs hp hh _ _ => ?_)
                  rw [hp.2] at hh
                  refine W.eq (g2 := F0 m 121 ls [.int (3 + ((jm_mkS (jm_mk0 u i) i url (jm_under (jm_mk0 u i) nav)) 22 0 + 1)), .int (nI i), .ref (ad 12)]) (by rw [hp.1]; rfl) ?_
                  refine jmi_ist hc hh 11 (by decide) (by decide) hi d_M_make_121 (fun H locs hh => ?_)
                  refine lv_iload_n hx hb d_M_make_122 rfl (lv_at hl 3 rfl) ?_
                  exact jx_iret (r := nI i) hc hh hQ hlk hr rfl rfl ⟨by rw [← hf], by rw [jm_make_i hf]; simp [jm_mkB, jm_mkA, jm_opq, h89, h99]⟩ d_M_make_123
                refine lv_iload hx hb d_M_make_102 (lv_at hl 5 rfl) ?_
                refine lv_if_ne (tgt := 117) hx hb d_M_make_104 rfl (fun h104 => ?_) (fun h104 => ?_)
                ·
                  refine lv_aload_n hx hb d_M_make_117 rfl (lv_at hl 0 rfl) ?_
                  refine jx_callV [] [.int (nI i), .ref (ad 12)] hc hh (m_freshOrigin l D aK ad cA (jm_mkS (jm_mk0 u i) i url (jm_under (jm_mk0 u i) nav))) wy_M_96 ⟨by decide, rfl, rfl⟩ (by decide) rfl hl.1 rfl (by simp [vc_int, vc_ref, vc_long, jv_cat]) ⟨Nat.zero_le _, Nat.zero_le _⟩ d_M_make_118 (fun r u9 H locs hp hh _ _ => ?_)
                  rw [hp.2] at hh
                  refine W.eq (g2 := F0 m 121 ls [.int (3 + ((jm_mkS (jm_mk0 u i) i url (jm_under (jm_mk0 u i) nav)) 22 0 + 1)), .int (nI i), .ref (ad 12)]) (by rw [hp.1]; rfl) ?_
                  refine jmi_ist hc hh 11 (by decide) (by decide) hi d_M_make_121 (fun H locs hh => ?_)
                  refine lv_iload_n hx hb d_M_make_122 rfl (lv_at hl 3 rfl) ?_
                  exact jx_iret (r := nI i) hc hh hQ hlk hr rfl rfl ⟨by rw [← hf], by rw [jm_make_i hf]; simp [jm_mkB, jm_mkA, jm_opq, h89, h99, h104]⟩ d_M_make_123
                refine lv_aload_n hx hb d_M_make_107 rfl (lv_at hl 0 rfl) ?_
                refine jg_M hc hh 11 (by decide) rfl wf_M_44 d_M_make_108 ?_
                refine lv_iload hx hb d_M_make_111 (lv_at hl 4 rfl) ?_
                refine jm_ild hc hh 11 (by decide) (by decide) (jq_nn (jm_Sax (jm_Sh_mk0 hS) h_nav) h99) d_M_make_113 ?_
                refine lv_goto (tgt := 121) hx hb d_M_make_114 rfl ?_
                refine jmi_ist hc hh 11 (by decide) (by decide) hi d_M_make_121 (fun H locs hh => ?_)
                refine lv_iload_n hx hb d_M_make_122 rfl (lv_at hl 3 rfl) ?_
                exact jx_iret (r := nI i) hc hh hQ hlk hr rfl rfl ⟨by rw [← hf], by rw [jm_make_i hf]; simp [jm_mkB, jm_mkA, jm_opq, h89, h99, h104]⟩ d_M_make_123
              have e17 : (jm_mkS (jm_mk0 u i) i url (jm_under (jm_mk0 u i) nav)) = (js_up (js_up (jm_mk0 u i) 25 0 url) 12 i (jm_under (jm_mk0 u i) nav)) := rfl
              refine J87 _ _ _ ?_ ?_
              ·
                try rw [e17]
                exact hh
              try rw [e17]
              exact lv_sub hl [1, 2, 3, 4, 5, 0] rfl
            have e18 : (jm_under (jm_mk0 u i) nav) = 0 := by first | (simp [jm_under, h54, h64]; done) | (simp [jm_under, h54, eq_true h64]; done)
            refine W.eq (g2 := F0 m 72 ls [.int (jm_under (jm_mk0 u i) nav)]) (by first | (rw [e18]; done) | (rw [e18]; rfl)) ?_
            refine J72 _ ?_
            exact lv_sub hl [1, 2, 3, 4, 0] rfl
          refine lv_iconst (v := 1) hx hb d_M_make_67 (by decide) ?_
          refine lv_goto (tgt := 72) hx hb d_M_make_68 rfl ?_
          have J72 : ∀  (ls : Array Slot), lv_has ls 8 [(0, .ref (ad 0)), (1, .int nav), (2, .int url), (3, .int (nI i)), (4, .int ((jm_mk0 u i) 16 (ix nav)))] → W p l e (jr 2) s m args below meth c H locs 0 0 Q (F0 m 72 ls [.int (jm_under (jm_mk0 u i) nav)]) := by
            intro  ls hl
            refine lv_istore (i := 5) (lv' := [(5, .int (jm_under (jm_mk0 u i) nav)), (0, .ref (ad 0)), (1, .int nav), (2, .int url), (3, .int (nI i)), (4, .int ((jm_mk0 u i) 16 (ix nav)))]) hx hb d_M_make_72 hl (by decide) rfl (fun ls hl => ?_)
            refine lv_aload_n hx hb d_M_make_74 rfl (lv_at hl 1 rfl) ?_
            refine lv_iload_n hx hb d_M_make_75 rfl (lv_at hl 3 rfl) ?_
            refine jpm_25 hc hh wf_M_93 d_M_make_76 (fun H locs hh => ?_)
            refine lv_aload_n hx hb d_M_make_79 rfl (lv_at hl 1 rfl) ?_
            refine jg_M hc hh 12 (by decide) rfl wf_M_47 d_M_make_80 ?_
            refine lv_iload_n hx hb d_M_make_83 rfl (lv_at hl 4 rfl) ?_
            refine lv_iload hx hb d_M_make_84 (lv_at hl 0 rfl) ?_
            refine jmi_zst hc hh 12 (by decide) (by decide) hi jm_under_z d_M_make_86 (fun H locs hh => ?_)
            have J87 : ∀  (H : Heap) (locs : List Loc) (ls : Array Slot), jx_H D 22 ad (jm_cell ad cA (jm_mkS (jm_mk0 u i) i url (jm_under (jm_mk0 u i) nav))) A s.heap H locs → lv_has ls 8 [(0, .ref (ad 0)), (1, .int nav), (2, .int url), (3, .int (nI i)), (4, .int ((jm_mk0 u i) 16 (ix nav))), (5, .int (jm_under (jm_mk0 u i) nav))] → W p l e (jr 2) s m args below meth c H locs 0 0 Q (F0 m 87 ls []) := by
              intro  H locs ls hh hl
              refine lv_iload_n hx hb d_M_make_87 rfl (lv_at hl 2 rfl) ?_
              refine lv_iconst (v := -1) hx hb d_M_make_88 (by decide) ?_
              refine lv_icmp_ne (tgt := 124) hx hb d_M_make_89 rfl (fun h89 => ?_) (fun h89 => ?_)
              ·
                refine lv_iconst (v := 0) hx hb d_M_make_124 (by decide) ?_
                refine lv_istore (i := 6) (lv' := [(6, .int 0), (0, .ref (ad 0)), (1, .int nav), (2, .int url), (3, .int (nI i)), (4, .int ((jm_mk0 u i) 16 (ix nav))), (5, .int (jm_under (jm_mk0 u i) nav))]) hx hb d_M_make_125 hl (by decide) rfl (fun ls hl => ?_)
                have L127 : ∀ (n : Nat) (v : js_S) (k9 : Nat) (H : Heap) (locs : List Loc) (ls : Array Slot), k9 + n = 4 → (jm_Sh v) → (∃ j, j < 256 ∧ v 25 0 = nI j) → (jm_fd v n = jm_fd (jm_mkS (jm_mk0 u i) i url (jm_under (jm_mk0 u i) nav)) 4) → jx_H D 22 ad (jm_cell ad cA v) A s.heap H locs → lv_has ls 8 [(0, .ref (ad 0)), (1, .int nav), (2, .int url), (3, .int (nI i)), (5, .int (jm_under (jm_mk0 u i) nav)), (6, .int (nI k9))] → W p l e (jr 2) s m args below meth c H locs 0 0 Q (F0 m 127 ls []) := by
                  intro n
                  induction n with
                  | zero =>
                    intro v k9 H locs ls hm hSv hlv hfv hh hl
                    refine lv_iload hx hb d_M_make_127 (lv_at hl 5 rfl) ?_
                    refine lv_iconst (v := 4) hx hb d_M_make_129 (by decide) ?_
                    refine lv_icmp_ge (tgt := 196) hx hb d_M_make_130 rfl (fun h130 => ?_) (fun hq => absurd (nI_le (show 4 ≤ k9 by omega) (show k9 < 2 ^ 31 by omega)) hq)
                    have J196 : ∀ (v : js_S) (H : Heap) (locs : List Loc) (ls : Array Slot), (∃ j, j < 256 ∧ v 25 0 = nI j) → (jm_make u nav url = jm_mk1 v i (jm_under (jm_mk0 u i) nav)) → jx_H D 22 ad (jm_cell ad cA v) A s.heap H locs → lv_has ls 8 [(0, .ref (ad 0)), (3, .int (nI i)), (5, .int (jm_under (jm_mk0 u i) nav))] → W p l e (jr 2) s m args below meth c H locs 0 0 Q (F0 m 196 ls []) := by
                      intro v H locs ls hlv hmk hh hl
                      refine lv_aload_n hx hb d_M_make_196 rfl (lv_at hl 0 rfl) ?_
                      refine jg_M hc hh 0 (by decide) rfl wf_M_7 d_M_make_197 ?_
                      refine lv_aload_n hx hb d_M_make_200 rfl (lv_at hl 0 rfl) ?_
                      refine jg_M hc hh 25 (by decide) rfl wf_M_93 d_M_make_201 ?_
                      refine lv_bipush (v := 8) hx hb d_M_make_204 (by decide) ?_
                      refine lv_idiv hx hb d_M_make_206 (by decide) ?_
                      refine jm_ild hc hh 0 (by decide) (by decide) (js_pgn hlv) d_M_make_207 ?_
                      refine lv_if_eq (tgt := 230) hx hb d_M_make_208 rfl (fun h208 => ?_) (fun h208 => ?_)
                      ·
                        refine lv_aload_n hx hb d_M_make_230 rfl (lv_at hl 0 rfl) ?_
                        refine jg_M hc hh 12 (by decide) rfl wf_M_47 d_M_make_231 ?_
                        refine lv_iload_n hx hb d_M_make_234 rfl (lv_at hl 1 rfl) ?_
                        refine lv_iload hx hb d_M_make_235 (lv_at hl 2 rfl) ?_
                        refine lv_if_ne (tgt := 255) hx hb d_M_make_237 rfl (fun h237 => ?_) (fun h237 => ?_)
                        ·
                          refine lv_iconst (v := 1) hx hb d_M_make_255 (by decide) ?_
                          refine lv_goto (tgt := 260) hx hb d_M_make_256 rfl ?_
                          have J260 : ∀  (ls : Array Slot), lv_has ls 8 [(0, .ref (ad 0)), (3, .int (nI i))] → W p l e (jr 2) s m args below meth c H locs 0 0 Q (F0 m 260 ls [.int (jm_mb v (jm_under (jm_mk0 u i) nav)), .int (nI i), .ref (ad 13)]) := by
                            intro  ls hl
                            refine jmi_zst hc hh 12 (by decide) (by decide) hi jm_mb_z d_M_make_260 (fun H locs hh => ?_)
                            refine lv_aload_n hx hb d_M_make_261 rfl (lv_at hl 0 rfl) ?_
                            refine jg_M hc hh 11 (by decide) rfl wf_M_44 d_M_make_262 ?_
                            refine lv_iload_n hx hb d_M_make_265 rfl (lv_at hl 1 rfl) ?_
                            refine lv_aload_n hx hb d_M_make_266 rfl (lv_at hl 0 rfl) ?_
                            refine jg_M hc hh 12 (by decide) rfl wf_M_47 d_M_make_267 ?_
                            refine lv_iload_n hx hb d_M_make_270 rfl (lv_at hl 1 rfl) ?_
                            refine jmi_zld hc hh 12 (by decide) (by decide) hi d_M_make_271 ?_
                            refine lv_if_eq (tgt := 282) hx hb d_M_make_272 rfl (fun h272 => ?_) (fun h272 => ?_)
                            ·
                              refine lv_aload_n hx hb d_M_make_282 rfl (lv_at hl 0 rfl) ?_
                              refine jg_M hc hh 25 (by decide) rfl wf_M_93 d_M_make_283 ?_
                              refine lv_bipush (v := 64) hx hb d_M_make_286 (by decide) ?_
                              refine lv_idiv hx hb d_M_make_288 (by decide) ?_
                              refine jmi_ist hc hh 11 (by decide) (by decide) hi d_M_make_289 (fun H locs hh => ?_)
                              refine lv_iload_n hx hb d_M_make_290 rfl (lv_at hl 1 rfl) ?_
                              exact jx_iret (r := nI i) hc hh hQ hlk hr rfl rfl ⟨by rw [← hf], by rw [hmk]; simp [jm_mk1, jm_mkC, jm_opq, h208, h272]⟩ d_M_make_291
                            refine lv_aload_n hx hb d_M_make_275 rfl (lv_at hl 0 rfl) ?_
                            refine jx_callV [] [.int (nI i), .ref (ad 12)] hc hh (m_freshOrigin l D aK ad cA (js_up v 12 i (jm_mb v (jm_under (jm_mk0 u i) nav)))) wy_M_96 ⟨by decide, rfl, rfl⟩ (by decide) rfl hl.1 rfl (by simp [vc_int, vc_ref, vc_long, jv_cat]) ⟨Nat.zero_le _, Nat.zero_le _⟩ d_M_make_276 (fun r u9 H locs hp hh _ _ => ?_)
                            rw [hp.2] at hh
                            refine W.eq (g2 := F0 m 279 ls [.int (3 + ((js_up v 12 i (jm_mb v (jm_under (jm_mk0 u i) nav))) 22 0 + 1)), .int (nI i), .ref (ad 12)]) (by rw [hp.1]; rfl) ?_
                            refine lv_goto (tgt := 289) hx hb d_M_make_279 rfl ?_
                            refine jmi_ist hc hh 11 (by decide) (by decide) hi d_M_make_289 (fun H locs hh => ?_)
                            refine lv_iload_n hx hb d_M_make_290 rfl (lv_at hl 1 rfl) ?_
                            exact jx_iret (r := nI i) hc hh hQ hlk hr rfl rfl ⟨by rw [← hf], by rw [hmk]; simp [jm_mk1, jm_mkC, jm_opq, h208, h272]⟩ d_M_make_291
                          have e19 : (jm_mb v (jm_under (jm_mk0 u i) nav)) = 1 := by first | (simp [jm_mb, h208, h237]; done) | (simp [jm_mb, eq_true h208, h237]; done)
                          refine W.eq (g2 := F0 m 260 ls [.int (jm_mb v (jm_under (jm_mk0 u i) nav)), .int (nI i), .ref (ad 13)]) (by first | (rw [e19]; done) | (rw [e19]; rfl)) ?_
                          refine J260 _ ?_
                          exact lv_sub hl [0, 1] rfl
                        refine lv_aload_n hx hb d_M_make_240 rfl (lv_at hl 0 rfl) ?_
                        refine jg_M hc hh 3 (by decide) rfl wf_M_19 d_M_make_241 ?_
                        refine lv_aload_n hx hb d_M_make_244 rfl (lv_at hl 0 rfl) ?_
                        refine jg_M hc hh 25 (by decide) rfl wf_M_93 d_M_make_245 ?_
                        refine lv_bipush (v := 8) hx hb d_M_make_248 (by decide) ?_
                        refine lv_idiv hx hb d_M_make_250 (by decide) ?_
                        refine jm_zld hc hh 3 (by decide) (by decide) (js_pgn hlv) d_M_make_251 ?_
                        refine lv_if_eq (tgt := 259) hx hb d_M_make_252 rfl (fun h252 => ?_) (fun h252 => ?_)
                        ·
                          refine lv_iconst (v := 0) hx hb d_M_make_259 (by decide) ?_
                          have J260 : ∀  (ls : Array Slot), lv_has ls 8 [(0, .ref (ad 0)), (3, .int (nI i))] → W p l e (jr 2) s m args below meth c H locs 0 0 Q (F0 m 260 ls [.int (jm_mb v (jm_under (jm_mk0 u i) nav)), .int (nI i), .ref (ad 13)]) := by
                            intro  ls hl
                            refine jmi_zst hc hh 12 (by decide) (by decide) hi jm_mb_z d_M_make_260 (fun H locs hh => ?_)
                            refine lv_aload_n hx hb d_M_make_261 rfl (lv_at hl 0 rfl) ?_
                            refine jg_M hc hh 11 (by decide) rfl wf_M_44 d_M_make_262 ?_
                            refine lv_iload_n hx hb d_M_make_265 rfl (lv_at hl 1 rfl) ?_
                            refine lv_aload_n hx hb d_M_make_266 rfl (lv_at hl 0 rfl) ?_
                            refine jg_M hc hh 12 (by decide) rfl wf_M_47 d_M_make_267 ?_
                            refine lv_iload_n hx hb d_M_make_270 rfl (lv_at hl 1 rfl) ?_
                            refine jmi_zld hc hh 12 (by decide) (by decide) hi d_M_make_271 ?_
                            refine lv_if_eq (tgt := 282) hx hb d_M_make_272 rfl (fun h272 => ?_) (fun h272 => ?_)
                            ·
                              refine lv_aload_n hx hb d_M_make_282 rfl (lv_at hl 0 rfl) ?_
                              refine jg_M hc hh 25 (by decide) rfl wf_M_93 d_M_make_283 ?_
                              refine lv_bipush (v := 64) hx hb d_M_make_286 (by decide) ?_
                              refine lv_idiv hx hb d_M_make_288 (by decide) ?_
                              refine jmi_ist hc hh 11 (by decide) (by decide) hi d_M_make_289 (fun H locs hh => ?_)
                              refine lv_iload_n hx hb d_M_make_290 rfl (lv_at hl 1 rfl) ?_
                              exact jx_iret (r := nI i) hc hh hQ hlk hr rfl rfl ⟨by rw [← hf], by rw [hmk]; simp [jm_mk1, jm_mkC, jm_opq, h208, h272]⟩ d_M_make_291
                            refine lv_aload_n hx hb d_M_make_275 rfl (lv_at hl 0 rfl) ?_
                            refine jx_callV [] [.int (nI i), .ref (ad 12)] hc hh (m_freshOrigin l D aK ad cA (js_up v 12 i (jm_mb v (jm_under (jm_mk0 u i) nav)))) wy_M_96 ⟨by decide, rfl, rfl⟩ (by decide) rfl hl.1 rfl (by simp [vc_int, vc_ref, vc_long, jv_cat]) ⟨Nat.zero_le _, Nat.zero_le _⟩ d_M_make_276 (fun r u9 H locs hp hh _ _ => ?_)
                            rw [hp.2] at hh
                            refine W.eq (g2 := F0 m 279 ls [.int (3 + ((js_up v 12 i (jm_mb v (jm_under (jm_mk0 u i) nav))) 22 0 + 1)), .int (nI i), .ref (ad 12)]) (by rw [hp.1]; rfl) ?_
                            refine lv_goto (tgt := 289) hx hb d_M_make_279 rfl ?_
                            refine jmi_ist hc hh 11 (by decide) (by decide) hi d_M_make_289 (fun H locs hh => ?_)
                            refine lv_iload_n hx hb d_M_make_290 rfl (lv_at hl 1 rfl) ?_
                            exact jx_iret (r := nI i) hc hh hQ hlk hr rfl rfl ⟨by rw [← hf], by rw [hmk]; simp [jm_mk1, jm_mkC, jm_opq, h208, h272]⟩ d_M_make_291
                          have e20 : (jm_mb v (jm_under (jm_mk0 u i) nav)) = 0 := by first | (simp [jm_mb, h208, h237, h252]; done) | (simp [jm_mb, eq_true h208, eq_true h237, eq_true h252]; done)
                          refine W.eq (g2 := F0 m 260 ls [.int (jm_mb v (jm_under (jm_mk0 u i) nav)), .int (nI i), .ref (ad 13)]) (by first | (rw [e20]; done) | (rw [e20]; rfl)) ?_
                          refine J260 _ ?_
                          exact lv_sub hl [0, 1] rfl
                        refine lv_iconst (v := 1) hx hb d_M_make_255 (by decide) ?_
                        refine lv_goto (tgt := 260) hx hb d_M_make_256 rfl ?_
                        have J260 : ∀  (ls : Array Slot), lv_has ls 8 [(0, .ref (ad 0)), (3, .int (nI i))] → W p l e (jr 2) s m args below meth c H locs 0 0 Q (F0 m 260 ls [.int (jm_mb v (jm_under (jm_mk0 u i) nav)), .int (nI i), .ref (ad 13)]) := by
                          intro  ls hl
                          refine jmi_zst hc hh 12 (by decide) (by decide) hi jm_mb_z d_M_make_260 (fun H locs hh => ?_)
                          refine lv_aload_n hx hb d_M_make_261 rfl (lv_at hl 0 rfl) ?_
                          refine jg_M hc hh 11 (by decide) rfl wf_M_44 d_M_make_262 ?_
                          refine lv_iload_n hx hb d_M_make_265 rfl (lv_at hl 1 rfl) ?_
                          refine lv_aload_n hx hb d_M_make_266 rfl (lv_at hl 0 rfl) ?_
                          refine jg_M hc hh 12 (by decide) rfl wf_M_47 d_M_make_267 ?_
                          refine lv_iload_n hx hb d_M_make_270 rfl (lv_at hl 1 rfl) ?_
                          refine jmi_zld hc hh 12 (by decide) (by decide) hi d_M_make_271 ?_
                          refine lv_if_eq (tgt := 282) hx hb d_M_make_272 rfl (fun h272 => ?_) (fun h272 => ?_)
                          ·
                            refine lv_aload_n hx hb d_M_make_282 rfl (lv_at hl 0 rfl) ?_
                            refine jg_M hc hh 25 (by decide) rfl wf_M_93 d_M_make_283 ?_
                            refine lv_bipush (v := 64) hx hb d_M_make_286 (by decide) ?_
                            refine lv_idiv hx hb d_M_make_288 (by decide) ?_
                            refine jmi_ist hc hh 11 (by decide) (by decide) hi d_M_make_289 (fun H locs hh => ?_)
                            refine lv_iload_n hx hb d_M_make_290 rfl (lv_at hl 1 rfl) ?_
                            exact jx_iret (r := nI i) hc hh hQ hlk hr rfl rfl ⟨by rw [← hf], by rw [hmk]; simp [jm_mk1, jm_mkC, jm_opq, h208, h272]⟩ d_M_make_291
                          refine lv_aload_n hx hb d_M_make_275 rfl (lv_at hl 0 rfl) ?_
                          refine jx_callV [] [.int (nI i), .ref (ad 12)] hc hh (m_freshOrigin l D aK ad cA (js_up v 12 i (jm_mb v (jm_under (jm_mk0 u i) nav)))) wy_M_96 ⟨by decide, rfl, rfl⟩ (by decide) rfl hl.1 rfl (by simp [vc_int, vc_ref, vc_long, jv_cat]) ⟨Nat.zero_le _, Nat.zero_le _⟩ d_M_make_276 (fun r u9 H locs hp hh _ _ => ?_)
                          rw [hp.2] at hh
                          refine W.eq (g2 := F0 m 279 ls [.int (3 + ((js_up v 12 i (jm_mb v (jm_under (jm_mk0 u i) nav))) 22 0 + 1)), .int (nI i), .ref (ad 12)]) (by rw [hp.1]; rfl) ?_
                          refine lv_goto (tgt := 289) hx hb d_M_make_279 rfl ?_
                          refine jmi_ist hc hh 11 (by decide) (by decide) hi d_M_make_289 (fun H locs hh => ?_)
                          refine lv_iload_n hx hb d_M_make_290 rfl (lv_at hl 1 rfl) ?_
                          exact jx_iret (r := nI i) hc hh hQ hlk hr rfl rfl ⟨by rw [← hf], by rw [hmk]; simp [jm_mk1, jm_mkC, jm_opq, h208, h272]⟩ d_M_make_291
                        have e21 : (jm_mb v (jm_under (jm_mk0 u i) nav)) = 1 := by first | (simp [jm_mb, h208, h237, h252]; done) | (simp [jm_mb, eq_true h208, eq_true h237, h252]; done)
                        refine W.eq (g2 := F0 m 260 ls [.int (jm_mb v (jm_under (jm_mk0 u i) nav)), .int (nI i), .ref (ad 13)]) (by first | (rw [e21]; done) | (rw [e21]; rfl)) ?_
                        refine J260 _ ?_
                        exact lv_sub hl [0, 1] rfl
                      refine lv_aload_n hx hb d_M_make_211 rfl (lv_at hl 0 rfl) ?_
                      refine jg_M hc hh 12 (by decide) rfl wf_M_47 d_M_make_212 ?_
                      refine lv_iload_n hx hb d_M_make_215 rfl (lv_at hl 1 rfl) ?_
                      refine lv_iconst (v := 0) hx hb d_M_make_216 (by decide) ?_
                      refine jmi_zst hc hh 12 (by decide) (by decide) hi (by decide) d_M_make_217 (fun H locs hh => ?_)
                      refine lv_aload_n hx hb d_M_make_218 rfl (lv_at hl 0 rfl) ?_
                      refine jg_M hc hh 11 (by decide) rfl wf_M_44 d_M_make_219 ?_
                      refine lv_iload_n hx hb d_M_make_222 rfl (lv_at hl 1 rfl) ?_
                      refine lv_aload_n hx hb d_M_make_223 rfl (lv_at hl 0 rfl) ?_
                      refine jx_callV [] [.int (nI i), .ref (ad 12)] hc hh (m_freshOrigin l D aK ad cA (js_up v 12 i 0)) wy_M_96 ⟨by decide, rfl, rfl⟩ (by decide) rfl hl.1 rfl (by simp [vc_int, vc_ref, vc_long, jv_cat]) ⟨Nat.zero_le _, Nat.zero_le _⟩ d_M_make_224 (fun r u9 H locs hp hh _ _ => ?_)
                      rw [hp.2] at hh
                      refine W.eq (g2 := F0 m 227 ls [.int (3 + ((js_up v 12 i 0) 22 0 + 1)), .int (nI i), .ref (ad 12)]) (by rw [hp.1]; rfl) ?_
                      refine jmi_ist hc hh 11 (by decide) (by decide) hi d_M_make_227 (fun H locs hh => ?_)
                      refine lv_iload_n hx hb d_M_make_228 rfl (lv_at hl 1 rfl) ?_
                      exact jx_iret (r := nI i) hc hh hQ hlk hr rfl rfl ⟨by rw [← hf], by rw [hmk]; simp [jm_mk1, jm_opq, h208]⟩ d_M_make_229
                    refine J196 v _ _ _ hlv (by rw [jm_make_i hf]; unfold jm_mkB; rw [if_neg h89, ← hfv]; first | rfl | simp [jm_fd, h146]) ?_ ?_
                    ·
                      exact hh
                    exact lv_sub hl [0, 3, 4] rfl
                  | succ n ih =>
                    intro v k9 H locs ls hm hSv hlv hfv hh hl
                    refine lv_iload hx hb d_M_make_127 (lv_at hl 5 rfl) ?_
                    refine lv_iconst (v := 4) hx hb d_M_make_129 (by decide) ?_
                    refine lv_icmp_ge (tgt := 196) hx hb d_M_make_130 rfl (fun hq => absurd hq (nI_ge (show k9 < 4 by omega) (by decide))) (fun h130 => ?_)
                    refine lv_aload_n hx hb d_M_make_133 rfl (lv_at hl 0 rfl) ?_
                    refine jg_M hc hh 0 (by decide) rfl wf_M_7 d_M_make_134 ?_
                    refine lv_aload_n hx hb d_M_make_137 rfl (lv_at hl 0 rfl) ?_
                    refine jg_M hc hh 25 (by decide) rfl wf_M_93 d_M_make_138 ?_
                    refine lv_bipush (v := 8) hx hb d_M_make_141 (by decide) ?_
                    refine lv_idiv hx hb d_M_make_143 (by decide) ?_
                    refine jm_ild hc hh 0 (by decide) (by decide) (js_pgn hlv) d_M_make_144 ?_
                    refine lv_iconst (v := 1) hx hb d_M_make_145 (by decide) ?_
                    refine lv_icmp_ne (tgt := 196) hx hb d_M_make_146 rfl (fun h146 => ?_) (fun h146 => ?_)
                    ·
                      have J196 : ∀ (v : js_S) (H : Heap) (locs : List Loc) (ls : Array Slot), (∃ j, j < 256 ∧ v 25 0 = nI j) → (jm_make u nav url = jm_mk1 v i (jm_under (jm_mk0 u i) nav)) → jx_H D 22 ad (jm_cell ad cA v) A s.heap H locs → lv_has ls 8 [(0, .ref (ad 0)), (3, .int (nI i)), (5, .int (jm_under (jm_mk0 u i) nav))] → W p l e (jr 2) s m args below meth c H locs 0 0 Q (F0 m 196 ls []) := by
                        intro v H locs ls hlv hmk hh hl
                        refine lv_aload_n hx hb d_M_make_196 rfl (lv_at hl 0 rfl) ?_
                        refine jg_M hc hh 0 (by decide) rfl wf_M_7 d_M_make_197 ?_
                        refine lv_aload_n hx hb d_M_make_200 rfl (lv_at hl 0 rfl) ?_
                        refine jg_M hc hh 25 (by decide) rfl wf_M_93 d_M_make_201 ?_
                        refine lv_bipush (v := 8) hx hb d_M_make_204 (by decide) ?_
                        refine lv_idiv hx hb d_M_make_206 (by decide) ?_
                        refine jm_ild hc hh 0 (by decide) (by decide) (js_pgn hlv) d_M_make_207 ?_
                        refine lv_if_eq (tgt := 230) hx hb d_M_make_208 rfl (fun h208 => ?_) (fun h208 => ?_)
                        ·
                          refine lv_aload_n hx hb d_M_make_230 rfl (lv_at hl 0 rfl) ?_
                          refine jg_M hc hh 12 (by decide) rfl wf_M_47 d_M_make_231 ?_
                          refine lv_iload_n hx hb d_M_make_234 rfl (lv_at hl 1 rfl) ?_
                          refine lv_iload hx hb d_M_make_235 (lv_at hl 2 rfl) ?_
                          refine lv_if_ne (tgt := 255) hx hb d_M_make_237 rfl (fun h237 => ?_) (fun h237 => ?_)
                          ·
                            refine lv_iconst (v := 1) hx hb d_M_make_255 (by decide) ?_
                            refine lv_goto (tgt := 260) hx hb d_M_make_256 rfl ?_
                            have J260 : ∀  (ls : Array Slot), lv_has ls 8 [(0, .ref (ad 0)), (3, .int (nI i))] → W p l e (jr 2) s m args below meth c H locs 0 0 Q (F0 m 260 ls [.int (jm_mb v (jm_under (jm_mk0 u i) nav)), .int (nI i), .ref (ad 13)]) := by
                              intro  ls hl
                              refine jmi_zst hc hh 12 (by decide) (by decide) hi jm_mb_z d_M_make_260 (fun H locs hh => ?_)
                              refine lv_aload_n hx hb d_M_make_261 rfl (lv_at hl 0 rfl) ?_
                              refine jg_M hc hh 11 (by decide) rfl wf_M_44 d_M_make_262 ?_
                              refine lv_iload_n hx hb d_M_make_265 rfl (lv_at hl 1 rfl) ?_
                              refine lv_aload_n hx hb d_M_make_266 rfl (lv_at hl 0 rfl) ?_
                              refine jg_M hc hh 12 (by decide) rfl wf_M_47 d_M_make_267 ?_
                              refine lv_iload_n hx hb d_M_make_270 rfl (lv_at hl 1 rfl) ?_
                              refine jmi_zld hc hh 12 (by decide) (by decide) hi d_M_make_271 ?_
                              refine lv_if_eq (tgt := 282) hx hb d_M_make_272 rfl (fun h272 => ?_) (fun h272 => ?_)
                              ·
                                refine lv_aload_n hx hb d_M_make_282 rfl (lv_at hl 0 rfl) ?_
                                refine jg_M hc hh 25 (by decide) rfl wf_M_93 d_M_make_283 ?_
                                refine lv_bipush (v := 64) hx hb d_M_make_286 (by decide) ?_
                                refine lv_idiv hx hb d_M_make_288 (by decide) ?_
                                refine jmi_ist hc hh 11 (by decide) (by decide) hi d_M_make_289 (fun H locs hh => ?_)
                                refine lv_iload_n hx hb d_M_make_290 rfl (lv_at hl 1 rfl) ?_
                                exact jx_iret (r := nI i) hc hh hQ hlk hr rfl rfl ⟨by rw [← hf], by rw [hmk]; simp [jm_mk1, jm_mkC, jm_opq, h208, h272]⟩ d_M_make_291
                              refine lv_aload_n hx hb d_M_make_275 rfl (lv_at hl 0 rfl) ?_
                              refine jx_callV [] [.int (nI i), .ref (ad 12)] hc hh (m_freshOrigin l D aK ad cA (js_up v 12 i (jm_mb v (jm_under (jm_mk0 u i) nav)))) wy_M_96 ⟨by decide, rfl, rfl⟩ (by decide) rfl hl.1 rfl (by simp [vc_int, vc_ref, vc_long, jv_cat]) ⟨Nat.zero_le _, Nat.zero_le _⟩ d_M_make_276 (fun r u9 H locs hp hh _ _ => ?_)
                              rw [hp.2] at hh
                              refine W.eq (g2 := F0 m 279 ls [.int (3 + ((js_up v 12 i (jm_mb v (jm_under (jm_mk0 u i) nav))) 22 0 + 1)), .int (nI i), .ref (ad 12)]) (by rw [hp.1]; rfl) ?_
                              refine lv_goto (tgt := 289) hx hb d_M_make_279 rfl ?_
                              refine jmi_ist hc hh 11 (by decide) (by decide) hi d_M_make_289 (fun H locs hh => ?_)
                              refine lv_iload_n hx hb d_M_make_290 rfl (lv_at hl 1 rfl) ?_
                              exact jx_iret (r := nI i) hc hh hQ hlk hr rfl rfl ⟨by rw [← hf], by rw [hmk]; simp [jm_mk1, jm_mkC, jm_opq, h208, h272]⟩ d_M_make_291
                            have e22 : (jm_mb v (jm_under (jm_mk0 u i) nav)) = 1 := by first | (simp [jm_mb, h208, h237]; done) | (simp [jm_mb, eq_true h208, h237]; done)
                            refine W.eq (g2 := F0 m 260 ls [.int (jm_mb v (jm_under (jm_mk0 u i) nav)), .int (nI i), .ref (ad 13)]) (by first | (rw [e22]; done) | (rw [e22]; rfl)) ?_
                            refine J260 _ ?_
                            exact lv_sub hl [0, 1] rfl
                          refine lv_aload_n hx hb d_M_make_240 rfl (lv_at hl 0 rfl) ?_
                          refine jg_M hc hh 3 (by decide) rfl wf_M_19 d_M_make_241 ?_
                          refine lv_aload_n hx hb d_M_make_244 rfl (lv_at hl 0 rfl) ?_
                          refine jg_M hc hh 25 (by decide) rfl wf_M_93 d_M_make_245 ?_
                          refine lv_bipush (v := 8) hx hb d_M_make_248 (by decide) ?_
                          refine lv_idiv hx hb d_M_make_250 (by decide) ?_
                          refine jm_zld hc hh 3 (by decide) (by decide) (js_pgn hlv) d_M_make_251 ?_
                          refine lv_if_eq (tgt := 259) hx hb d_M_make_252 rfl (fun h252 => ?_) (fun h252 => ?_)
                          ·
                            refine lv_iconst (v := 0) hx hb d_M_make_259 (by decide) ?_
                            have J260 : ∀  (ls : Array Slot), lv_has ls 8 [(0, .ref (ad 0)), (3, .int (nI i))] → W p l e (jr 2) s m args below meth c H locs 0 0 Q (F0 m 260 ls [.int (jm_mb v (jm_under (jm_mk0 u i) nav)), .int (nI i), .ref (ad 13)]) := by
                              intro  ls hl
                              refine jmi_zst hc hh 12 (by decide) (by decide) hi jm_mb_z d_M_make_260 (fun H locs hh => ?_)
                              refine lv_aload_n hx hb d_M_make_261 rfl (lv_at hl 0 rfl) ?_
                              refine jg_M hc hh 11 (by decide) rfl wf_M_44 d_M_make_262 ?_
                              refine lv_iload_n hx hb d_M_make_265 rfl (lv_at hl 1 rfl) ?_
                              refine lv_aload_n hx hb d_M_make_266 rfl (lv_at hl 0 rfl) ?_
                              refine jg_M hc hh 12 (by decide) rfl wf_M_47 d_M_make_267 ?_
                              refine lv_iload_n hx hb d_M_make_270 rfl (lv_at hl 1 rfl) ?_
                              refine jmi_zld hc hh 12 (by decide) (by decide) hi d_M_make_271 ?_
                              refine lv_if_eq (tgt := 282) hx hb d_M_make_272 rfl (fun h272 => ?_) (fun h272 => ?_)
                              ·
                                refine lv_aload_n hx hb d_M_make_282 rfl (lv_at hl 0 rfl) ?_
                                refine jg_M hc hh 25 (by decide) rfl wf_M_93 d_M_make_283 ?_
                                refine lv_bipush (v := 64) hx hb d_M_make_286 (by decide) ?_
                                refine lv_idiv hx hb d_M_make_288 (by decide) ?_
                                refine jmi_ist hc hh 11 (by decide) (by decide) hi d_M_make_289 (fun H locs hh => ?_)
                                refine lv_iload_n hx hb d_M_make_290 rfl (lv_at hl 1 rfl) ?_
                                exact jx_iret (r := nI i) hc hh hQ hlk hr rfl rfl ⟨by rw [← hf], by rw [hmk]; simp [jm_mk1, jm_mkC, jm_opq, h208, h272]⟩ d_M_make_291
                              refine lv_aload_n hx hb d_M_make_275 rfl (lv_at hl 0 rfl) ?_
                              refine jx_callV [] [.int (nI i), .ref (ad 12)] hc hh (m_freshOrigin l D aK ad cA (js_up v 12 i (jm_mb v (jm_under (jm_mk0 u i) nav)))) wy_M_96 ⟨by decide, rfl, rfl⟩ (by decide) rfl hl.1 rfl (by simp [vc_int, vc_ref, vc_long, jv_cat]) ⟨Nat.zero_le _, Nat.zero_le _⟩ d_M_make_276 (fun r u9 H locs hp hh _ _ => ?_)
                              rw [hp.2] at hh
                              refine W.eq (g2 := F0 m 279 ls [.int (3 + ((js_up v 12 i (jm_mb v (jm_under (jm_mk0 u i) nav))) 22 0 + 1)), .int (nI i), .ref (ad 12)]) (by rw [hp.1]; rfl) ?_
                              refine lv_goto (tgt := 289) hx hb d_M_make_279 rfl ?_
                              refine jmi_ist hc hh 11 (by decide) (by decide) hi d_M_make_289 (fun H locs hh => ?_)
                              refine lv_iload_n hx hb d_M_make_290 rfl (lv_at hl 1 rfl) ?_
                              exact jx_iret (r := nI i) hc hh hQ hlk hr rfl rfl ⟨by rw [← hf], by rw [hmk]; simp [jm_mk1, jm_mkC, jm_opq, h208, h272]⟩ d_M_make_291
                            have e23 : (jm_mb v (jm_under (jm_mk0 u i) nav)) = 0 := by first | (simp [jm_mb, h208, h237, h252]; done) | (simp [jm_mb, eq_true h208, eq_true h237, eq_true h252]; done)
                            refine W.eq (g2 := F0 m 260 ls [.int (jm_mb v (jm_under (jm_mk0 u i) nav)), .int (nI i), .ref (ad 13)]) (by first | (rw [e23]; done) | (rw [e23]; rfl)) ?_
                            refine J260 _ ?_
                            exact lv_sub hl [0, 1] rfl
                          refine lv_iconst (v := 1) hx hb d_M_make_255 (by decide) ?_
                          refine lv_goto (tgt := 260) hx hb d_M_make_256 rfl ?_
                          have J260 : ∀  (ls : Array Slot), lv_has ls 8 [(0, .ref (ad 0)), (3, .int (nI i))] → W p l e (jr 2) s m args below meth c H locs 0 0 Q (F0 m 260 ls [.int (jm_mb v (jm_under (jm_mk0 u i) nav)), .int (nI i), .ref (ad 13)]) := by
                            intro  ls hl
                            refine jmi_zst hc hh 12 (by decide) (by decide) hi jm_mb_z d_M_make_260 (fun H locs hh => ?_)
                            refine lv_aload_n hx hb d_M_make_261 rfl (lv_at hl 0 rfl) ?_
                            refine jg_M hc hh 11 (by decide) rfl wf_M_44 d_M_make_262 ?_
                            refine lv_iload_n hx hb d_M_make_265 rfl (lv_at hl 1 rfl) ?_
                            refine lv_aload_n hx hb d_M_make_266 rfl (lv_at hl 0 rfl) ?_
                            refine jg_M hc hh 12 (by decide) rfl wf_M_47 d_M_make_267 ?_
                            refine lv_iload_n hx hb d_M_make_270 rfl (lv_at hl 1 rfl) ?_
                            refine jmi_zld hc hh 12 (by decide) (by decide) hi d_M_make_271 ?_
                            refine lv_if_eq (tgt := 282) hx hb d_M_make_272 rfl (fun h272 => ?_) (fun h272 => ?_)
                            ·
                              refine lv_aload_n hx hb d_M_make_282 rfl (lv_at hl 0 rfl) ?_
                              refine jg_M hc hh 25 (by decide) rfl wf_M_93 d_M_make_283 ?_
                              refine lv_bipush (v := 64) hx hb d_M_make_286 (by decide) ?_
                              refine lv_idiv hx hb d_M_make_288 (by decide) ?_
                              refine jmi_ist hc hh 11 (by decide) (by decide) hi d_M_make_289 (fun H locs hh => ?_)
                              refine lv_iload_n hx hb d_M_make_290 rfl (lv_at hl 1 rfl) ?_
                              exact jx_iret (r := nI i) hc hh hQ hlk hr rfl rfl ⟨by rw [← hf], by rw [hmk]; simp [jm_mk1, jm_mkC, jm_opq, h208, h272]⟩ d_M_make_291
                            refine lv_aload_n hx hb d_M_make_275 rfl (lv_at hl 0 rfl) ?_
                            refine jx_callV [] [.int (nI i), .ref (ad 12)] hc hh (m_freshOrigin l D aK ad cA (js_up v 12 i (jm_mb v (jm_under (jm_mk0 u i) nav)))) wy_M_96 ⟨by decide, rfl, rfl⟩ (by decide) rfl hl.1 rfl (by simp [vc_int, vc_ref, vc_long, jv_cat]) ⟨Nat.zero_le _, Nat.zero_le _⟩ d_M_make_276 (fun r u9 H locs hp hh _ _ => ?_)
                            rw [hp.2] at hh
                            refine W.eq (g2 := F0 m 279 ls [.int (3 + ((js_up v 12 i (jm_mb v (jm_under (jm_mk0 u i) nav))) 22 0 + 1)), .int (nI i), .ref (ad 12)]) (by rw [hp.1]; rfl) ?_
                            refine lv_goto (tgt := 289) hx hb d_M_make_279 rfl ?_
                            refine jmi_ist hc hh 11 (by decide) (by decide) hi d_M_make_289 (fun H locs hh => ?_)
                            refine lv_iload_n hx hb d_M_make_290 rfl (lv_at hl 1 rfl) ?_
                            exact jx_iret (r := nI i) hc hh hQ hlk hr rfl rfl ⟨by rw [← hf], by rw [hmk]; simp [jm_mk1, jm_mkC, jm_opq, h208, h272]⟩ d_M_make_291
                          have e24 : (jm_mb v (jm_under (jm_mk0 u i) nav)) = 1 := by first | (simp [jm_mb, h208, h237, h252]; done) | (simp [jm_mb, eq_true h208, eq_true h237, h252]; done)
                          refine W.eq (g2 := F0 m 260 ls [.int (jm_mb v (jm_under (jm_mk0 u i) nav)), .int (nI i), .ref (ad 13)]) (by first | (rw [e24]; done) | (rw [e24]; rfl)) ?_
                          refine J260 _ ?_
                          exact lv_sub hl [0, 1] rfl
                        refine lv_aload_n hx hb d_M_make_211 rfl (lv_at hl 0 rfl) ?_
                        refine jg_M hc hh 12 (by decide) rfl wf_M_47 d_M_make_212 ?_
                        refine lv_iload_n hx hb d_M_make_215 rfl (lv_at hl 1 rfl) ?_
                        refine lv_iconst (v := 0) hx hb d_M_make_216 (by decide) ?_
                        refine jmi_zst hc hh 12 (by decide) (by decide) hi (by decide) d_M_make_217 (fun H locs hh => ?_)
                        refine lv_aload_n hx hb d_M_make_218 rfl (lv_at hl 0 rfl) ?_
                        refine jg_M hc hh 11 (by decide) rfl wf_M_44 d_M_make_219 ?_
                        refine lv_iload_n hx hb d_M_make_222 rfl (lv_at hl 1 rfl) ?_
                        refine lv_aload_n hx hb d_M_make_223 rfl (lv_at hl 0 rfl) ?_
                        refine jx_callV [] [.int (nI i), .ref (ad 12)] hc hh (m_freshOrigin l D aK ad cA (js_up v 12 i 0)) wy_M_96 ⟨by decide, rfl, rfl⟩ (by decide) rfl hl.1 rfl (by simp [vc_int, vc_ref, vc_long, jv_cat]) ⟨Nat.zero_le _, Nat.zero_le _⟩ d_M_make_224 (fun r u9 H locs hp hh _ _ => ?_)
                        rw [hp.2] at hh
                        refine W.eq (g2 := F0 m 227 ls [.int (3 + ((js_up v 12 i 0) 22 0 + 1)), .int (nI i), .ref (ad 12)]) (by rw [hp.1]; rfl) ?_
                        refine jmi_ist hc hh 11 (by decide) (by decide) hi d_M_make_227 (fun H locs hh => ?_)
                        refine lv_iload_n hx hb d_M_make_228 rfl (lv_at hl 1 rfl) ?_
                        exact jx_iret (r := nI i) hc hh hQ hlk hr rfl rfl ⟨by rw [← hf], by rw [hmk]; simp [jm_mk1, jm_opq, h208]⟩ d_M_make_229
                      refine J196 v _ _ _ hlv (by rw [jm_make_i hf]; unfold jm_mkB; rw [if_neg h89, ← hfv]; first | rfl | simp [jm_fd, h146]) ?_ ?_
                      ·
                        exact hh
                      exact lv_sub hl [0, 3, 4] rfl
                    refine lv_aload_n hx hb d_M_make_149 rfl (lv_at hl 0 rfl) ?_
                    refine jg_M hc hh 1 (by decide) rfl wf_M_13 d_M_make_150 ?_
                    refine lv_aload_n hx hb d_M_make_153 rfl (lv_at hl 0 rfl) ?_
                    refine jg_M hc hh 25 (by decide) rfl wf_M_93 d_M_make_154 ?_
                    refine lv_bipush (v := 8) hx hb d_M_make_157 (by decide) ?_
                    refine lv_idiv hx hb d_M_make_159 (by decide) ?_
                    refine jm_ild hc hh 1 (by decide) (by decide) (js_pgn hlv) d_M_make_160 ?_
                    refine lv_istore (i := 7) (lv' := [(7, .int (v 1 (ix ((v 25 0) / 8)))), (0, .ref (ad 0)), (1, .int nav), (2, .int url), (3, .int (nI i)), (5, .int (jm_under (jm_mk0 u i) nav)), (6, .int (nI k9))]) hx hb d_M_make_161 hl (by decide) rfl (fun ls hl => ?_)
                    refine lv_aload_n hx hb d_M_make_163 rfl (lv_at hl 1 rfl) ?_
                    refine lv_iload hx hb d_M_make_164 (lv_at hl 0 rfl) ?_
                    refine lv_bipush (v := 8) hx hb d_M_make_166 (by decide) ?_
                    refine lv_irem hx hb d_M_make_168 (by decide) ?_
                    refine lv_if_ne (tgt := 185) hx hb d_M_make_169 rfl (fun h169 => ?_) (fun h169 => ?_)
                    ·
                      refine lv_iload hx hb d_M_make_185 (lv_at hl 0 rfl) ?_
                      refine jpm_25 hc hh wf_M_93 d_M_make_187 (fun H locs hh => ?_)
                      refine lv_iinc (k := 6) (v := nI (k9 + 1)) (lv' := [(6, .int (nI (k9 + 1))), (7, .int (v 1 (ix ((v 25 0) / 8)))), (0, .ref (ad 0)), (1, .int nav), (2, .int url), (3, .int (nI i)), (5, .int (jm_under (jm_mk0 u i) nav))]) hx hb d_M_make_190 hl rfl (nI_1 k9) (by decide) rfl (fun ls hl => ?_)
                      refine lv_goto (tgt := 127) hx hb d_M_make_193 rfl ?_
                      refine ih (js_up v 25 0 (v 1 (ix ((v 25 0) / 8)))) (k9 + 1) _ _ _ (by omega) (jm_Sh_25 hSv) (by rw [js_up_s]; have q9 := jm_led hSv hlv h146; simpa [h169] using q9) (by rw [← hfv]; simp [jm_fd, h146, h169]) ?_ ?_
                      ·
                        exact hh
                      exact lv_sub hl [2, 3, 4, 5, 6, 0] rfl
                    refine lv_iload hx hb d_M_make_172 (lv_at hl 0 rfl) ?_
                    refine lv_aload_n hx hb d_M_make_174 rfl (lv_at hl 1 rfl) ?_
                    refine jg_M hc hh 25 (by decide) rfl wf_M_93 d_M_make_175 ?_
                    refine lv_bipush (v := 8) hx hb d_M_make_178 (by decide) ?_
                    refine lv_irem hx hb d_M_make_180 (by decide) ?_
                    refine lv_iadd hx hb d_M_make_181 ?_
                    refine lv_goto (tgt := 187) hx hb d_M_make_182 rfl ?_
                    refine jpm_25 hc hh wf_M_93 d_M_make_187 (fun H locs hh => ?_)
                    refine lv_iinc (k := 6) (v := nI (k9 + 1)) (lv' := [(6, .int (nI (k9 + 1))), (7, .int (v 1 (ix ((v 25 0) / 8)))), (0, .ref (ad 0)), (1, .int nav), (2, .int url), (3, .int (nI i)), (5, .int (jm_under (jm_mk0 u i) nav))]) hx hb d_M_make_190 hl rfl (nI_1 k9) (by decide) rfl (fun ls hl => ?_)
                    refine lv_goto (tgt := 127) hx hb d_M_make_193 rfl ?_
                    refine ih (js_up v 25 0 ((v 1 (ix ((v 25 0) / 8))) + ((v 25 0) - (v 25 0) / 8 * 8))) (k9 + 1) _ _ _ (by omega) (jm_Sh_25 hSv) (by rw [js_up_s]; have q9 := jm_led hSv hlv h146; simpa [h169] using q9) (by rw [← hfv]; simp [jm_fd, h146, h169]) ?_ ?_
                    ·
                      exact hh
                    exact lv_sub hl [2, 3, 4, 5, 6, 0] rfl
                have e25 : nI 0 = 0 := rfl
                refine L127 4 (jm_mkS (jm_mk0 u i) i url (jm_under (jm_mk0 u i) nav)) 0 _ _ _ (by omega) (jm_Sh_mkS (jm_Sh_mk0 hS)) (by rw [jm_mkS_25]; exact jq_ne hu h89) rfl ?_ ?_
                ·
                  try rw [e25]
                  exact hh
                try rw [e25]
                exact lv_sub hl [1, 2, 3, 4, 6, 0] rfl
              refine lv_aload_n hx hb d_M_make_92 rfl (lv_at hl 0 rfl) ?_
              refine jg_M hc hh 11 (by decide) rfl wf_M_44 d_M_make_93 ?_
              refine lv_iload_n hx hb d_M_make_96 rfl (lv_at hl 3 rfl) ?_
              refine lv_iload hx hb d_M_make_97 (lv_at hl 4 rfl) ?_
              refine lv_if_lt (tgt := 117) hx hb d_M_make_99 rfl (fun h99 => ?_) (fun h99 => ?_)
              ·
                refine lv_aload_n hx hb d_M_make_117 rfl (lv_at hl 0 rfl) ?_
                refine jx_callV [] [.int (nI i), .ref (ad 12)] hc hh (m_freshOrigin l D aK ad cA (jm_mkS (jm_mk0 u i) i url (jm_under (jm_mk0 u i) nav))) wy_M_96 ⟨by decide, rfl, rfl⟩ (by decide) rfl hl.1 rfl (by simp [vc_int, vc_ref, vc_long, jv_cat]) ⟨Nat.zero_le _, Nat.zero_le _⟩ d_M_make_118 (fun r u9 H locs hp hh _ _ => ?_)
                rw [hp.2] at hh
                refine W.eq (g2 := F0 m 121 ls [.int (3 + ((jm_mkS (jm_mk0 u i) i url (jm_under (jm_mk0 u i) nav)) 22 0 + 1)), .int (nI i), .ref (ad 12)]) (by rw [hp.1]; rfl) ?_
                refine jmi_ist hc hh 11 (by decide) (by decide) hi d_M_make_121 (fun H locs hh => ?_)
                refine lv_iload_n hx hb d_M_make_122 rfl (lv_at hl 3 rfl) ?_
                exact jx_iret (r := nI i) hc hh hQ hlk hr rfl rfl ⟨by rw [← hf], by rw [jm_make_i hf]; simp [jm_mkB, jm_mkA, jm_opq, h89, h99]⟩ d_M_make_123
              refine lv_iload hx hb d_M_make_102 (lv_at hl 5 rfl) ?_
              refine lv_if_ne (tgt := 117) hx hb d_M_make_104 rfl (fun h104 => ?_) (fun h104 => ?_)
              ·
                refine lv_aload_n hx hb d_M_make_117 rfl (lv_at hl 0 rfl) ?_
                refine jx_callV [] [.int (nI i), .ref (ad 12)] hc hh (m_freshOrigin l D aK ad cA (jm_mkS (jm_mk0 u i) i url (jm_under (jm_mk0 u i) nav))) wy_M_96 ⟨by decide, rfl, rfl⟩ (by decide) rfl hl.1 rfl (by simp [vc_int, vc_ref, vc_long, jv_cat]) ⟨Nat.zero_le _, Nat.zero_le _⟩ d_M_make_118 (fun r u9 H locs hp hh _ _ => ?_)
                rw [hp.2] at hh
                refine W.eq (g2 := F0 m 121 ls [.int (3 + ((jm_mkS (jm_mk0 u i) i url (jm_under (jm_mk0 u i) nav)) 22 0 + 1)), .int (nI i), .ref (ad 12)]) (by rw [hp.1]; rfl) ?_
                refine jmi_ist hc hh 11 (by decide) (by decide) hi d_M_make_121 (fun H locs hh => ?_)
                refine lv_iload_n hx hb d_M_make_122 rfl (lv_at hl 3 rfl) ?_
                exact jx_iret (r := nI i) hc hh hQ hlk hr rfl rfl ⟨by rw [← hf], by rw [jm_make_i hf]; simp [jm_mkB, jm_mkA, jm_opq, h89, h99, h104]⟩ d_M_make_123
              refine lv_aload_n hx hb d_M_make_107 rfl (lv_at hl 0 rfl) ?_
              refine jg_M hc hh 11 (by decide) rfl wf_M_44 d_M_make_108 ?_
              refine lv_iload hx hb d_M_make_111 (lv_at hl 4 rfl) ?_
              refine jm_ild hc hh 11 (by decide) (by decide) (jq_nn (jm_Sax (jm_Sh_mk0 hS) h_nav) h99) d_M_make_113 ?_
              refine lv_goto (tgt := 121) hx hb d_M_make_114 rfl ?_
              refine jmi_ist hc hh 11 (by decide) (by decide) hi d_M_make_121 (fun H locs hh => ?_)
              refine lv_iload_n hx hb d_M_make_122 rfl (lv_at hl 3 rfl) ?_
              exact jx_iret (r := nI i) hc hh hQ hlk hr rfl rfl ⟨by rw [← hf], by rw [jm_make_i hf]; simp [jm_mkB, jm_mkA, jm_opq, h89, h99, h104]⟩ d_M_make_123
            have e26 : (jm_mkS (jm_mk0 u i) i url (jm_under (jm_mk0 u i) nav)) = (js_up (js_up (jm_mk0 u i) 25 0 url) 12 i (jm_under (jm_mk0 u i) nav)) := rfl
            refine J87 _ _ _ ?_ ?_
            ·
              try rw [e26]
              exact hh
            try rw [e26]
            exact lv_sub hl [1, 2, 3, 4, 5, 0] rfl
          have e27 : (jm_under (jm_mk0 u i) nav) = 1 := by simp [jm_under, h54, h64]
          refine W.eq (g2 := F0 m 72 ls [.int (jm_under (jm_mk0 u i) nav)]) (by first | (rw [e27]; done) | (rw [e27]; rfl)) ?_
          refine J72 _ ?_
          exact lv_sub hl [1, 2, 3, 4, 0] rfl
        have e28 : (jm_mk0 u i) = (js_up (js_up (js_up u 10 i 1) 13 i (-1)) 14 i (-1)) := rfl
        refine J44 _ _ _ ?_ ?_
        ·
          try rw [e28]
          exact hh
        try rw [e28]
        exact lv_sub hl [0, 1, 2, 3] rfl
      refine J23 i _ hi (by rw [← hf]; first | rfl | simp [js_free, h14]) ?_
      exact lv_sub hl [0, 1, 2, 3] rfl
    | succ n ih =>
      intro i ls hm hf hl
      have hi : i < 48 := by omega
      have hi9 : i < 47 := by omega
      refine lv_iload_n hx hb d_M_make_2 rfl (lv_at hl 3 rfl) ?_
      refine lv_bipush (v := 47) hx hb d_M_make_3 (by decide) ?_
      refine lv_icmp_ge (tgt := 23) hx hb d_M_make_5 rfl (fun hq => absurd hq (nI_ge hi9 (by decide))) (fun h5 => ?_)
      refine lv_aload_n hx hb d_M_make_8 rfl (lv_at hl 0 rfl) ?_
      refine jg_M hc hh 10 (by decide) rfl wf_M_41 d_M_make_9 ?_
      refine lv_iload_n hx hb d_M_make_12 rfl (lv_at hl 3 rfl) ?_
      refine jmi_zld hc hh 10 (by decide) (by decide) hi d_M_make_13 ?_
      refine lv_if_eq (tgt := 23) hx hb d_M_make_14 rfl (fun h14 => ?_) (fun h14 => ?_)
      ·
        have J23 : ∀ (i : Nat) (ls : Array Slot), (i < 48) → (i = js_free u 10 47 0) → lv_has ls 8 [(0, .ref (ad 0)), (1, .int nav), (2, .int url), (3, .int (nI i))] → W p l e (jr 2) s m args below meth c H locs 0 0 Q (F0 m 23 ls []) := by
          intro i ls hi hf hl
          refine lv_aload_n hx hb d_M_make_23 rfl (lv_at hl 0 rfl) ?_
          refine jg_M hc hh 10 (by decide) rfl wf_M_41 d_M_make_24 ?_
          refine lv_iload_n hx hb d_M_make_27 rfl (lv_at hl 3 rfl) ?_
          refine lv_iconst (v := 1) hx hb d_M_make_28 (by decide) ?_
          refine jmi_zst hc hh 10 (by decide) (by decide) hi (by decide) d_M_make_29 (fun H locs hh => ?_)
          refine lv_aload_n hx hb d_M_make_30 rfl (lv_at hl 0 rfl) ?_
          refine jg_M hc hh 13 (by decide) rfl wf_M_50 d_M_make_31 ?_
          refine lv_iload_n hx hb d_M_make_34 rfl (lv_at hl 3 rfl) ?_
          refine lv_iconst (v := -1) hx hb d_M_make_35 (by decide) ?_
          refine jmi_ist hc hh 13 (by decide) (by decide) hi d_M_make_36 (fun H locs hh => ?_)
          refine lv_aload_n hx hb d_M_make_37 rfl (lv_at hl 0 rfl) ?_
          refine jg_M hc hh 14 (by decide) rfl wf_M_53 d_M_make_38 ?_
          refine lv_iload_n hx hb d_M_make_41 rfl (lv_at hl 3 rfl) ?_
          refine lv_iconst (v := -1) hx hb d_M_make_42 (by decide) ?_
          refine jmi_ist hc hh 14 (by decide) (by decide) hi d_M_make_43 (fun H locs hh => ?_)
          have J44 : ∀  (H : Heap) (locs : List Loc) (ls : Array Slot), jx_H D 22 ad (jm_cell ad cA (jm_mk0 u i)) A s.heap H locs → lv_has ls 8 [(0, .ref (ad 0)), (1, .int nav), (2, .int url), (3, .int (nI i))] → W p l e (jr 2) s m args below meth c H locs 0 0 Q (F0 m 44 ls []) := by
            intro  H locs ls hh hl
            refine lv_aload_n hx hb d_M_make_44 rfl (lv_at hl 0 rfl) ?_
            refine jg_M hc hh 16 (by decide) rfl wf_M_59 d_M_make_45 ?_
            refine lv_iload_n hx hb d_M_make_48 rfl (lv_at hl 1 rfl) ?_
            refine jm_ild hc hh 16 (by decide) (by decide) h_nav d_M_make_49 ?_
            refine lv_istore (i := 4) (lv' := [(4, .int ((jm_mk0 u i) 16 (ix nav))), (0, .ref (ad 0)), (1, .int nav), (2, .int url), (3, .int (nI i))]) hx hb d_M_make_50 hl (by decide) rfl (fun ls hl => ?_)
            refine lv_iload hx hb d_M_make_52 (lv_at hl 0 rfl) ?_
            refine lv_if_lt (tgt := 71) hx hb d_M_make_54 rfl (fun h54 => ?_) (fun h54 => ?_)
            ·
              refine lv_iconst (v := 0) hx hb d_M_make_71 (by decide) ?_
              have J72 : ∀  (ls : Array Slot), lv_has ls 8 [(0, .ref (ad 0)), (1, .int nav), (2, .int url), (3, .int (nI i)), (4, .int ((jm_mk0 u i) 16 (ix nav)))] → W p l e (jr 2) s m args below meth c H locs 0 0 Q (F0 m 72 ls [.int (jm_under (jm_mk0 u i) nav)]) := by
                intro  ls hl
                refine lv_istore (i := 5) (lv' := [(5, .int (jm_under (jm_mk0 u i) nav)), (0, .ref (ad 0)), (1, .int nav), (2, .int url), (3, .int (nI i)), (4, .int ((jm_mk0 u i) 16 (ix nav)))]) hx hb d_M_make_72 hl (by decide) rfl (fun ls hl => ?_)
                refine lv_aload_n hx hb d_M_make_74 rfl (lv_at hl 1 rfl) ?_
                refine lv_iload_n hx hb d_M_make_75 rfl (lv_at hl 3 rfl) ?_
                refine jpm_25 hc hh wf_M_93 d_M_make_76 (fun H locs hh => ?_)
                refine lv_aload_n hx hb d_M_make_79 rfl (lv_at hl 1 rfl) ?_
                refine jg_M hc hh 12 (by decide) rfl wf_M_47 d_M_make_80 ?_
                refine lv_iload_n hx hb d_M_make_83 rfl (lv_at hl 4 rfl) ?_
                refine lv_iload hx hb d_M_make_84 (lv_at hl 0 rfl) ?_
                refine jmi_zst hc hh 12 (by decide) (by decide) hi jm_under_z d_M_make_86 (fun H locs hh => ?_)
                have J87 : ∀  (H : Heap) (locs : List Loc) (ls : Array Slot), jx_H D 22 ad (jm_cell ad cA (jm_mkS (jm_mk0 u i) i url (jm_under (jm_mk0 u i) nav))) A s.heap H locs → lv_has ls 8 [(0, .ref (ad 0)), (1, .int nav), (2, .int url), (3, .int (nI i)), (4, .int ((jm_mk0 u i) 16 (ix nav))), (5, .int (jm_under (jm_mk0 u i) nav))] → W p l e (jr 2) s m args below meth c H locs 0 0 Q (F0 m 87 ls []) := by
                  intro  H locs ls hh hl
                  refine lv_iload_n hx hb d_M_make_87 rfl (lv_at hl 2 rfl) ?_
                  refine lv_iconst (v := -1) hx hb d_M_make_88 (by decide) ?_
                  refine lv_icmp_ne (tgt := 124) hx hb d_M_make_89 rfl (fun h89 => ?_) (fun h89 => ?_)
                  ·
                    refine lv_iconst (v := 0) hx hb d_M_make_124 (by decide) ?_
                    refine lv_istore (i := 6) (lv' := [(6, .int 0), (0, .ref (ad 0)), (1, .int nav), (2, .int url), (3, .int (nI i)), (4, .int ((jm_mk0 u i) 16 (ix nav))), (5, .int (jm_under (jm_mk0 u i) nav))]) hx hb d_M_make_125 hl (by decide) rfl (fun ls hl => ?_)
                    have L127 : ∀ (n : Nat) (v : js_S) (k9 : Nat) (H : Heap) (locs : List Loc) (ls : Array Slot), k9 + n = 4 → (jm_Sh v) → (∃ j, j < 256 ∧ v 25 0 = nI j) → (jm_fd v n = jm_fd (jm_mkS (jm_mk0 u i) i url (jm_under (jm_mk0 u i) nav)) 4) → jx_H D 22 ad (jm_cell ad cA v) A s.heap H locs → lv_has ls 8 [(0, .ref (ad 0)), (1, .int nav), (2, .int url), (3, .int (nI i)), (5, .int (jm_under (jm_mk0 u i) nav)), (6, .int (nI k9))] → W p l e (jr 2) s m args below meth c H locs 0 0 Q (F0 m 127 ls []) := by
                      intro n
                      induction n with
                      | zero =>
                        intro v k9 H locs ls hm hSv hlv hfv hh hl
                        refine lv_iload hx hb d_M_make_127 (lv_at hl 5 rfl) ?_
                        refine lv_iconst (v := 4) hx hb d_M_make_129 (by decide) ?_
                        refine lv_icmp_ge (tgt := 196) hx hb d_M_make_130 rfl (fun h130 => ?_) (fun hq => absurd (nI_le (show 4 ≤ k9 by omega) (show k9 < 2 ^ 31 by omega)) hq)
                        have J196 : ∀ (v : js_S) (H : Heap) (locs : List Loc) (ls : Array Slot), (∃ j, j < 256 ∧ v 25 0 = nI j) → (jm_make u nav url = jm_mk1 v i (jm_under (jm_mk0 u i) nav)) → jx_H D 22 ad (jm_cell ad cA v) A s.heap H locs → lv_has ls 8 [(0, .ref (ad 0)), (3, .int (nI i)), (5, .int (jm_under (jm_mk0 u i) nav))] → W p l e (jr 2) s m args below meth c H locs 0 0 Q (F0 m 196 ls []) := by
                          intro v H locs ls hlv hmk hh hl
                          refine lv_aload_n hx hb d_M_make_196 rfl (lv_at hl 0 rfl) ?_
                          refine jg_M hc hh 0 (by decide) rfl wf_M_7 d_M_make_197 ?_
                          refine lv_aload_n hx hb d_M_make_200 rfl (lv_at hl 0 rfl) ?_
                          refine jg_M hc hh 25 (by decide) rfl wf_M_93 d_M_make_201 ?_
                          refine lv_bipush (v := 8) hx hb d_M_make_204 (by decide) ?_
                          refine lv_idiv hx hb d_M_make_206 (by decide) ?_
                          refine jm_ild hc hh 0 (by decide) (by decide) (js_pgn hlv) d_M_make_207 ?_
                          refine lv_if_eq (tgt := 230) hx hb d_M_make_208 rfl (fun h208 => ?_) (fun h208 => ?_)
                          ·
                            refine lv_aload_n hx hb d_M_make_230 rfl (lv_at hl 0 rfl) ?_
                            refine jg_M hc hh 12 (by decide) rfl wf_M_47 d_M_make_231 ?_
                            refine lv_iload_n hx hb d_M_make_234 rfl (lv_at hl 1 rfl) ?_
                            refine lv_iload hx hb d_M_make_235 (lv_at hl 2 rfl) ?_
                            refine lv_if_ne (tgt := 255) hx hb d_M_make_237 rfl (fun h237 => ?_) (fun h237 => ?_)
                            ·
                              refine lv_iconst (v := 1) hx hb d_M_make_255 (by decide) ?_
                              refine lv_goto (tgt := 260) hx hb d_M_make_256 rfl ?_
                              have J260 : ∀  (ls : Array Slot), lv_has ls 8 [(0, .ref (ad 0)), (3, .int (nI i))] → W p l e (jr 2) s m args below meth c H locs 0 0 Q (F0 m 260 ls [.int (jm_mb v (jm_under (jm_mk0 u i) nav)), .int (nI i), .ref (ad 13)]) := by
                                intro  ls hl
                                refine jmi_zst hc hh 12 (by decide) (by decide) hi jm_mb_z d_M_make_260 (fun H locs hh => ?_)
                                refine lv_aload_n hx hb d_M_make_261 rfl (lv_at hl 0 rfl) ?_
                                refine jg_M hc hh 11 (by decide) rfl wf_M_44 d_M_make_262 ?_
                                refine lv_iload_n hx hb d_M_make_265 rfl (lv_at hl 1 rfl) ?_
                                refine lv_aload_n hx hb d_M_make_266 rfl (lv_at hl 0 rfl) ?_
                                refine jg_M hc hh 12 (by decide) rfl wf_M_47 d_M_make_267 ?_
                                refine lv_iload_n hx hb d_M_make_270 rfl (lv_at hl 1 rfl) ?_
                                refine jmi_zld hc hh 12 (by decide) (by decide) hi d_M_make_271 ?_
                                refine lv_if_eq (tgt := 282) hx hb d_M_make_272 rfl (fun h272 => ?_) (fun h272 => ?_)
                                ·
                                  refine lv_aload_n hx hb d_M_make_282 rfl (lv_at hl 0 rfl) ?_
                                  refine jg_M hc hh 25 (by decide) rfl wf_M_93 d_M_make_283 ?_
                                  refine lv_bipush (v := 64) hx hb d_M_make_286 (by decide) ?_
                                  refine lv_idiv hx hb d_M_make_288 (by decide) ?_
                                  refine jmi_ist hc hh 11 (by decide) (by decide) hi d_M_make_289 (fun H locs hh => ?_)
                                  refine lv_iload_n hx hb d_M_make_290 rfl (lv_at hl 1 rfl) ?_
                                  exact jx_iret (r := nI i) hc hh hQ hlk hr rfl rfl ⟨by rw [← hf], by rw [hmk]; simp [jm_mk1, jm_mkC, jm_opq, h208, h272]⟩ d_M_make_291
                                refine lv_aload_n hx hb d_M_make_275 rfl (lv_at hl 0 rfl) ?_
                                refine jx_callV [] [.int (nI i), .ref (ad 12)] hc hh (m_freshOrigin l D aK ad cA (js_up v 12 i (jm_mb v (jm_under (jm_mk0 u i) nav)))) wy_M_96 ⟨by decide, rfl, rfl⟩ (by decide) rfl hl.1 rfl (by simp [vc_int, vc_ref, vc_long, jv_cat]) ⟨Nat.zero_le _, Nat.zero_le _⟩ d_M_make_276 (fun r u9 H locs hp hh _ _ => ?_)
                                rw [hp.2] at hh
                                refine W.eq (g2 := F0 m 279 ls [.int (3 + ((js_up v 12 i (jm_mb v (jm_under (jm_mk0 u i) nav))) 22 0 + 1)), .int (nI i), .ref (ad 12)]) (by rw [hp.1]; rfl) ?_
                                refine lv_goto (tgt := 289) hx hb d_M_make_279 rfl ?_
                                refine jmi_ist hc hh 11 (by decide) (by decide) hi d_M_make_289 (fun H locs hh => ?_)
                                refine lv_iload_n hx hb d_M_make_290 rfl (lv_at hl 1 rfl) ?_
                                exact jx_iret (r := nI i) hc hh hQ hlk hr rfl rfl ⟨by rw [← hf], by rw [hmk]; simp [jm_mk1, jm_mkC, jm_opq, h208, h272]⟩ d_M_make_291
                              have e29 : (jm_mb v (jm_under (jm_mk0 u i) nav)) = 1 := by first | (simp [jm_mb, h208, h237]; done) | (simp [jm_mb, eq_true h208, h237]; done)
                              refine W.eq (g2 := F0 m 260 ls [.int (jm_mb v (jm_under (jm_mk0 u i) nav)), .int (nI i), .ref (ad 13)]) (by first | (rw [e29]; done) | (rw [e29]; rfl)) ?_
                              refine J260 _ ?_
                              exact lv_sub hl [0, 1] rfl
                            refine lv_aload_n hx hb d_M_make_240 rfl (lv_at hl 0 rfl) ?_
                            refine jg_M hc hh 3 (by decide) rfl wf_M_19 d_M_make_241 ?_
                            refine lv_aload_n hx hb d_M_make_244 rfl (lv_at hl 0 rfl) ?_
                            refine jg_M hc hh 25 (by decide) rfl wf_M_93 d_M_make_245 ?_
                            refine lv_bipush (v := 8) hx hb d_M_make_248 (by decide) ?_
                            refine lv_idiv hx hb d_M_make_250 (by decide) ?_
                            refine jm_zld hc hh 3 (by decide) (by decide) (js_pgn hlv) d_M_make_251 ?_
                            refine lv_if_eq (tgt := 259) hx hb d_M_make_252 rfl (fun h252 => ?_) (fun h252 => ?_)
                            ·
                              refine lv_iconst (v := 0) hx hb d_M_make_259 (by decide) ?_
                              have J260 : ∀  (ls : Array Slot), lv_has ls 8 [(0, .ref (ad 0)), (3, .int (nI i))] → W p l e (jr 2) s m args below meth c H locs 0 0 Q (F0 m 260 ls [.int (jm_mb v (jm_under (jm_mk0 u i) nav)), .int (nI i), .ref (ad 13)]) := by
                                intro  ls hl
                                refine jmi_zst hc hh 12 (by decide) (by decide) hi jm_mb_z d_M_make_260 (fun H locs hh => ?_)
                                refine lv_aload_n hx hb d_M_make_261 rfl (lv_at hl 0 rfl) ?_
                                refine jg_M hc hh 11 (by decide) rfl wf_M_44 d_M_make_262 ?_
                                refine lv_iload_n hx hb d_M_make_265 rfl (lv_at hl 1 rfl) ?_
                                refine lv_aload_n hx hb d_M_make_266 rfl (lv_at hl 0 rfl) ?_
                                refine jg_M hc hh 12 (by decide) rfl wf_M_47 d_M_make_267 ?_
                                refine lv_iload_n hx hb d_M_make_270 rfl (lv_at hl 1 rfl) ?_
                                refine jmi_zld hc hh 12 (by decide) (by decide) hi d_M_make_271 ?_
                                refine lv_if_eq (tgt := 282) hx hb d_M_make_272 rfl (fun h272 => ?_) (fun h272 => ?_)
                                ·
                                  refine lv_aload_n hx hb d_M_make_282 rfl (lv_at hl 0 rfl) ?_
                                  refine jg_M hc hh 25 (by decide) rfl wf_M_93 d_M_make_283 ?_
                                  refine lv_bipush (v := 64) hx hb d_M_make_286 (by decide) ?_
                                  refine lv_idiv hx hb d_M_make_288 (by decide) ?_
                                  refine jmi_ist hc hh 11 (by decide) (by decide) hi d_M_make_289 (fun H locs hh => ?_)
                                  refine lv_iload_n hx hb d_M_make_290 rfl (lv_at hl 1 rfl) ?_
                                  exact jx_iret (r := nI i) hc hh hQ hlk hr rfl rfl ⟨by rw [← hf], by rw [hmk]; simp [jm_mk1, jm_mkC, jm_opq, h208, h272]⟩ d_M_make_291
                                refine lv_aload_n hx hb d_M_make_275 rfl (lv_at hl 0 rfl) ?_
                                refine jx_callV [] [.int (nI i), .ref (ad 12)] hc hh (m_freshOrigin l D aK ad cA (js_up v 12 i (jm_mb v (jm_under (jm_mk0 u i) nav)))) wy_M_96 ⟨by decide, rfl, rfl⟩ (by decide) rfl hl.1 rfl (by simp [vc_int, vc_ref, vc_long, jv_cat]) ⟨Nat.zero_le _, Nat.zero_le _⟩ d_M_make_276 (fun r u9 H locs hp hh _ _ => ?_)
                                rw [hp.2] at hh
                                refine W.eq (g2 := F0 m 279 ls [.int (3 + ((js_up v 12 i (jm_mb v (jm_under (jm_mk0 u i) nav))) 22 0 + 1)), .int (nI i), .ref (ad 12)]) (by rw [hp.1]; rfl) ?_
                                refine lv_goto (tgt := 289) hx hb d_M_make_279 rfl ?_
                                refine jmi_ist hc hh 11 (by decide) (by decide) hi d_M_make_289 (fun H locs hh => ?_)
                                refine lv_iload_n hx hb d_M_make_290 rfl (lv_at hl 1 rfl) ?_
                                exact jx_iret (r := nI i) hc hh hQ hlk hr rfl rfl ⟨by rw [← hf], by rw [hmk]; simp [jm_mk1, jm_mkC, jm_opq, h208, h272]⟩ d_M_make_291
                              have e30 : (jm_mb v (jm_under (jm_mk0 u i) nav)) = 0 := by first | (simp [jm_mb, h208, h237, h252]; done) | (simp [jm_mb, eq_true h208, eq_true h237, eq_true h252]; done)
                              refine W.eq (g2 := F0 m 260 ls [.int (jm_mb v (jm_under (jm_mk0 u i) nav)), .int (nI i), .ref (ad 13)]) (by first | (rw [e30]; done) | (rw [e30]; rfl)) ?_
                              refine J260 _ ?_
                              exact lv_sub hl [0, 1] rfl
                            refine lv_iconst (v := 1) hx hb d_M_make_255 (by decide) ?_
                            refine lv_goto (tgt := 260) hx hb d_M_make_256 rfl ?_
                            have J260 : ∀  (ls : Array Slot), lv_has ls 8 [(0, .ref (ad 0)), (3, .int (nI i))] → W p l e (jr 2) s m args below meth c H locs 0 0 Q (F0 m 260 ls [.int (jm_mb v (jm_under (jm_mk0 u i) nav)), .int (nI i), .ref (ad 13)]) := by
                              intro  ls hl
                              refine jmi_zst hc hh 12 (by decide) (by decide) hi jm_mb_z d_M_make_260 (fun H locs hh => ?_)
                              refine lv_aload_n hx hb d_M_make_261 rfl (lv_at hl 0 rfl) ?_
                              refine jg_M hc hh 11 (by decide) rfl wf_M_44 d_M_make_262 ?_
                              refine lv_iload_n hx hb d_M_make_265 rfl (lv_at hl 1 rfl) ?_
                              refine lv_aload_n hx hb d_M_make_266 rfl (lv_at hl 0 rfl) ?_
                              refine jg_M hc hh 12 (by decide) rfl wf_M_47 d_M_make_267 ?_
                              refine lv_iload_n hx hb d_M_make_270 rfl (lv_at hl 1 rfl) ?_
                              refine jmi_zld hc hh 12 (by decide) (by decide) hi d_M_make_271 ?_
                              refine lv_if_eq (tgt := 282) hx hb d_M_make_272 rfl (fun h272 => ?_) (fun h272 => ?_)
                              ·
                                refine lv_aload_n hx hb d_M_make_282 rfl (lv_at hl 0 rfl) ?_
                                refine jg_M hc hh 25 (by decide) rfl wf_M_93 d_M_make_283 ?_
                                refine lv_bipush (v := 64) hx hb d_M_make_286 (by decide) ?_
                                refine lv_idiv hx hb d_M_make_288 (by decide) ?_
                                refine jmi_ist hc hh 11 (by decide) (by decide) hi d_M_make_289 (fun H locs hh => ?_)
                                refine lv_iload_n hx hb d_M_make_290 rfl (lv_at hl 1 rfl) ?_
                                exact jx_iret (r := nI i) hc hh hQ hlk hr rfl rfl ⟨by rw [← hf], by rw [hmk]; simp [jm_mk1, jm_mkC, jm_opq, h208, h272]⟩ d_M_make_291
                              refine lv_aload_n hx hb d_M_make_275 rfl (lv_at hl 0 rfl) ?_
                              refine jx_callV [] [.int (nI i), .ref (ad 12)] hc hh (m_freshOrigin l D aK ad cA (js_up v 12 i (jm_mb v (jm_under (jm_mk0 u i) nav)))) wy_M_96 ⟨by decide, rfl, rfl⟩ (by decide) rfl hl.1 rfl (by simp [vc_int, vc_ref, vc_long, jv_cat]) ⟨Nat.zero_le _, Nat.zero_le _⟩ d_M_make_276 (fun r u9 H locs hp hh _ _ => ?_)
                              rw [hp.2] at hh
                              refine W.eq (g2 := F0 m 279 ls [.int (3 + ((js_up v 12 i (jm_mb v (jm_under (jm_mk0 u i) nav))) 22 0 + 1)), .int (nI i), .ref (ad 12)]) (by rw [hp.1]; rfl) ?_
                              refine lv_goto (tgt := 289) hx hb d_M_make_279 rfl ?_
                              refine jmi_ist hc hh 11 (by decide) (by decide) hi d_M_make_289 (fun H locs hh => ?_)
                              refine lv_iload_n hx hb d_M_make_290 rfl (lv_at hl 1 rfl) ?_
                              exact jx_iret (r := nI i) hc hh hQ hlk hr rfl rfl ⟨by rw [← hf], by rw [hmk]; simp [jm_mk1, jm_mkC, jm_opq, h208, h272]⟩ d_M_make_291
                            have e31 : (jm_mb v (jm_under (jm_mk0 u i) nav)) = 1 := by first | (simp [jm_mb, h208, h237, h252]; done) | (simp [jm_mb, eq_true h208, eq_true h237, h252]; done)
                            refine W.eq (g2 := F0 m 260 ls [.int (jm_mb v (jm_under (jm_mk0 u i) nav)), .int (nI i), .ref (ad 13)]) (by first | (rw [e31]; done) | (rw [e31]; rfl)) ?_
                            refine J260 _ ?_
                            exact lv_sub hl [0, 1] rfl
                          refine lv_aload_n hx hb d_M_make_211 rfl (lv_at hl 0 rfl) ?_
                          refine jg_M hc hh 12 (by decide) rfl wf_M_47 d_M_make_212 ?_
                          refine lv_iload_n hx hb d_M_make_215 rfl (lv_at hl 1 rfl) ?_
                          refine lv_iconst (v := 0) hx hb d_M_make_216 (by decide) ?_
                          refine jmi_zst hc hh 12 (by decide) (by decide) hi (by decide) d_M_make_217 (fun H locs hh => ?_)
                          refine lv_aload_n hx hb d_M_make_218 rfl (lv_at hl 0 rfl) ?_
                          refine jg_M hc hh 11 (by decide) rfl wf_M_44 d_M_make_219 ?_
                          refine lv_iload_n hx hb d_M_make_222 rfl (lv_at hl 1 rfl) ?_
                          refine lv_aload_n hx hb d_M_make_223 rfl (lv_at hl 0 rfl) ?_
                          refine jx_callV [] [.int (nI i), .ref (ad 12)] hc hh (m_freshOrigin l D aK ad cA (js_up v 12 i 0)) wy_M_96 ⟨by decide, rfl, rfl⟩ (by decide) rfl hl.1 rfl (by simp [vc_int, vc_ref, vc_long, jv_cat]) ⟨Nat.zero_le _, Nat.zero_le _⟩ d_M_make_224 (fun r u9 H locs hp hh _ _ => ?_)
                          rw [hp.2] at hh
                          refine W.eq (g2 := F0 m 227 ls [.int (3 + ((js_up v 12 i 0) 22 0 + 1)), .int (nI i), .ref (ad 12)]) (by rw [hp.1]; rfl) ?_
                          refine jmi_ist hc hh 11 (by decide) (by decide) hi d_M_make_227 (fun H locs hh => ?_)
                          refine lv_iload_n hx hb d_M_make_228 rfl (lv_at hl 1 rfl) ?_
                          exact jx_iret (r := nI i) hc hh hQ hlk hr rfl rfl ⟨by rw [← hf], by rw [hmk]; simp [jm_mk1, jm_opq, h208]⟩ d_M_make_229
                        refine J196 v _ _ _ hlv (by rw [jm_make_i hf]; unfold jm_mkB; rw [if_neg h89, ← hfv]; first | rfl | simp [jm_fd, h146]) ?_ ?_
                        ·
                          exact hh
                        exact lv_sub hl [0, 3, 4] rfl
                      | succ n ih =>
                        intro v k9 H locs ls hm hSv hlv hfv hh hl
                        refine lv_iload hx hb d_M_make_127 (lv_at hl 5 rfl) ?_
                        refine lv_iconst (v := 4) hx hb d_M_make_129 (by decide) ?_
                        refine lv_icmp_ge (tgt := 196) hx hb d_M_make_130 rfl (fun hq => absurd hq (nI_ge (show k9 < 4 by omega) (by decide))) (fun h130 => ?_)
                        refine lv_aload_n hx hb d_M_make_133 rfl (lv_at hl 0 rfl) ?_
                        refine jg_M hc hh 0 (by decide) rfl wf_M_7 d_M_make_134 ?_
                        refine lv_aload_n hx hb d_M_make_137 rfl (lv_at hl 0 rfl) ?_
                        refine jg_M hc hh 25 (by decide) rfl wf_M_93 d_M_make_138 ?_
                        refine lv_bipush (v := 8) hx hb d_M_make_141 (by decide) ?_
                        refine lv_idiv hx hb d_M_make_143 (by decide) ?_
                        refine jm_ild hc hh 0 (by decide) (by decide) (js_pgn hlv) d_M_make_144 ?_
                        refine lv_iconst (v := 1) hx hb d_M_make_145 (by decide) ?_
                        refine lv_icmp_ne (tgt := 196) hx hb d_M_make_146 rfl (fun h146 => ?_) (fun h146 => ?_)
                        ·
                          have J196 : ∀ (v : js_S) (H : Heap) (locs : List Loc) (ls : Array Slot), (∃ j, j < 256 ∧ v 25 0 = nI j) → (jm_make u nav url = jm_mk1 v i (jm_under (jm_mk0 u i) nav)) → jx_H D 22 ad (jm_cell ad cA v) A s.heap H locs → lv_has ls 8 [(0, .ref (ad 0)), (3, .int (nI i)), (5, .int (jm_under (jm_mk0 u i) nav))] → W p l e (jr 2) s m args below meth c H locs 0 0 Q (F0 m 196 ls []) := by
                            intro v H locs ls hlv hmk hh hl
                            refine lv_aload_n hx hb d_M_make_196 rfl (lv_at hl 0 rfl) ?_
                            refine jg_M hc hh 0 (by decide) rfl wf_M_7 d_M_make_197 ?_
                            refine lv_aload_n hx hb d_M_make_200 rfl (lv_at hl 0 rfl) ?_
                            refine jg_M hc hh 25 (by decide) rfl wf_M_93 d_M_make_201 ?_
                            refine lv_bipush (v := 8) hx hb d_M_make_204 (by decide) ?_
                            refine lv_idiv hx hb d_M_make_206 (by decide) ?_
                            refine jm_ild hc hh 0 (by decide) (by decide) (js_pgn hlv) d_M_make_207 ?_
                            refine lv_if_eq (tgt := 230) hx hb d_M_make_208 rfl (fun h208 => ?_) (fun h208 => ?_)
                            ·
                              refine lv_aload_n hx hb d_M_make_230 rfl (lv_at hl 0 rfl) ?_
                              refine jg_M hc hh 12 (by decide) rfl wf_M_47 d_M_make_231 ?_
                              refine lv_iload_n hx hb d_M_make_234 rfl (lv_at hl 1 rfl) ?_
                              refine lv_iload hx hb d_M_make_235 (lv_at hl 2 rfl) ?_
                              refine lv_if_ne (tgt := 255) hx hb d_M_make_237 rfl (fun h237 => ?_) (fun h237 => ?_)
                              ·
                                refine lv_iconst (v := 1) hx hb d_M_make_255 (by decide) ?_
                                refine lv_goto (tgt := 260) hx hb d_M_make_256 rfl ?_
                                have J260 : ∀  (ls : Array Slot), lv_has ls 8 [(0, .ref (ad 0)), (3, .int (nI i))] → W p l e (jr 2) s m args below meth c H locs 0 0 Q (F0 m 260 ls [.int (jm_mb v (jm_under (jm_mk0 u i) nav)), .int (nI i), .ref (ad 13)]) := by
                                  intro  ls hl
                                  refine jmi_zst hc hh 12 (by decide) (by decide) hi jm_mb_z d_M_make_260 (fun H locs hh => ?_)
                                  refine lv_aload_n hx hb d_M_make_261 rfl (lv_at hl 0 rfl) ?_
                                  refine jg_M hc hh 11 (by decide) rfl wf_M_44 d_M_make_262 ?_
                                  refine lv_iload_n hx hb d_M_make_265 rfl (lv_at hl 1 rfl) ?_
                                  refine lv_aload_n hx hb d_M_make_266 rfl (lv_at hl 0 rfl) ?_
                                  refine jg_M hc hh 12 (by decide) rfl wf_M_47 d_M_make_267 ?_
                                  refine lv_iload_n hx hb d_M_make_270 rfl (lv_at hl 1 rfl) ?_
                                  refine jmi_zld hc hh 12 (by decide) (by decide) hi d_M_make_271 ?_
                                  refine lv_if_eq (tgt := 282) hx hb d_M_make_272 rfl (fun h272 => ?_) (fun h272 => ?_)
                                  ·
                                    refine lv_aload_n hx hb d_M_make_282 rfl (lv_at hl 0 rfl) ?_
                                    refine jg_M hc hh 25 (by decide) rfl wf_M_93 d_M_make_283 ?_
                                    refine lv_bipush (v := 64) hx hb d_M_make_286 (by decide) ?_
                                    refine lv_idiv hx hb d_M_make_288 (by decide) ?_
                                    refine jmi_ist hc hh 11 (by decide) (by decide) hi d_M_make_289 (fun H locs hh => ?_)
                                    refine lv_iload_n hx hb d_M_make_290 rfl (lv_at hl 1 rfl) ?_
                                    exact jx_iret (r := nI i) hc hh hQ hlk hr rfl rfl ⟨by rw [← hf], by rw [hmk]; simp [jm_mk1, jm_mkC, jm_opq, h208, h272]⟩ d_M_make_291
                                  refine lv_aload_n hx hb d_M_make_275 rfl (lv_at hl 0 rfl) ?_
                                  refine jx_callV [] [.int (nI i), .ref (ad 12)] hc hh (m_freshOrigin l D aK ad cA (js_up v 12 i (jm_mb v (jm_under (jm_mk0 u i) nav)))) wy_M_96 ⟨by decide, rfl, rfl⟩ (by decide) rfl hl.1 rfl (by simp [vc_int, vc_ref, vc_long, jv_cat]) ⟨Nat.zero_le _, Nat.zero_le _⟩ d_M_make_276 (fun r u9 H locs hp hh _ _ => ?_)
                                  rw [hp.2] at hh
                                  refine W.eq (g2 := F0 m 279 ls [.int (3 + ((js_up v 12 i (jm_mb v (jm_under (jm_mk0 u i) nav))) 22 0 + 1)), .int (nI i), .ref (ad 12)]) (by rw [hp.1]; rfl) ?_
                                  refine lv_goto (tgt := 289) hx hb d_M_make_279 rfl ?_
                                  refine jmi_ist hc hh 11 (by decide) (by decide) hi d_M_make_289 (fun H locs hh => ?_)
                                  refine lv_iload_n hx hb d_M_make_290 rfl (lv_at hl 1 rfl) ?_
                                  exact jx_iret (r := nI i) hc hh hQ hlk hr rfl rfl ⟨by rw [← hf], by rw [hmk]; simp [jm_mk1, jm_mkC, jm_opq, h208, h272]⟩ d_M_make_291
                                have e32 : (jm_mb v (jm_under (jm_mk0 u i) nav)) = 1 := by first | (simp [jm_mb, h208, h237]; done) | (simp [jm_mb, eq_true h208, h237]; done)
                                refine W.eq (g2 := F0 m 260 ls [.int (jm_mb v (jm_under (jm_mk0 u i) nav)), .int (nI i), .ref (ad 13)]) (by first | (rw [e32]; done) | (rw [e32]; rfl)) ?_
                                refine J260 _ ?_
                                exact lv_sub hl [0, 1] rfl
                              refine lv_aload_n hx hb d_M_make_240 rfl (lv_at hl 0 rfl) ?_
                              refine jg_M hc hh 3 (by decide) rfl wf_M_19 d_M_make_241 ?_
                              refine lv_aload_n hx hb d_M_make_244 rfl (lv_at hl 0 rfl) ?_
                              refine jg_M hc hh 25 (by decide) rfl wf_M_93 d_M_make_245 ?_
                              refine lv_bipush (v := 8) hx hb d_M_make_248 (by decide) ?_
                              refine lv_idiv hx hb d_M_make_250 (by decide) ?_
                              refine jm_zld hc hh 3 (by decide) (by decide) (js_pgn hlv) d_M_make_251 ?_
                              refine lv_if_eq (tgt := 259) hx hb d_M_make_252 rfl (fun h252 => ?_) (fun h252 => ?_)
                              ·
                                refine lv_iconst (v := 0) hx hb d_M_make_259 (by decide) ?_
                                have J260 : ∀  (ls : Array Slot), lv_has ls 8 [(0, .ref (ad 0)), (3, .int (nI i))] → W p l e (jr 2) s m args below meth c H locs 0 0 Q (F0 m 260 ls [.int (jm_mb v (jm_under (jm_mk0 u i) nav)), .int (nI i), .ref (ad 13)]) := by
                                  intro  ls hl
                                  refine jmi_zst hc hh 12 (by decide) (by decide) hi jm_mb_z d_M_make_260 (fun H locs hh => ?_)
                                  refine lv_aload_n hx hb d_M_make_261 rfl (lv_at hl 0 rfl) ?_
                                  refine jg_M hc hh 11 (by decide) rfl wf_M_44 d_M_make_262 ?_
                                  refine lv_iload_n hx hb d_M_make_265 rfl (lv_at hl 1 rfl) ?_
                                  refine lv_aload_n hx hb d_M_make_266 rfl (lv_at hl 0 rfl) ?_
                                  refine jg_M hc hh 12 (by decide) rfl wf_M_47 d_M_make_267 ?_
                                  refine lv_iload_n hx hb d_M_make_270 rfl (lv_at hl 1 rfl) ?_
                                  refine jmi_zld hc hh 12 (by decide) (by decide) hi d_M_make_271 ?_
                                  refine lv_if_eq (tgt := 282) hx hb d_M_make_272 rfl (fun h272 => ?_) (fun h272 => ?_)
                                  ·
                                    refine lv_aload_n hx hb d_M_make_282 rfl (lv_at hl 0 rfl) ?_
                                    refine jg_M hc hh 25 (by decide) rfl wf_M_93 d_M_make_283 ?_
                                    refine lv_bipush (v := 64) hx hb d_M_make_286 (by decide) ?_
                                    refine lv_idiv hx hb d_M_make_288 (by decide) ?_
                                    refine jmi_ist hc hh 11 (by decide) (by decide) hi d_M_make_289 (fun H locs hh => ?_)
                                    refine lv_iload_n hx hb d_M_make_290 rfl (lv_at hl 1 rfl) ?_
                                    exact jx_iret (r := nI i) hc hh hQ hlk hr rfl rfl ⟨by rw [← hf], by rw [hmk]; simp [jm_mk1, jm_mkC, jm_opq, h208, h272]⟩ d_M_make_291
                                  refine lv_aload_n hx hb d_M_make_275 rfl (lv_at hl 0 rfl) ?_
                                  refine jx_callV [] [.int (nI i), .ref (ad 12)] hc hh (m_freshOrigin l D aK ad cA (js_up v 12 i (jm_mb v (jm_under (jm_mk0 u i) nav)))) wy_M_96 ⟨by decide, rfl, rfl⟩ (by decide) rfl hl.1 rfl (by simp [vc_int, vc_ref, vc_long, jv_cat]) ⟨Nat.zero_le _, Nat.zero_le _⟩ d_M_make_276 (fun r u9 H locs hp hh _ _ => ?_)
                                  rw [hp.2] at hh
                                  refine W.eq (g2 := F0 m 279 ls [.int (3 + ((js_up v 12 i (jm_mb v (jm_under (jm_mk0 u i) nav))) 22 0 + 1)), .int (nI i), .ref (ad 12)]) (by rw [hp.1]; rfl) ?_
                                  refine lv_goto (tgt := 289) hx hb d_M_make_279 rfl ?_
                                  refine jmi_ist hc hh 11 (by decide) (by decide) hi d_M_make_289 (fun H locs hh => ?_)
                                  refine lv_iload_n hx hb d_M_make_290 rfl (lv_at hl 1 rfl) ?_
                                  exact jx_iret (r := nI i) hc hh hQ hlk hr rfl rfl ⟨by rw [← hf], by rw [hmk]; simp [jm_mk1, jm_mkC, jm_opq, h208, h272]⟩ d_M_make_291
                                have e33 : (jm_mb v (jm_under (jm_mk0 u i) nav)) = 0 := by first | (simp [jm_mb, h208, h237, h252]; done) | (simp [jm_mb, eq_true h208, eq_true h237, eq_true h252]; done)
                                refine W.eq (g2 := F0 m 260 ls [.int (jm_mb v (jm_under (jm_mk0 u i) nav)), .int (nI i), .ref (ad 13)]) (by first | (rw [e33]; done) | (rw [e33]; rfl)) ?_
                                refine J260 _ ?_
                                exact lv_sub hl [0, 1] rfl
                              refine lv_iconst (v := 1) hx hb d_M_make_255 (by decide) ?_
                              refine lv_goto (tgt := 260) hx hb d_M_make_256 rfl ?_
                              have J260 : ∀  (ls : Array Slot), lv_has ls 8 [(0, .ref (ad 0)), (3, .int (nI i))] → W p l e (jr 2) s m args below meth c H locs 0 0 Q (F0 m 260 ls [.int (jm_mb v (jm_under (jm_mk0 u i) nav)), .int (nI i), .ref (ad 13)]) := by
                                intro  ls hl
                                refine jmi_zst hc hh 12 (by decide) (by decide) hi jm_mb_z d_M_make_260 (fun H locs hh => ?_)
                                refine lv_aload_n hx hb d_M_make_261 rfl (lv_at hl 0 rfl) ?_
                                refine jg_M hc hh 11 (by decide) rfl wf_M_44 d_M_make_262 ?_
                                refine lv_iload_n hx hb d_M_make_265 rfl (lv_at hl 1 rfl) ?_
                                refine lv_aload_n hx hb d_M_make_266 rfl (lv_at hl 0 rfl) ?_
                                refine jg_M hc hh 12 (by decide) rfl wf_M_47 d_M_make_267 ?_
                                refine lv_iload_n hx hb d_M_make_270 rfl (lv_at hl 1 rfl) ?_
                                refine jmi_zld hc hh 12 (by decide) (by decide) hi d_M_make_271 ?_
                                refine lv_if_eq (tgt := 282) hx hb d_M_make_272 rfl (fun h272 => ?_) (fun h272 => ?_)
                                ·
                                  refine lv_aload_n hx hb d_M_make_282 rfl (lv_at hl 0 rfl) ?_
                                  refine jg_M hc hh 25 (by decide) rfl wf_M_93 d_M_make_283 ?_
                                  refine lv_bipush (v := 64) hx hb d_M_make_286 (by decide) ?_
                                  refine lv_idiv hx hb d_M_make_288 (by decide) ?_
                                  refine jmi_ist hc hh 11 (by decide) (by decide) hi d_M_make_289 (fun H locs hh => ?_)
                                  refine lv_iload_n hx hb d_M_make_290 rfl (lv_at hl 1 rfl) ?_
                                  exact jx_iret (r := nI i) hc hh hQ hlk hr rfl rfl ⟨by rw [← hf], by rw [hmk]; simp [jm_mk1, jm_mkC, jm_opq, h208, h272]⟩ d_M_make_291
                                refine lv_aload_n hx hb d_M_make_275 rfl (lv_at hl 0 rfl) ?_
                                refine jx_callV [] [.int (nI i), .ref (ad 12)] hc hh (m_freshOrigin l D aK ad cA (js_up v 12 i (jm_mb v (jm_under (jm_mk0 u i) nav)))) wy_M_96 ⟨by decide, rfl, rfl⟩ (by decide) rfl hl.1 rfl (by simp [vc_int, vc_ref, vc_long, jv_cat]) ⟨Nat.zero_le _, Nat.zero_le _⟩ d_M_make_276 (fun r u9 H locs hp hh _ _ => ?_)
                                rw [hp.2] at hh
                                refine W.eq (g2 := F0 m 279 ls [.int (3 + ((js_up v 12 i (jm_mb v (jm_under (jm_mk0 u i) nav))) 22 0 + 1)), .int (nI i), .ref (ad 12)]) (by rw [hp.1]; rfl) ?_
                                refine lv_goto (tgt := 289) hx hb d_M_make_279 rfl ?_
                                refine jmi_ist hc hh 11 (by decide) (by decide) hi d_M_make_289 (fun H locs hh => ?_)
                                refine lv_iload_n hx hb d_M_make_290 rfl (lv_at hl 1 rfl) ?_
                                exact jx_iret (r := nI i) hc hh hQ hlk hr rfl rfl ⟨by rw [← hf], by rw [hmk]; simp [jm_mk1, jm_mkC, jm_opq, h208, h272]⟩ d_M_make_291
                              have e34 : (jm_mb v (jm_under (jm_mk0 u i) nav)) = 1 := by first | (simp [jm_mb, h208, h237, h252]; done) | (simp [jm_mb, eq_true h208, eq_true h237, h252]; done)
                              refine W.eq (g2 := F0 m 260 ls [.int (jm_mb v (jm_under (jm_mk0 u i) nav)), .int (nI i), .ref (ad 13)]) (by first | (rw [e34]; done) | (rw [e34]; rfl)) ?_
                              refine J260 _ ?_
                              exact lv_sub hl [0, 1] rfl
                            refine lv_aload_n hx hb d_M_make_211 rfl (lv_at hl 0 rfl) ?_
                            refine jg_M hc hh 12 (by decide) rfl wf_M_47 d_M_make_212 ?_
                            refine lv_iload_n hx hb d_M_make_215 rfl (lv_at hl 1 rfl) ?_
                            refine lv_iconst (v := 0) hx hb d_M_make_216 (by decide) ?_
                            refine jmi_zst hc hh 12 (by decide) (by decide) hi (by decide) d_M_make_217 (fun H locs hh => ?_)
                            refine lv_aload_n hx hb d_M_make_218 rfl (lv_at hl 0 rfl) ?_
                            refine jg_M hc hh 11 (by decide) rfl wf_M_44 d_M_make_219 ?_
                            refine lv_iload_n hx hb d_M_make_222 rfl (lv_at hl 1 rfl) ?_
                            refine lv_aload_n hx hb d_M_make_223 rfl (lv_at hl 0 rfl) ?_
                            refine jx_callV [] [.int (nI i), .ref (ad 12)] hc hh (m_freshOrigin l D aK ad cA (js_up v 12 i 0)) wy_M_96 ⟨by decide, rfl, rfl⟩ (by decide) rfl hl.1 rfl (by simp [vc_int, vc_ref, vc_long, jv_cat]) ⟨Nat.zero_le _, Nat.zero_le _⟩ d_M_make_224 (fun r u9 H locs hp hh _ _ => ?_)
                            rw [hp.2] at hh
                            refine W.eq (g2 := F0 m 227 ls [.int (3 + ((js_up v 12 i 0) 22 0 + 1)), .int (nI i), .ref (ad 12)]) (by rw [hp.1]; rfl) ?_
                            refine jmi_ist hc hh 11 (by decide) (by decide) hi d_M_make_227 (fun H locs hh => ?_)
                            refine lv_iload_n hx hb d_M_make_228 rfl (lv_at hl 1 rfl) ?_
                            exact jx_iret (r := nI i) hc hh hQ hlk hr rfl rfl ⟨by rw [← hf], by rw [hmk]; simp [jm_mk1, jm_opq, h208]⟩ d_M_make_229
                          refine J196 v _ _ _ hlv (by rw [jm_make_i hf]; unfold jm_mkB; rw [if_neg h89, ← hfv]; first | rfl | simp [jm_fd, h146]) ?_ ?_
                          ·
                            exact hh
                          exact lv_sub hl [0, 3, 4] rfl
                        refine lv_aload_n hx hb d_M_make_149 rfl (lv_at hl 0 rfl) ?_
                        refine jg_M hc hh 1 (by decide) rfl wf_M_13 d_M_make_150 ?_
                        refine lv_aload_n hx hb d_M_make_153 rfl (lv_at hl 0 rfl) ?_
                        refine jg_M hc hh 25 (by decide) rfl wf_M_93 d_M_make_154 ?_
                        refine lv_bipush (v := 8) hx hb d_M_make_157 (by decide) ?_
                        refine lv_idiv hx hb d_M_make_159 (by decide) ?_
                        refine jm_ild hc hh 1 (by decide) (by decide) (js_pgn hlv) d_M_make_160 ?_
                        refine lv_istore (i := 7) (lv' := [(7, .int (v 1 (ix ((v 25 0) / 8)))), (0, .ref (ad 0)), (1, .int nav), (2, .int url), (3, .int (nI i)), (5, .int (jm_under (jm_mk0 u i) nav)), (6, .int (nI k9))]) hx hb d_M_make_161 hl (by decide) rfl (fun ls hl => ?_)
                        refine lv_aload_n hx hb d_M_make_163 rfl (lv_at hl 1 rfl) ?_
                        refine lv_iload hx hb d_M_make_164 (lv_at hl 0 rfl) ?_
                        refine lv_bipush (v := 8) hx hb d_M_make_166 (by decide) ?_
                        refine lv_irem hx hb d_M_make_168 (by decide) ?_
                        refine lv_if_ne (tgt := 185) hx hb d_M_make_169 rfl (fun h169 => ?_) (fun h169 => ?_)
                        ·
                          refine lv_iload hx hb d_M_make_185 (lv_at hl 0 rfl) ?_
                          refine jpm_25 hc hh wf_M_93 d_M_make_187 (fun H locs hh => ?_)
                          refine lv_iinc (k := 6) (v := nI (k9 + 1)) (lv' := [(6, .int (nI (k9 + 1))), (7, .int (v 1 (ix ((v 25 0) / 8)))), (0, .ref (ad 0)), (1, .int nav), (2, .int url), (3, .int (nI i)), (5, .int (jm_under (jm_mk0 u i) nav))]) hx hb d_M_make_190 hl rfl (nI_1 k9) (by decide) rfl (fun ls hl => ?_)
                          refine lv_goto (tgt := 127) hx hb d_M_make_193 rfl ?_
                          refine ih (js_up v 25 0 (v 1 (ix ((v 25 0) / 8)))) (k9 + 1) _ _ _ (by omega) (jm_Sh_25 hSv) (by rw [js_up_s]; have q9 := jm_led hSv hlv h146; simpa [h169] using q9) (by rw [← hfv]; simp [jm_fd, h146, h169]) ?_ ?_
                          ·
                            exact hh
                          exact lv_sub hl [2, 3, 4, 5, 6, 0] rfl
                        refine lv_iload hx hb d_M_make_172 (lv_at hl 0 rfl) ?_
                        refine lv_aload_n hx hb d_M_make_174 rfl (lv_at hl 1 rfl) ?_
                        refine jg_M hc hh 25 (by decide) rfl wf_M_93 d_M_make_175 ?_
                        refine lv_bipush (v := 8) hx hb d_M_make_178 (by decide) ?_
                        refine lv_irem hx hb d_M_make_180 (by decide) ?_
                        refine lv_iadd hx hb d_M_make_181 ?_
                        refine lv_goto (tgt := 187) hx hb d_M_make_182 rfl ?_
                        refine jpm_25 hc hh wf_M_93 d_M_make_187 (fun H locs hh => ?_)
                        refine lv_iinc (k := 6) (v := nI (k9 + 1)) (lv' := [(6, .int (nI (k9 + 1))), (7, .int (v 1 (ix ((v 25 0) / 8)))), (0, .ref (ad 0)), (1, .int nav), (2, .int url), (3, .int (nI i)), (5, .int (jm_under (jm_mk0 u i) nav))]) hx hb d_M_make_190 hl rfl (nI_1 k9) (by decide) rfl (fun ls hl => ?_)
                        refine lv_goto (tgt := 127) hx hb d_M_make_193 rfl ?_
                        refine ih (js_up v 25 0 ((v 1 (ix ((v 25 0) / 8))) + ((v 25 0) - (v 25 0) / 8 * 8))) (k9 + 1) _ _ _ (by omega) (jm_Sh_25 hSv) (by rw [js_up_s]; have q9 := jm_led hSv hlv h146; simpa [h169] using q9) (by rw [← hfv]; simp [jm_fd, h146, h169]) ?_ ?_
                        ·
                          exact hh
                        exact lv_sub hl [2, 3, 4, 5, 6, 0] rfl
                    have e35 : nI 0 = 0 := rfl
                    refine L127 4 (jm_mkS (jm_mk0 u i) i url (jm_under (jm_mk0 u i) nav)) 0 _ _ _ (by omega) (jm_Sh_mkS (jm_Sh_mk0 hS)) (by rw [jm_mkS_25]; exact jq_ne hu h89) rfl ?_ ?_
                    ·
                      try rw [e35]
                      exact hh
                    try rw [e35]
                    exact lv_sub hl [1, 2, 3, 4, 6, 0] rfl
                  refine lv_aload_n hx hb d_M_make_92 rfl (lv_at hl 0 rfl) ?_
                  refine jg_M hc hh 11 (by decide) rfl wf_M_44 d_M_make_93 ?_
                  refine lv_iload_n hx hb d_M_make_96 rfl (lv_at hl 3 rfl) ?_
                  refine lv_iload hx hb d_M_make_97 (lv_at hl 4 rfl) ?_
                  refine lv_if_lt (tgt := 117) hx hb d_M_make_99 rfl (fun h99 => ?_) (fun h99 => ?_)
                  ·
                    refine lv_aload_n hx hb d_M_make_117 rfl (lv_at hl 0 rfl) ?_
                    refine jx_callV [] [.int (nI i), .ref (ad 12)] hc hh (m_freshOrigin l D aK ad cA (jm_mkS (jm_mk0 u i) i url (jm_under (jm_mk0 u i) nav))) wy_M_96 ⟨by decide, rfl, rfl⟩ (by decide) rfl hl.1 rfl (by simp [vc_int, vc_ref, vc_long, jv_cat]) ⟨Nat.zero_le _, Nat.zero_le _⟩ d_M_make_118 (fun r u9 H locs hp hh _ _ => ?_)
                    rw [hp.2] at hh
                    refine W.eq (g2 := F0 m 121 ls [.int (3 + ((jm_mkS (jm_mk0 u i) i url (jm_under (jm_mk0 u i) nav)) 22 0 + 1)), .int (nI i), .ref (ad 12)]) (by rw [hp.1]; rfl) ?_
                    refine jmi_ist hc hh 11 (by decide) (by decide) hi d_M_make_121 (fun H locs hh => ?_)
                    refine lv_iload_n hx hb d_M_make_122 rfl (lv_at hl 3 rfl) ?_
                    exact jx_iret (r := nI i) hc hh hQ hlk hr rfl rfl ⟨by rw [← hf], by rw [jm_make_i hf]; simp [jm_mkB, jm_mkA, jm_opq, h89, h99]⟩ d_M_make_123
                  refine lv_iload hx hb d_M_make_102 (lv_at hl 5 rfl) ?_
                  refine lv_if_ne (tgt := 117) hx hb d_M_make_104 rfl (fun h104 => ?_) (fun h104 => ?_)
                  ·
                    refine lv_aload_n hx hb d_M_make_117 rfl (lv_at hl 0 rfl) ?_
                    refine jx_callV [] [.int (nI i), .ref (ad 12)] hc hh (m_freshOrigin l D aK ad cA (jm_mkS (jm_mk0 u i) i url (jm_under (jm_mk0 u i) nav))) wy_M_96 ⟨by decide, rfl, rfl⟩ (by decide) rfl hl.1 rfl (by simp [vc_int, vc_ref, vc_long, jv_cat]) ⟨Nat.zero_le _, Nat.zero_le _⟩ d_M_make_118 (fun r u9 H locs hp hh _ _ => ?_)
                    rw [hp.2] at hh
                    refine W.eq (g2 := F0 m 121 ls [.int (3 + ((jm_mkS (jm_mk0 u i) i url (jm_under (jm_mk0 u i) nav)) 22 0 + 1)), .int (nI i), .ref (ad 12)]) (by rw [hp.1]; rfl) ?_
                    refine jmi_ist hc hh 11 (by decide) (by decide) hi d_M_make_121 (fun H locs hh => ?_)
                    refine lv_iload_n hx hb d_M_make_122 rfl (lv_at hl 3 rfl) ?_
                    exact jx_iret (r := nI i) hc hh hQ hlk hr rfl rfl ⟨by rw [← hf], by rw [jm_make_i hf]; simp [jm_mkB, jm_mkA, jm_opq, h89, h99, h104]⟩ d_M_make_123
                  refine lv_aload_n hx hb d_M_make_107 rfl (lv_at hl 0 rfl) ?_
                  refine jg_M hc hh 11 (by decide) rfl wf_M_44 d_M_make_108 ?_
                  refine lv_iload hx hb d_M_make_111 (lv_at hl 4 rfl) ?_
                  refine jm_ild hc hh 11 (by decide) (by decide) (jq_nn (jm_Sax (jm_Sh_mk0 hS) h_nav) h99) d_M_make_113 ?_
                  refine lv_goto (tgt := 121) hx hb d_M_make_114 rfl ?_
                  refine jmi_ist hc hh 11 (by decide) (by decide) hi d_M_make_121 (fun H locs hh => ?_)
                  refine lv_iload_n hx hb d_M_make_122 rfl (lv_at hl 3 rfl) ?_
                  exact jx_iret (r := nI i) hc hh hQ hlk hr rfl rfl ⟨by rw [← hf], by rw [jm_make_i hf]; simp [jm_mkB, jm_mkA, jm_opq, h89, h99, h104]⟩ d_M_make_123
                have e36 : (jm_mkS (jm_mk0 u i) i url (jm_under (jm_mk0 u i) nav)) = (js_up (js_up (jm_mk0 u i) 25 0 url) 12 i (jm_under (jm_mk0 u i) nav)) := rfl
                refine J87 _ _ _ ?_ ?_
                ·
                  try rw [e36]
                  exact hh
                try rw [e36]
                exact lv_sub hl [1, 2, 3, 4, 5, 0] rfl
              have e37 : (jm_under (jm_mk0 u i) nav) = 0 := by simp [jm_under, h54]
              refine W.eq (g2 := F0 m 72 ls [.int (jm_under (jm_mk0 u i) nav)]) (by first | (rw [e37]; done) | (rw [e37]; rfl)) ?_
              refine J72 _ ?_
              exact lv_sub hl [1, 2, 3, 4, 0] rfl
            refine lv_aload_n hx hb d_M_make_57 rfl (lv_at hl 1 rfl) ?_
            refine jg_M hc hh 12 (by decide) rfl wf_M_47 d_M_make_58 ?_
            refine lv_iload hx hb d_M_make_61 (lv_at hl 0 rfl) ?_
            refine jm_zld hc hh 12 (by decide) (by decide) (jq_nn (jm_Sax (jm_Sh_mk0 hS) h_nav) h54) d_M_make_63 ?_
            refine lv_if_eq (tgt := 71) hx hb d_M_make_64 rfl (fun h64 => ?_) (fun h64 => ?_)
            ·
              refine lv_iconst (v := 0) hx hb d_M_make_71 (by decide) ?_
              have J72 : ∀  (ls : Array Slot), lv_has ls 8 [(0, .ref (ad 0)), (1, .int nav), (2, .int url), (3, .int (nI i)), (4, .int ((jm_mk0 u i) 16 (ix nav)))] → W p l e (jr 2) s m args below meth c H locs 0 0 Q (F0 m 72 ls [.int (jm_under (jm_mk0 u i) nav)]) := by
                intro  ls hl
                refine lv_istore (i := 5) (lv' := [(5, .int (jm_under (jm_mk0 u i) nav)), (0, .ref (ad 0)), (1, .int nav), (2, .int url), (3, .int (nI i)), (4, .int ((jm_mk0 u i) 16 (ix nav)))]) hx hb d_M_make_72 hl (by decide) rfl (fun ls hl => ?_)
                refine lv_aload_n hx hb d_M_make_74 rfl (lv_at hl 1 rfl) ?_
                refine lv_iload_n hx hb d_M_make_75 rfl (lv_at hl 3 rfl) ?_
                refine jpm_25 hc hh wf_M_93 d_M_make_76 (fun H locs hh => ?_)
                refine lv_aload_n hx hb d_M_make_79 rfl (lv_at hl 1 rfl) ?_
                refine jg_M hc hh 12 (by decide) rfl wf_M_47 d_M_make_80 ?_
                refine lv_iload_n hx hb d_M_make_83 rfl (lv_at hl 4 rfl) ?_
                refine lv_iload hx hb d_M_make_84 (lv_at hl 0 rfl) ?_
                refine jmi_zst hc hh 12 (by decide) (by decide) hi jm_under_z d_M_make_86 (fun H locs hh => ?_)
                have J87 : ∀  (H : Heap) (locs : List Loc) (ls : Array Slot), jx_H D 22 ad (jm_cell ad cA (jm_mkS (jm_mk0 u i) i url (jm_under (jm_mk0 u i) nav))) A s.heap H locs → lv_has ls 8 [(0, .ref (ad 0)), (1, .int nav), (2, .int url), (3, .int (nI i)), (4, .int ((jm_mk0 u i) 16 (ix nav))), (5, .int (jm_under (jm_mk0 u i) nav))] → W p l e (jr 2) s m args below meth c H locs 0 0 Q (F0 m 87 ls []) := by
                  intro  H locs ls hh hl
                  refine lv_iload_n hx hb d_M_make_87 rfl (lv_at hl 2 rfl) ?_
                  refine lv_iconst (v := -1) hx hb d_M_make_88 (by decide) ?_
                  refine lv_icmp_ne (tgt := 124) hx hb d_M_make_89 rfl (fun h89 => ?_) (fun h89 => ?_)
                  ·
                    refine lv_iconst (v := 0) hx hb d_M_make_124 (by decide) ?_
                    refine lv_istore (i := 6) (lv' := [(6, .int 0), (0, .ref (ad 0)), (1, .int nav), (2, .int url), (3, .int (nI i)), (4, .int ((jm_mk0 u i) 16 (ix nav))), (5, .int (jm_under (jm_mk0 u i) nav))]) hx hb d_M_make_125 hl (by decide) rfl (fun ls hl => ?_)
                    have L127 : ∀ (n : Nat) (v : js_S) (k9 : Nat) (H : Heap) (locs : List Loc) (ls : Array Slot), k9 + n = 4 → (jm_Sh v) → (∃ j, j < 256 ∧ v 25 0 = nI j) → (jm_fd v n = jm_fd (jm_mkS (jm_mk0 u i) i url (jm_under (jm_mk0 u i) nav)) 4) → jx_H D 22 ad (jm_cell ad cA v) A s.heap H locs → lv_has ls 8 [(0, .ref (ad 0)), (1, .int nav), (2, .int url), (3, .int (nI i)), (5, .int (jm_under (jm_mk0 u i) nav)), (6, .int (nI k9))] → W p l e (jr 2) s m args below meth c H locs 0 0 Q (F0 m 127 ls []) := by
                      intro n
                      induction n with
                      | zero =>
                        intro v k9 H locs ls hm hSv hlv hfv hh hl
                        refine lv_iload hx hb d_M_make_127 (lv_at hl 5 rfl) ?_
                        refine lv_iconst (v := 4) hx hb d_M_make_129 (by decide) ?_
                        refine lv_icmp_ge (tgt := 196) hx hb d_M_make_130 rfl (fun h130 => ?_) (fun hq => absurd (nI_le (show 4 ≤ k9 by omega) (show k9 < 2 ^ 31 by omega)) hq)
                        have J196 : ∀ (v : js_S) (H : Heap) (locs : List Loc) (ls : Array Slot), (∃ j, j < 256 ∧ v 25 0 = nI j) → (jm_make u nav url = jm_mk1 v i (jm_under (jm_mk0 u i) nav)) → jx_H D 22 ad (jm_cell ad cA v) A s.heap H locs → lv_has ls 8 [(0, .ref (ad 0)), (3, .int (nI i)), (5, .int (jm_under (jm_mk0 u i) nav))] → W p l e (jr 2) s m args below meth c H locs 0 0 Q (F0 m 196 ls []) := by
                          intro v H locs ls hlv hmk hh hl
                          refine lv_aload_n hx hb d_M_make_196 rfl (lv_at hl 0 rfl) ?_
                          refine jg_M hc hh 0 (by decide) rfl wf_M_7 d_M_make_197 ?_
                          refine lv_aload_n hx hb d_M_make_200 rfl (lv_at hl 0 rfl) ?_
                          refine jg_M hc hh 25 (by decide) rfl wf_M_93 d_M_make_201 ?_
                          refine lv_bipush (v := 8) hx hb d_M_make_204 (by decide) ?_
                          refine lv_idiv hx hb d_M_make_206 (by decide) ?_
                          refine jm_ild hc hh 0 (by decide) (by decide) (js_pgn hlv) d_M_make_207 ?_
                          refine lv_if_eq (tgt := 230) hx hb d_M_make_208 rfl (fun h208 => ?_) (fun h208 => ?_)
                          ·
                            refine lv_aload_n hx hb d_M_make_230 rfl (lv_at hl 0 rfl) ?_
                            refine jg_M hc hh 12 (by decide) rfl wf_M_47 d_M_make_231 ?_
                            refine lv_iload_n hx hb d_M_make_234 rfl (lv_at hl 1 rfl) ?_
                            refine lv_iload hx hb d_M_make_235 (lv_at hl 2 rfl) ?_
                            refine lv_if_ne (tgt := 255) hx hb d_M_make_237 rfl (fun h237 => ?_) (fun h237 => ?_)
                            ·
                              refine lv_iconst (v := 1) hx hb d_M_make_255 (by decide) ?_
                              refine lv_goto (tgt := 260) hx hb d_M_make_256 rfl ?_
                              have J260 : ∀  (ls : Array Slot), lv_has ls 8 [(0, .ref (ad 0)), (3, .int (nI i))] → W p l e (jr 2) s m args below meth c H locs 0 0 Q (F0 m 260 ls [.int (jm_mb v (jm_under (jm_mk0 u i) nav)), .int (nI i), .ref (ad 13)]) := by
                                intro  ls hl
                                refine jmi_zst hc hh 12 (by decide) (by decide) hi jm_mb_z d_M_make_260 (fun H locs hh => ?_)
                                refine lv_aload_n hx hb d_M_make_261 rfl (lv_at hl 0 rfl) ?_
                                refine jg_M hc hh 11 (by decide) rfl wf_M_44 d_M_make_262 ?_
                                refine lv_iload_n hx hb d_M_make_265 rfl (lv_at hl 1 rfl) ?_
                                refine lv_aload_n hx hb d_M_make_266 rfl (lv_at hl 0 rfl) ?_
                                refine jg_M hc hh 12 (by decide) rfl wf_M_47 d_M_make_267 ?_
                                refine lv_iload_n hx hb d_M_make_270 rfl (lv_at hl 1 rfl) ?_
                                refine jmi_zld hc hh 12 (by decide) (by decide) hi d_M_make_271 ?_
                                refine lv_if_eq (tgt := 282) hx hb d_M_make_272 rfl (fun h272 => ?_) (fun h272 => ?_)
                                ·
                                  refine lv_aload_n hx hb d_M_make_282 rfl (lv_at hl 0 rfl) ?_
                                  refine jg_M hc hh 25 (by decide) rfl wf_M_93 d_M_make_283 ?_
                                  refine lv_bipush (v := 64) hx hb d_M_make_286 (by decide) ?_
                                  refine lv_idiv hx hb d_M_make_288 (by decide) ?_
                                  refine jmi_ist hc hh 11 (by decide) (by decide) hi d_M_make_289 (fun H locs hh => ?_)
                                  refine lv_iload_n hx hb d_M_make_290 rfl (lv_at hl 1 rfl) ?_
                                  exact jx_iret (r := nI i) hc hh hQ hlk hr rfl rfl ⟨by rw [← hf], by rw [hmk]; simp [jm_mk1, jm_mkC, jm_opq, h208, h272]⟩ d_M_make_291
                                refine lv_aload_n hx hb d_M_make_275 rfl (lv_at hl 0 rfl) ?_
                                refine jx_callV [] [.int (nI i), .ref (ad 12)] hc hh (m_freshOrigin l D aK ad cA (js_up v 12 i (jm_mb v (jm_under (jm_mk0 u i) nav)))) wy_M_96 ⟨by decide, rfl, rfl⟩ (by decide) rfl hl.1 rfl (by simp [vc_int, vc_ref, vc_long, jv_cat]) ⟨Nat.zero_le _, Nat.zero_le _⟩ d_M_make_276 (fun r u9 H locs hp hh _ _ => ?_)
                                rw [hp.2] at hh
                                refine W.eq (g2 := F0 m 279 ls [.int (3 + ((js_up v 12 i (jm_mb v (jm_under (jm_mk0 u i) nav))) 22 0 + 1)), .int (nI i), .ref (ad 12)]) (by rw [hp.1]; rfl) ?_
                                refine lv_goto (tgt := 289) hx hb d_M_make_279 rfl ?_
                                refine jmi_ist hc hh 11 (by decide) (by decide) hi d_M_make_289 (fun H locs hh => ?_)
                                refine lv_iload_n hx hb d_M_make_290 rfl (lv_at hl 1 rfl) ?_
                                exact jx_iret (r := nI i) hc hh hQ hlk hr rfl rfl ⟨by rw [← hf], by rw [hmk]; simp [jm_mk1, jm_mkC, jm_opq, h208, h272]⟩ d_M_make_291
                              have e38 : (jm_mb v (jm_under (jm_mk0 u i) nav)) = 1 := by first | (simp [jm_mb, h208, h237]; done) | (simp [jm_mb, eq_true h208, h237]; done)
                              refine W.eq (g2 := F0 m 260 ls [.int (jm_mb v (jm_under (jm_mk0 u i) nav)), .int (nI i), .ref (ad 13)]) (by first | (rw [e38]; done) | (rw [e38]; rfl)) ?_
                              refine J260 _ ?_
                              exact lv_sub hl [0, 1] rfl
                            refine lv_aload_n hx hb d_M_make_240 rfl (lv_at hl 0 rfl) ?_
                            refine jg_M hc hh 3 (by decide) rfl wf_M_19 d_M_make_241 ?_
                            refine lv_aload_n hx hb d_M_make_244 rfl (lv_at hl 0 rfl) ?_
                            refine jg_M hc hh 25 (by decide) rfl wf_M_93 d_M_make_245 ?_
                            refine lv_bipush (v := 8) hx hb d_M_make_248 (by decide) ?_
                            refine lv_idiv hx hb d_M_make_250 (by decide) ?_
                            refine jm_zld hc hh 3 (by decide) (by decide) (js_pgn hlv) d_M_make_251 ?_
                            refine lv_if_eq (tgt := 259) hx hb d_M_make_252 rfl (fun h252 => ?_) (fun h252 => ?_)
                            ·
                              refine lv_iconst (v := 0) hx hb d_M_make_259 (by decide) ?_
                              have J260 : ∀  (ls : Array Slot), lv_has ls 8 [(0, .ref (ad 0)), (3, .int (nI i))] → W p l e (jr 2) s m args below meth c H locs 0 0 Q (F0 m 260 ls [.int (jm_mb v (jm_under (jm_mk0 u i) nav)), .int (nI i), .ref (ad 13)]) := by
                                intro  ls hl
                                refine jmi_zst hc hh 12 (by decide) (by decide) hi jm_mb_z d_M_make_260 (fun H locs hh => ?_)
                                refine lv_aload_n hx hb d_M_make_261 rfl (lv_at hl 0 rfl) ?_
                                refine jg_M hc hh 11 (by decide) rfl wf_M_44 d_M_make_262 ?_
                                refine lv_iload_n hx hb d_M_make_265 rfl (lv_at hl 1 rfl) ?_
                                refine lv_aload_n hx hb d_M_make_266 rfl (lv_at hl 0 rfl) ?_
                                refine jg_M hc hh 12 (by decide) rfl wf_M_47 d_M_make_267 ?_
                                refine lv_iload_n hx hb d_M_make_270 rfl (lv_at hl 1 rfl) ?_
                                refine jmi_zld hc hh 12 (by decide) (by decide) hi d_M_make_271 ?_
                                refine lv_if_eq (tgt := 282) hx hb d_M_make_272 rfl (fun h272 => ?_) (fun h272 => ?_)
                                ·
                                  refine lv_aload_n hx hb d_M_make_282 rfl (lv_at hl 0 rfl) ?_
                                  refine jg_M hc hh 25 (by decide) rfl wf_M_93 d_M_make_283 ?_
                                  refine lv_bipush (v := 64) hx hb d_M_make_286 (by decide) ?_
                                  refine lv_idiv hx hb d_M_make_288 (by decide) ?_
                                  refine jmi_ist hc hh 11 (by decide) (by decide) hi d_M_make_289 (fun H locs hh => ?_)
                                  refine lv_iload_n hx hb d_M_make_290 rfl (lv_at hl 1 rfl) ?_
                                  exact jx_iret (r := nI i) hc hh hQ hlk hr rfl rfl ⟨by rw [← hf], by rw [hmk]; simp [jm_mk1, jm_mkC, jm_opq, h208, h272]⟩ d_M_make_291
                                refine lv_aload_n hx hb d_M_make_275 rfl (lv_at hl 0 rfl) ?_
                                refine jx_callV [] [.int (nI i), .ref (ad 12)] hc hh (m_freshOrigin l D aK ad cA (js_up v 12 i (jm_mb v (jm_under (jm_mk0 u i) nav)))) wy_M_96 ⟨by decide, rfl, rfl⟩ (by decide) rfl hl.1 rfl (by simp [vc_int, vc_ref, vc_long, jv_cat]) ⟨Nat.zero_le _, Nat.zero_le _⟩ d_M_make_276 (fun r u9 H locs hp hh _ _ => ?_)
                                rw [hp.2] at hh
                                refine W.eq (g2 := F0 m 279 ls [.int (3 + ((js_up v 12 i (jm_mb v (jm_under (jm_mk0 u i) nav))) 22 0 + 1)), .int (nI i), .ref (ad 12)]) (by rw [hp.1]; rfl) ?_
                                refine lv_goto (tgt := 289) hx hb d_M_make_279 rfl ?_
                                refine jmi_ist hc hh 11 (by decide) (by decide) hi d_M_make_289 (fun H locs hh => ?_)
                                refine lv_iload_n hx hb d_M_make_290 rfl (lv_at hl 1 rfl) ?_
                                exact jx_iret (r := nI i) hc hh hQ hlk hr rfl rfl ⟨by rw [← hf], by rw [hmk]; simp [jm_mk1, jm_mkC, jm_opq, h208, h272]⟩ d_M_make_291
                              have e39 : (jm_mb v (jm_under (jm_mk0 u i) nav)) = 0 := by first | (simp [jm_mb, h208, h237, h252]; done) | (simp [jm_mb, eq_true h208, eq_true h237, eq_true h252]; done)
                              refine W.eq (g2 := F0 m 260 ls [.int (jm_mb v (jm_under (jm_mk0 u i) nav)), .int (nI i), .ref (ad 13)]) (by first | (rw [e39]; done) | (rw [e39]; rfl)) ?_
                              refine J260 _ ?_
                              exact lv_sub hl [0, 1] rfl
                            refine lv_iconst (v := 1) hx hb d_M_make_255 (by decide) ?_
                            refine lv_goto (tgt := 260) hx hb d_M_make_256 rfl ?_
                            have J260 : ∀  (ls : Array Slot), lv_has ls 8 [(0, .ref (ad 0)), (3, .int (nI i))] → W p l e (jr 2) s m args below meth c H locs 0 0 Q (F0 m 260 ls [.int (jm_mb v (jm_under (jm_mk0 u i) nav)), .int (nI i), .ref (ad 13)]) := by
                              intro  ls hl
                              refine jmi_zst hc hh 12 (by decide) (by decide) hi jm_mb_z d_M_make_260 (fun H locs hh => ?_)
                              refine lv_aload_n hx hb d_M_make_261 rfl (lv_at hl 0 rfl) ?_
                              refine jg_M hc hh 11 (by decide) rfl wf_M_44 d_M_make_262 ?_
                              refine lv_iload_n hx hb d_M_make_265 rfl (lv_at hl 1 rfl) ?_
                              refine lv_aload_n hx hb d_M_make_266 rfl (lv_at hl 0 rfl) ?_
                              refine jg_M hc hh 12 (by decide) rfl wf_M_47 d_M_make_267 ?_
                              refine lv_iload_n hx hb d_M_make_270 rfl (lv_at hl 1 rfl) ?_
                              refine jmi_zld hc hh 12 (by decide) (by decide) hi d_M_make_271 ?_
                              refine lv_if_eq (tgt := 282) hx hb d_M_make_272 rfl (fun h272 => ?_) (fun h272 => ?_)
                              ·
                                refine lv_aload_n hx hb d_M_make_282 rfl (lv_at hl 0 rfl) ?_
                                refine jg_M hc hh 25 (by decide) rfl wf_M_93 d_M_make_283 ?_
                                refine lv_bipush (v := 64) hx hb d_M_make_286 (by decide) ?_
                                refine lv_idiv hx hb d_M_make_288 (by decide) ?_
                                refine jmi_ist hc hh 11 (by decide) (by decide) hi d_M_make_289 (fun H locs hh => ?_)
                                refine lv_iload_n hx hb d_M_make_290 rfl (lv_at hl 1 rfl) ?_
                                exact jx_iret (r := nI i) hc hh hQ hlk hr rfl rfl ⟨by rw [← hf], by rw [hmk]; simp [jm_mk1, jm_mkC, jm_opq, h208, h272]⟩ d_M_make_291
                              refine lv_aload_n hx hb d_M_make_275 rfl (lv_at hl 0 rfl) ?_
                              refine jx_callV [] [.int (nI i), .ref (ad 12)] hc hh (m_freshOrigin l D aK ad cA (js_up v 12 i (jm_mb v (jm_under (jm_mk0 u i) nav)))) wy_M_96 ⟨by decide, rfl, rfl⟩ (by decide) rfl hl.1 rfl (by simp [vc_int, vc_ref, vc_long, jv_cat]) ⟨Nat.zero_le _, Nat.zero_le _⟩ d_M_make_276 (fun r u9 H locs hp hh _ _ => ?_)
                              rw [hp.2] at hh
                              refine W.eq (g2 := F0 m 279 ls [.int (3 + ((js_up v 12 i (jm_mb v (jm_under (jm_mk0 u i) nav))) 22 0 + 1)), .int (nI i), .ref (ad 12)]) (by rw [hp.1]; rfl) ?_
                              refine lv_goto (tgt := 289) hx hb d_M_make_279 rfl ?_
                              refine jmi_ist hc hh 11 (by decide) (by decide) hi d_M_make_289 (fun H locs hh => ?_)
                              refine lv_iload_n hx hb d_M_make_290 rfl (lv_at hl 1 rfl) ?_
                              exact jx_iret (r := nI i) hc hh hQ hlk hr rfl rfl ⟨by rw [← hf], by rw [hmk]; simp [jm_mk1, jm_mkC, jm_opq, h208, h272]⟩ d_M_make_291
                            have e40 : (jm_mb v (jm_under (jm_mk0 u i) nav)) = 1 := by first | (simp [jm_mb, h208, h237, h252]; done) | (simp [jm_mb, eq_true h208, eq_true h237, h252]; done)
                            refine W.eq (g2 := F0 m 260 ls [.int (jm_mb v (jm_under (jm_mk0 u i) nav)), .int (nI i), .ref (ad 13)]) (by first | (rw [e40]; done) | (rw [e40]; rfl)) ?_
                            refine J260 _ ?_
                            exact lv_sub hl [0, 1] rfl
                          refine lv_aload_n hx hb d_M_make_211 rfl (lv_at hl 0 rfl) ?_
                          refine jg_M hc hh 12 (by decide) rfl wf_M_47 d_M_make_212 ?_
                          refine lv_iload_n hx hb d_M_make_215 rfl (lv_at hl 1 rfl) ?_
                          refine lv_iconst (v := 0) hx hb d_M_make_216 (by decide) ?_
                          refine jmi_zst hc hh 12 (by decide) (by decide) hi (by decide) d_M_make_217 (fun H locs hh => ?_)
                          refine lv_aload_n hx hb d_M_make_218 rfl (lv_at hl 0 rfl) ?_
                          refine jg_M hc hh 11 (by decide) rfl wf_M_44 d_M_make_219 ?_
                          refine lv_iload_n hx hb d_M_make_222 rfl (lv_at hl 1 rfl) ?_
                          refine lv_aload_n hx hb d_M_make_223 rfl (lv_at hl 0 rfl) ?_
                          refine jx_callV [] [.int (nI i), .ref (ad 12)] hc hh (m_freshOrigin l D aK ad cA (js_up v 12 i 0)) wy_M_96 ⟨by decide, rfl, rfl⟩ (by decide) rfl hl.1 rfl (by simp [vc_int, vc_ref, vc_long, jv_cat]) ⟨Nat.zero_le _, Nat.zero_le _⟩ d_M_make_224 (fun r u9 H locs hp hh _ _ => ?_)
                          rw [hp.2] at hh
                          refine W.eq (g2 := F0 m 227 ls [.int (3 + ((js_up v 12 i 0) 22 0 + 1)), .int (nI i), .ref (ad 12)]) (by rw [hp.1]; rfl) ?_
                          refine jmi_ist hc hh 11 (by decide) (by decide) hi d_M_make_227 (fun H locs hh => ?_)
                          refine lv_iload_n hx hb d_M_make_228 rfl (lv_at hl 1 rfl) ?_
                          exact jx_iret (r := nI i) hc hh hQ hlk hr rfl rfl ⟨by rw [← hf], by rw [hmk]; simp [jm_mk1, jm_opq, h208]⟩ d_M_make_229
                        refine J196 v _ _ _ hlv (by rw [jm_make_i hf]; unfold jm_mkB; rw [if_neg h89, ← hfv]; first | rfl | simp [jm_fd, h146]) ?_ ?_
                        ·
                          exact hh
                        exact lv_sub hl [0, 3, 4] rfl
                      | succ n ih =>
                        intro v k9 H locs ls hm hSv hlv hfv hh hl
                        refine lv_iload hx hb d_M_make_127 (lv_at hl 5 rfl) ?_
                        refine lv_iconst (v := 4) hx hb d_M_make_129 (by decide) ?_
                        refine lv_icmp_ge (tgt := 196) hx hb d_M_make_130 rfl (fun hq => absurd hq (nI_ge (show k9 < 4 by omega) (by decide))) (fun h130 => ?_)
                        refine lv_aload_n hx hb d_M_make_133 rfl (lv_at hl 0 rfl) ?_
                        refine jg_M hc hh 0 (by decide) rfl wf_M_7 d_M_make_134 ?_
                        refine lv_aload_n hx hb d_M_make_137 rfl (lv_at hl 0 rfl) ?_
                        refine jg_M hc hh 25 (by decide) rfl wf_M_93 d_M_make_138 ?_
                        refine lv_bipush (v := 8) hx hb d_M_make_141 (by decide) ?_
                        refine lv_idiv hx hb d_M_make_143 (by decide) ?_
                        refine jm_ild hc hh 0 (by decide) (by decide) (js_pgn hlv) d_M_make_144 ?_
                        refine lv_iconst (v := 1) hx hb d_M_make_145 (by decide) ?_
                        refine lv_icmp_ne (tgt := 196) hx hb d_M_make_146 rfl (fun h146 => ?_) (fun h146 => ?_)
                        ·
                          have J196 : ∀ (v : js_S) (H : Heap) (locs : List Loc) (ls : Array Slot), (∃ j, j < 256 ∧ v 25 0 = nI j) → (jm_make u nav url = jm_mk1 v i (jm_under (jm_mk0 u i) nav)) → jx_H D 22 ad (jm_cell ad cA v) A s.heap H locs → lv_has ls 8 [(0, .ref (ad 0)), (3, .int (nI i)), (5, .int (jm_under (jm_mk0 u i) nav))] → W p l e (jr 2) s m args below meth c H locs 0 0 Q (F0 m 196 ls []) := by
                            intro v H locs ls hlv hmk hh hl
                            refine lv_aload_n hx hb d_M_make_196 rfl (lv_at hl 0 rfl) ?_
                            refine jg_M hc hh 0 (by decide) rfl wf_M_7 d_M_make_197 ?_
                            refine lv_aload_n hx hb d_M_make_200 rfl (lv_at hl 0 rfl) ?_
                            refine jg_M hc hh 25 (by decide) rfl wf_M_93 d_M_make_201 ?_
                            refine lv_bipush (v := 8) hx hb d_M_make_204 (by decide) ?_
                            refine lv_idiv hx hb d_M_make_206 (by decide) ?_
                            refine jm_ild hc hh 0 (by decide) (by decide) (js_pgn hlv) d_M_make_207 ?_
                            refine lv_if_eq (tgt := 230) hx hb d_M_make_208 rfl (fun h208 => ?_) (fun h208 => ?_)
                            ·
                              refine lv_aload_n hx hb d_M_make_230 rfl (lv_at hl 0 rfl) ?_
                              refine jg_M hc hh 12 (by decide) rfl wf_M_47 d_M_make_231 ?_
                              refine lv_iload_n hx hb d_M_make_234 rfl (lv_at hl 1 rfl) ?_
                              refine lv_iload hx hb d_M_make_235 (lv_at hl 2 rfl) ?_
                              refine lv_if_ne (tgt := 255) hx hb d_M_make_237 rfl (fun h237 => ?_) (fun h237 => ?_)
                              ·
                                refine lv_iconst (v := 1) hx hb d_M_make_255 (by decide) ?_
                                refine lv_goto (tgt := 260) hx hb d_M_make_256 rfl ?_
                                have J260 : ∀  (ls : Array Slot), lv_has ls 8 [(0, .ref (ad 0)), (3, .int (nI i))] → W p l e (jr 2) s m args below meth c H locs 0 0 Q (F0 m 260 ls [.int (jm_mb v (jm_under (jm_mk0 u i) nav)), .int (nI i), .ref (ad 13)]) := by
                                  intro  ls hl
                                  refine jmi_zst hc hh 12 (by decide) (by decide) hi jm_mb_z d_M_make_260 (fun H locs hh => ?_)
                                  refine lv_aload_n hx hb d_M_make_261 rfl (lv_at hl 0 rfl) ?_
                                  refine jg_M hc hh 11 (by decide) rfl wf_M_44 d_M_make_262 ?_
                                  refine lv_iload_n hx hb d_M_make_265 rfl (lv_at hl 1 rfl) ?_
                                  refine lv_aload_n hx hb d_M_make_266 rfl (lv_at hl 0 rfl) ?_
                                  refine jg_M hc hh 12 (by decide) rfl wf_M_47 d_M_make_267 ?_
                                  refine lv_iload_n hx hb d_M_make_270 rfl (lv_at hl 1 rfl) ?_
                                  refine jmi_zld hc hh 12 (by decide) (by decide) hi d_M_make_271 ?_
                                  refine lv_if_eq (tgt := 282) hx hb d_M_make_272 rfl (fun h272 => ?_) (fun h272 => ?_)
                                  ·
                                    refine lv_aload_n hx hb d_M_make_282 rfl (lv_at hl 0 rfl) ?_
                                    refine jg_M hc hh 25 (by decide) rfl wf_M_93 d_M_make_283 ?_
                                    refine lv_bipush (v := 64) hx hb d_M_make_286 (by decide) ?_
                                    refine lv_idiv hx hb d_M_make_288 (by decide) ?_
                                    refine jmi_ist hc hh 11 (by decide) (by decide) hi d_M_make_289 (fun H locs hh => ?_)
                                    refine lv_iload_n hx hb d_M_make_290 rfl (lv_at hl 1 rfl) ?_
                                    exact jx_iret (r := nI i) hc hh hQ hlk hr rfl rfl ⟨by rw [← hf], by rw [hmk]; simp [jm_mk1, jm_mkC, jm_opq, h208, h272]⟩ d_M_make_291
                                  refine lv_aload_n hx hb d_M_make_275 rfl (lv_at hl 0 rfl) ?_
                                  refine jx_callV [] [.int (nI i), .ref (ad 12)] hc hh (m_freshOrigin l D aK ad cA (js_up v 12 i (jm_mb v (jm_under (jm_mk0 u i) nav)))) wy_M_96 ⟨by decide, rfl, rfl⟩ (by decide) rfl hl.1 rfl (by simp [vc_int, vc_ref, vc_long, jv_cat]) ⟨Nat.zero_le _, Nat.zero_le _⟩ d_M_make_276 (fun r u9 H locs hp hh _ _ => ?_)
                                  rw [hp.2] at hh
                                  refine W.eq (g2 := F0 m 279 ls [.int (3 + ((js_up v 12 i (jm_mb v (jm_under (jm_mk0 u i) nav))) 22 0 + 1)), .int (nI i), .ref (ad 12)]) (by rw [hp.1]; rfl) ?_
                                  refine lv_goto (tgt := 289) hx hb d_M_make_279 rfl ?_
                                  refine jmi_ist hc hh 11 (by decide) (by decide) hi d_M_make_289 (fun H locs hh => ?_)
                                  refine lv_iload_n hx hb d_M_make_290 rfl (lv_at hl 1 rfl) ?_
                                  exact jx_iret (r := nI i) hc hh hQ hlk hr rfl rfl ⟨by rw [← hf], by rw [hmk]; simp [jm_mk1, jm_mkC, jm_opq, h208, h272]⟩ d_M_make_291
                                have e41 : (jm_mb v (jm_under (jm_mk0 u i) nav)) = 1 := by first | (simp [jm_mb, h208, h237]; done) | (simp [jm_mb, eq_true h208, h237]; done)
                                refine W.eq (g2 := F0 m 260 ls [.int (jm_mb v (jm_under (jm_mk0 u i) nav)), .int (nI i), .ref (ad 13)]) (by first | (rw [e41]; done) | (rw [e41]; rfl)) ?_
                                refine J260 _ ?_
                                exact lv_sub hl [0, 1] rfl
                              refine lv_aload_n hx hb d_M_make_240 rfl (lv_at hl 0 rfl) ?_
                              refine jg_M hc hh 3 (by decide) rfl wf_M_19 d_M_make_241 ?_
                              refine lv_aload_n hx hb d_M_make_244 rfl (lv_at hl 0 rfl) ?_
                              refine jg_M hc hh 25 (by decide) rfl wf_M_93 d_M_make_245 ?_
                              refine lv_bipush (v := 8) hx hb d_M_make_248 (by decide) ?_
                              refine lv_idiv hx hb d_M_make_250 (by decide) ?_
                              refine jm_zld hc hh 3 (by decide) (by decide) (js_pgn hlv) d_M_make_251 ?_
                              refine lv_if_eq (tgt := 259) hx hb d_M_make_252 rfl (fun h252 => ?_) (fun h252 => ?_)
                              ·
                                refine lv_iconst (v := 0) hx hb d_M_make_259 (by decide) ?_
                                have J260 : ∀  (ls : Array Slot), lv_has ls 8 [(0, .ref (ad 0)), (3, .int (nI i))] → W p l e (jr 2) s m args below meth c H locs 0 0 Q (F0 m 260 ls [.int (jm_mb v (jm_under (jm_mk0 u i) nav)), .int (nI i), .ref (ad 13)]) := by
                                  intro  ls hl
                                  refine jmi_zst hc hh 12 (by decide) (by decide) hi jm_mb_z d_M_make_260 (fun H locs hh => ?_)
                                  refine lv_aload_n hx hb d_M_make_261 rfl (lv_at hl 0 rfl) ?_
                                  refine jg_M hc hh 11 (by decide) rfl wf_M_44 d_M_make_262 ?_
                                  refine lv_iload_n hx hb d_M_make_265 rfl (lv_at hl 1 rfl) ?_
                                  refine lv_aload_n hx hb d_M_make_266 rfl (lv_at hl 0 rfl) ?_
                                  refine jg_M hc hh 12 (by decide) rfl wf_M_47 d_M_make_267 ?_
                                  refine lv_iload_n hx hb d_M_make_270 rfl (lv_at hl 1 rfl) ?_
                                  refine jmi_zld hc hh 12 (by decide) (by decide) hi d_M_make_271 ?_
                                  refine lv_if_eq (tgt := 282) hx hb d_M_make_272 rfl (fun h272 => ?_) (fun h272 => ?_)
                                  ·
                                    refine lv_aload_n hx hb d_M_make_282 rfl (lv_at hl 0 rfl) ?_
                                    refine jg_M hc hh 25 (by decide) rfl wf_M_93 d_M_make_283 ?_
                                    refine lv_bipush (v := 64) hx hb d_M_make_286 (by decide) ?_
                                    refine lv_idiv hx hb d_M_make_288 (by decide) ?_
                                    refine jmi_ist hc hh 11 (by decide) (by decide) hi d_M_make_289 (fun H locs hh => ?_)
                                    refine lv_iload_n hx hb d_M_make_290 rfl (lv_at hl 1 rfl) ?_
                                    exact jx_iret (r := nI i) hc hh hQ hlk hr rfl rfl ⟨by rw [← hf], by rw [hmk]; simp [jm_mk1, jm_mkC, jm_opq, h208, h272]⟩ d_M_make_291
                                  refine lv_aload_n hx hb d_M_make_275 rfl (lv_at hl 0 rfl) ?_
                                  refine jx_callV [] [.int (nI i), .ref (ad 12)] hc hh (m_freshOrigin l D aK ad cA (js_up v 12 i (jm_mb v (jm_under (jm_mk0 u i) nav)))) wy_M_96 ⟨by decide, rfl, rfl⟩ (by decide) rfl hl.1 rfl (by simp [vc_int, vc_ref, vc_long, jv_cat]) ⟨Nat.zero_le _, Nat.zero_le _⟩ d_M_make_276 (fun r u9 H locs hp hh _ _ => ?_)
                                  rw [hp.2] at hh
                                  refine W.eq (g2 := F0 m 279 ls [.int (3 + ((js_up v 12 i (jm_mb v (jm_under (jm_mk0 u i) nav))) 22 0 + 1)), .int (nI i), .ref (ad 12)]) (by rw [hp.1]; rfl) ?_
                                  refine lv_goto (tgt := 289) hx hb d_M_make_279 rfl ?_
                                  refine jmi_ist hc hh 11 (by decide) (by decide) hi d_M_make_289 (fun H locs hh => ?_)
                                  refine lv_iload_n hx hb d_M_make_290 rfl (lv_at hl 1 rfl) ?_
                                  exact jx_iret (r := nI i) hc hh hQ hlk hr rfl rfl ⟨by rw [← hf], by rw [hmk]; simp [jm_mk1, jm_mkC, jm_opq, h208, h272]⟩ d_M_make_291
                                have e42 : (jm_mb v (jm_under (jm_mk0 u i) nav)) = 0 := by first | (simp [jm_mb, h208, h237, h252]; done) | (simp [jm_mb, eq_true h208, eq_true h237, eq_true h252]; done)
                                refine W.eq (g2 := F0 m 260 ls [.int (jm_mb v (jm_under (jm_mk0 u i) nav)), .int (nI i), .ref (ad 13)]) (by first | (rw [e42]; done) | (rw [e42]; rfl)) ?_
                                refine J260 _ ?_
                                exact lv_sub hl [0, 1] rfl
                              refine lv_iconst (v := 1) hx hb d_M_make_255 (by decide) ?_
                              refine lv_goto (tgt := 260) hx hb d_M_make_256 rfl ?_
                              have J260 : ∀  (ls : Array Slot), lv_has ls 8 [(0, .ref (ad 0)), (3, .int (nI i))] → W p l e (jr 2) s m args below meth c H locs 0 0 Q (F0 m 260 ls [.int (jm_mb v (jm_under (jm_mk0 u i) nav)), .int (nI i), .ref (ad 13)]) := by
                                intro  ls hl
                                refine jmi_zst hc hh 12 (by decide) (by decide) hi jm_mb_z d_M_make_260 (fun H locs hh => ?_)
                                refine lv_aload_n hx hb d_M_make_261 rfl (lv_at hl 0 rfl) ?_
                                refine jg_M hc hh 11 (by decide) rfl wf_M_44 d_M_make_262 ?_
                                refine lv_iload_n hx hb d_M_make_265 rfl (lv_at hl 1 rfl) ?_
                                refine lv_aload_n hx hb d_M_make_266 rfl (lv_at hl 0 rfl) ?_
                                refine jg_M hc hh 12 (by decide) rfl wf_M_47 d_M_make_267 ?_
                                refine lv_iload_n hx hb d_M_make_270 rfl (lv_at hl 1 rfl) ?_
                                refine jmi_zld hc hh 12 (by decide) (by decide) hi d_M_make_271 ?_
                                refine lv_if_eq (tgt := 282) hx hb d_M_make_272 rfl (fun h272 => ?_) (fun h272 => ?_)
                                ·
                                  refine lv_aload_n hx hb d_M_make_282 rfl (lv_at hl 0 rfl) ?_
                                  refine jg_M hc hh 25 (by decide) rfl wf_M_93 d_M_make_283 ?_
                                  refine lv_bipush (v := 64) hx hb d_M_make_286 (by decide) ?_
                                  refine lv_idiv hx hb d_M_make_288 (by decide) ?_
                                  refine jmi_ist hc hh 11 (by decide) (by decide) hi d_M_make_289 (fun H locs hh => ?_)
                                  refine lv_iload_n hx hb d_M_make_290 rfl (lv_at hl 1 rfl) ?_
                                  exact jx_iret (r := nI i) hc hh hQ hlk hr rfl rfl ⟨by rw [← hf], by rw [hmk]; simp [jm_mk1, jm_mkC, jm_opq, h208, h272]⟩ d_M_make_291
                                refine lv_aload_n hx hb d_M_make_275 rfl (lv_at hl 0 rfl) ?_
                                refine jx_callV [] [.int (nI i), .ref (ad 12)] hc hh (m_freshOrigin l D aK ad cA (js_up v 12 i (jm_mb v (jm_under (jm_mk0 u i) nav)))) wy_M_96 ⟨by decide, rfl, rfl⟩ (by decide) rfl hl.1 rfl (by simp [vc_int, vc_ref, vc_long, jv_cat]) ⟨Nat.zero_le _, Nat.zero_le _⟩ d_M_make_276 (fun r u9 H locs hp hh _ _ => ?_)
                                rw [hp.2] at hh
                                refine W.eq (g2 := F0 m 279 ls [.int (3 + ((js_up v 12 i (jm_mb v (jm_under (jm_mk0 u i) nav))) 22 0 + 1)), .int (nI i), .ref (ad 12)]) (by rw [hp.1]; rfl) ?_
                                refine lv_goto (tgt := 289) hx hb d_M_make_279 rfl ?_
                                refine jmi_ist hc hh 11 (by decide) (by decide) hi d_M_make_289 (fun H locs hh => ?_)
                                refine lv_iload_n hx hb d_M_make_290 rfl (lv_at hl 1 rfl) ?_
                                exact jx_iret (r := nI i) hc hh hQ hlk hr rfl rfl ⟨by rw [← hf], by rw [hmk]; simp [jm_mk1, jm_mkC, jm_opq, h208, h272]⟩ d_M_make_291
                              have e43 : (jm_mb v (jm_under (jm_mk0 u i) nav)) = 1 := by first | (simp [jm_mb, h208, h237, h252]; done) | (simp [jm_mb, eq_true h208, eq_true h237, h252]; done)
                              refine W.eq (g2 := F0 m 260 ls [.int (jm_mb v (jm_under (jm_mk0 u i) nav)), .int (nI i), .ref (ad 13)]) (by first | (rw [e43]; done) | (rw [e43]; rfl)) ?_
                              refine J260 _ ?_
                              exact lv_sub hl [0, 1] rfl
                            refine lv_aload_n hx hb d_M_make_211 rfl (lv_at hl 0 rfl) ?_
                            refine jg_M hc hh 12 (by decide) rfl wf_M_47 d_M_make_212 ?_
                            refine lv_iload_n hx hb d_M_make_215 rfl (lv_at hl 1 rfl) ?_
                            refine lv_iconst (v := 0) hx hb d_M_make_216 (by decide) ?_
                            refine jmi_zst hc hh 12 (by decide) (by decide) hi (by decide) d_M_make_217 (fun H locs hh => ?_)
                            refine lv_aload_n hx hb d_M_make_218 rfl (lv_at hl 0 rfl) ?_
                            refine jg_M hc hh 11 (by decide) rfl wf_M_44 d_M_make_219 ?_
                            refine lv_iload_n hx hb d_M_make_222 rfl (lv_at hl 1 rfl) ?_
                            refine lv_aload_n hx hb d_M_make_223 rfl (lv_at hl 0 rfl) ?_
                            refine jx_callV [] [.int (nI i), .ref (ad 12)] hc hh (m_freshOrigin l D aK ad cA (js_up v 12 i 0)) wy_M_96 ⟨by decide, rfl, rfl⟩ (by decide) rfl hl.1 rfl (by simp [vc_int, vc_ref, vc_long, jv_cat]) ⟨Nat.zero_le _, Nat.zero_le _⟩ d_M_make_224 (fun r u9 H locs hp hh _ _ => ?_)
                            rw [hp.2] at hh
                            refine W.eq (g2 := F0 m 227 ls [.int (3 + ((js_up v 12 i 0) 22 0 + 1)), .int (nI i), .ref (ad 12)]) (by rw [hp.1]; rfl) ?_
                            refine jmi_ist hc hh 11 (by decide) (by decide) hi d_M_make_227 (fun H locs hh => ?_)
                            refine lv_iload_n hx hb d_M_make_228 rfl (lv_at hl 1 rfl) ?_
                            exact jx_iret (r := nI i) hc hh hQ hlk hr rfl rfl ⟨by rw [← hf], by rw [hmk]; simp [jm_mk1, jm_opq, h208]⟩ d_M_make_229
                          refine J196 v _ _ _ hlv (by rw [jm_make_i hf]; unfold jm_mkB; rw [if_neg h89, ← hfv]; first | rfl | simp [jm_fd, h146]) ?_ ?_
                          ·
                            exact hh
                          exact lv_sub hl [0, 3, 4] rfl
                        refine lv_aload_n hx hb d_M_make_149 rfl (lv_at hl 0 rfl) ?_
                        refine jg_M hc hh 1 (by decide) rfl wf_M_13 d_M_make_150 ?_
                        refine lv_aload_n hx hb d_M_make_153 rfl (lv_at hl 0 rfl) ?_
                        refine jg_M hc hh 25 (by decide) rfl wf_M_93 d_M_make_154 ?_
                        refine lv_bipush (v := 8) hx hb d_M_make_157 (by decide) ?_
                        refine lv_idiv hx hb d_M_make_159 (by decide) ?_
                        refine jm_ild hc hh 1 (by decide) (by decide) (js_pgn hlv) d_M_make_160 ?_
                        refine lv_istore (i := 7) (lv' := [(7, .int (v 1 (ix ((v 25 0) / 8)))), (0, .ref (ad 0)), (1, .int nav), (2, .int url), (3, .int (nI i)), (5, .int (jm_under (jm_mk0 u i) nav)), (6, .int (nI k9))]) hx hb d_M_make_161 hl (by decide) rfl (fun ls hl => ?_)
                        refine lv_aload_n hx hb d_M_make_163 rfl (lv_at hl 1 rfl) ?_
                        refine lv_iload hx hb d_M_make_164 (lv_at hl 0 rfl) ?_
                        refine lv_bipush (v := 8) hx hb d_M_make_166 (by decide) ?_
                        refine lv_irem hx hb d_M_make_168 (by decide) ?_
                        refine lv_if_ne (tgt := 185) hx hb d_M_make_169 rfl (fun h169 => ?_) (fun h169 => ?_)
                        ·
                          refine lv_iload hx hb d_M_make_185 (lv_at hl 0 rfl) ?_
                          refine jpm_25 hc hh wf_M_93 d_M_make_187 (fun H locs hh => ?_)
                          refine lv_iinc (k := 6) (v := nI (k9 + 1)) (lv' := [(6, .int (nI (k9 + 1))), (7, .int (v 1 (ix ((v 25 0) / 8)))), (0, .ref (ad 0)), (1, .int nav), (2, .int url), (3, .int (nI i)), (5, .int (jm_under (jm_mk0 u i) nav))]) hx hb d_M_make_190 hl rfl (nI_1 k9) (by decide) rfl (fun ls hl => ?_)
                          refine lv_goto (tgt := 127) hx hb d_M_make_193 rfl ?_
                          refine ih (js_up v 25 0 (v 1 (ix ((v 25 0) / 8)))) (k9 + 1) _ _ _ (by omega) (jm_Sh_25 hSv) (by rw [js_up_s]; have q9 := jm_led hSv hlv h146; simpa [h169] using q9) (by rw [← hfv]; simp [jm_fd, h146, h169]) ?_ ?_
                          ·
                            exact hh
                          exact lv_sub hl [2, 3, 4, 5, 6, 0] rfl
                        refine lv_iload hx hb d_M_make_172 (lv_at hl 0 rfl) ?_
                        refine lv_aload_n hx hb d_M_make_174 rfl (lv_at hl 1 rfl) ?_
                        refine jg_M hc hh 25 (by decide) rfl wf_M_93 d_M_make_175 ?_
                        refine lv_bipush (v := 8) hx hb d_M_make_178 (by decide) ?_
                        refine lv_irem hx hb d_M_make_180 (by decide) ?_
                        refine lv_iadd hx hb d_M_make_181 ?_
                        refine lv_goto (tgt := 187) hx hb d_M_make_182 rfl ?_
                        refine jpm_25 hc hh wf_M_93 d_M_make_187 (fun H locs hh => ?_)
                        refine lv_iinc (k := 6) (v := nI (k9 + 1)) (lv' := [(6, .int (nI (k9 + 1))), (7, .int (v 1 (ix ((v 25 0) / 8)))), (0, .ref (ad 0)), (1, .int nav), (2, .int url), (3, .int (nI i)), (5, .int (jm_under (jm_mk0 u i) nav))]) hx hb d_M_make_190 hl rfl (nI_1 k9) (by decide) rfl (fun ls hl => ?_)
                        refine lv_goto (tgt := 127) hx hb d_M_make_193 rfl ?_
                        refine ih (js_up v 25 0 ((v 1 (ix ((v 25 0) / 8))) + ((v 25 0) - (v 25 0) / 8 * 8))) (k9 + 1) _ _ _ (by omega) (jm_Sh_25 hSv) (by rw [js_up_s]; have q9 := jm_led hSv hlv h146; simpa [h169] using q9) (by rw [← hfv]; simp [jm_fd, h146, h169]) ?_ ?_
                        ·
                          exact hh
                        exact lv_sub hl [2, 3, 4, 5, 6, 0] rfl
                    have e44 : nI 0 = 0 := rfl
                    refine L127 4 (jm_mkS (jm_mk0 u i) i url (jm_under (jm_mk0 u i) nav)) 0 _ _ _ (by omega) (jm_Sh_mkS (jm_Sh_mk0 hS)) (by rw [jm_mkS_25]; exact jq_ne hu h89) rfl ?_ ?_
                    ·
                      try rw [e44]
                      exact hh
                    try rw [e44]
                    exact lv_sub hl [1, 2, 3, 4, 6, 0] rfl
                  refine lv_aload_n hx hb d_M_make_92 rfl (lv_at hl 0 rfl) ?_
                  refine jg_M hc hh 11 (by decide) rfl wf_M_44 d_M_make_93 ?_
                  refine lv_iload_n hx hb d_M_make_96 rfl (lv_at hl 3 rfl) ?_
                  refine lv_iload hx hb d_M_make_97 (lv_at hl 4 rfl) ?_
                  refine lv_if_lt (tgt := 117) hx hb d_M_make_99 rfl (fun h99 => ?_) (fun h99 => ?_)
                  ·
                    refine lv_aload_n hx hb d_M_make_117 rfl (lv_at hl 0 rfl) ?_
                    refine jx_callV [] [.int (nI i), .ref (ad 12)] hc hh (m_freshOrigin l D aK ad cA (jm_mkS (jm_mk0 u i) i url (jm_under (jm_mk0 u i) nav))) wy_M_96 ⟨by decide, rfl, rfl⟩ (by decide) rfl hl.1 rfl (by simp [vc_int, vc_ref, vc_long, jv_cat]) ⟨Nat.zero_le _, Nat.zero_le _⟩ d_M_make_118 (fun r u9 H locs hp hh _ _ => ?_)
                    rw [hp.2] at hh
                    refine W.eq (g2 := F0 m 121 ls [.int (3 + ((jm_mkS (jm_mk0 u i) i url (jm_under (jm_mk0 u i) nav)) 22 0 + 1)), .int (nI i), .ref (ad 12)]) (by rw [hp.1]; rfl) ?_
                    refine jmi_ist hc hh 11 (by decide) (by decide) hi d_M_make_121 (fun H locs hh => ?_)
                    refine lv_iload_n hx hb d_M_make_122 rfl (lv_at hl 3 rfl) ?_
                    exact jx_iret (r := nI i) hc hh hQ hlk hr rfl rfl ⟨by rw [← hf], by rw [jm_make_i hf]; simp [jm_mkB, jm_mkA, jm_opq, h89, h99]⟩ d_M_make_123
                  refine lv_iload hx hb d_M_make_102 (lv_at hl 5 rfl) ?_
                  refine lv_if_ne (tgt := 117) hx hb d_M_make_104 rfl (fun h104 => ?_) (fun h104 => ?_)
                  ·
                    refine lv_aload_n hx hb d_M_make_117 rfl (lv_at hl 0 rfl) ?_
                    refine jx_callV [] [.int (nI i), .ref (ad 12)] hc hh (m_freshOrigin l D aK ad cA (jm_mkS (jm_mk0 u i) i url (jm_under (jm_mk0 u i) nav))) wy_M_96 ⟨by decide, rfl, rfl⟩ (by decide) rfl hl.1 rfl (by simp [vc_int, vc_ref, vc_long, jv_cat]) ⟨Nat.zero_le _, Nat.zero_le _⟩ d_M_make_118 (fun r u9 H locs hp hh _ _ => ?_)
                    rw [hp.2] at hh
                    refine W.eq (g2 := F0 m 121 ls [.int (3 + ((jm_mkS (jm_mk0 u i) i url (jm_under (jm_mk0 u i) nav)) 22 0 + 1)), .int (nI i), .ref (ad 12)]) (by rw [hp.1]; rfl) ?_
                    refine jmi_ist hc hh 11 (by decide) (by decide) hi d_M_make_121 (fun H locs hh => ?_)
                    refine lv_iload_n hx hb d_M_make_122 rfl (lv_at hl 3 rfl) ?_
                    exact jx_iret (r := nI i) hc hh hQ hlk hr rfl rfl ⟨by rw [← hf], by rw [jm_make_i hf]; simp [jm_mkB, jm_mkA, jm_opq, h89, h99, h104]⟩ d_M_make_123
                  refine lv_aload_n hx hb d_M_make_107 rfl (lv_at hl 0 rfl) ?_
                  refine jg_M hc hh 11 (by decide) rfl wf_M_44 d_M_make_108 ?_
                  refine lv_iload hx hb d_M_make_111 (lv_at hl 4 rfl) ?_
                  refine jm_ild hc hh 11 (by decide) (by decide) (jq_nn (jm_Sax (jm_Sh_mk0 hS) h_nav) h99) d_M_make_113 ?_
                  refine lv_goto (tgt := 121) hx hb d_M_make_114 rfl ?_
                  refine jmi_ist hc hh 11 (by decide) (by decide) hi d_M_make_121 (fun H locs hh => ?_)
                  refine lv_iload_n hx hb d_M_make_122 rfl (lv_at hl 3 rfl) ?_
                  exact jx_iret (r := nI i) hc hh hQ hlk hr rfl rfl ⟨by rw [← hf], by rw [jm_make_i hf]; simp [jm_mkB, jm_mkA, jm_opq, h89, h99, h104]⟩ d_M_make_123
                have e45 : (jm_mkS (jm_mk0 u i) i url (jm_under (jm_mk0 u i) nav)) = (js_up (js_up (jm_mk0 u i) 25 0 url) 12 i (jm_under (jm_mk0 u i) nav)) := rfl
                refine J87 _ _ _ ?_ ?_
                ·
                  try rw [e45]
                  exact hh
                try rw [e45]
                exact lv_sub hl [1, 2, 3, 4, 5, 0] rfl
              have e46 : (jm_under (jm_mk0 u i) nav) = 0 := by first | (simp [jm_under, h54, h64]; done) | (simp [jm_under, h54, eq_true h64]; done)
              refine W.eq (g2 := F0 m 72 ls [.int (jm_under (jm_mk0 u i) nav)]) (by first | (rw [e46]; done) | (rw [e46]; rfl)) ?_
              refine J72 _ ?_
              exact lv_sub hl [1, 2, 3, 4, 0] rfl
            refine lv_iconst (v := 1) hx hb d_M_make_67 (by decide) ?_
            refine lv_goto (tgt := 72) hx hb d_M_make_68 rfl ?_
            have J72 : ∀  (ls : Array Slot), lv_has ls 8 [(0, .ref (ad 0)), (1, .int nav), (2, .int url), (3, .int (nI i)), (4, .int ((jm_mk0 u i) 16 (ix nav)))] → W p l e (jr 2) s m args below meth c H locs 0 0 Q (F0 m 72 ls [.int (jm_under (jm_mk0 u i) nav)]) := by
              intro  ls hl
              refine lv_istore (i := 5) (lv' := [(5, .int (jm_under (jm_mk0 u i) nav)), (0, .ref (ad 0)), (1, .int nav), (2, .int url), (3, .int (nI i)), (4, .int ((jm_mk0 u i) 16 (ix nav)))]) hx hb d_M_make_72 hl (by decide) rfl (fun ls hl => ?_)
              refine lv_aload_n hx hb d_M_make_74 rfl (lv_at hl 1 rfl) ?_
              refine lv_iload_n hx hb d_M_make_75 rfl (lv_at hl 3 rfl) ?_
              refine jpm_25 hc hh wf_M_93 d_M_make_76 (fun H locs hh => ?_)
              refine lv_aload_n hx hb d_M_make_79 rfl (lv_at hl 1 rfl) ?_
              refine jg_M hc hh 12 (by decide) rfl wf_M_47 d_M_make_80 ?_
              refine lv_iload_n hx hb d_M_make_83 rfl (lv_at hl 4 rfl) ?_
              refine lv_iload hx hb d_M_make_84 (lv_at hl 0 rfl) ?_
              refine jmi_zst hc hh 12 (by decide) (by decide) hi jm_under_z d_M_make_86 (fun H locs hh => ?_)
              have J87 : ∀  (H : Heap) (locs : List Loc) (ls : Array Slot), jx_H D 22 ad (jm_cell ad cA (jm_mkS (jm_mk0 u i) i url (jm_under (jm_mk0 u i) nav))) A s.heap H locs → lv_has ls 8 [(0, .ref (ad 0)), (1, .int nav), (2, .int url), (3, .int (nI i)), (4, .int ((jm_mk0 u i) 16 (ix nav))), (5, .int (jm_under (jm_mk0 u i) nav))] → W p l e (jr 2) s m args below meth c H locs 0 0 Q (F0 m 87 ls []) := by
                intro  H locs ls hh hl
                refine lv_iload_n hx hb d_M_make_87 rfl (lv_at hl 2 rfl) ?_
                refine lv_iconst (v := -1) hx hb d_M_make_88 (by decide) ?_
                refine lv_icmp_ne (tgt := 124) hx hb d_M_make_89 rfl (fun h89 => ?_) (fun h89 => ?_)
                ·
                  refine lv_iconst (v := 0) hx hb d_M_make_124 (by decide) ?_
                  refine lv_istore (i := 6) (lv' := [(6, .int 0), (0, .ref (ad 0)), (1, .int nav), (2, .int url), (3, .int (nI i)), (4, .int ((jm_mk0 u i) 16 (ix nav))), (5, .int (jm_under (jm_mk0 u i) nav))]) hx hb d_M_make_125 hl (by decide) rfl (fun ls hl => ?_)
                  have L127 : ∀ (n : Nat) (v : js_S) (k9 : Nat) (H : Heap) (locs : List Loc) (ls : Array Slot), k9 + n = 4 → (jm_Sh v) → (∃ j, j < 256 ∧ v 25 0 = nI j) → (jm_fd v n = jm_fd (jm_mkS (jm_mk0 u i) i url (jm_under (jm_mk0 u i) nav)) 4) → jx_H D 22 ad (jm_cell ad cA v) A s.heap H locs → lv_has ls 8 [(0, .ref (ad 0)), (1, .int nav), (2, .int url), (3, .int (nI i)), (5, .int (jm_under (jm_mk0 u i) nav)), (6, .int (nI k9))] → W p l e (jr 2) s m args below meth c H locs 0 0 Q (F0 m 127 ls []) := by
                    intro n
                    induction n with
                    | zero =>
                      intro v k9 H locs ls hm hSv hlv hfv hh hl
                      refine lv_iload hx hb d_M_make_127 (lv_at hl 5 rfl) ?_
                      refine lv_iconst (v := 4) hx hb d_M_make_129 (by decide) ?_
                      refine lv_icmp_ge (tgt := 196) hx hb d_M_make_130 rfl (fun h130 => ?_) (fun hq => absurd (nI_le (show 4 ≤ k9 by omega) (show k9 < 2 ^ 31 by omega)) hq)
                      have J196 : ∀ (v : js_S) (H : Heap) (locs : List Loc) (ls : Array Slot), (∃ j, j < 256 ∧ v 25 0 = nI j) → (jm_make u nav url = jm_mk1 v i (jm_under (jm_mk0 u i) nav)) → jx_H D 22 ad (jm_cell ad cA v) A s.heap H locs → lv_has ls 8 [(0, .ref (ad 0)), (3, .int (nI i)), (5, .int (jm_under (jm_mk0 u i) nav))] → W p l e (jr 2) s m args below meth c H locs 0 0 Q (F0 m 196 ls []) := by
                        intro v H locs ls hlv hmk hh hl
                        refine lv_aload_n hx hb d_M_make_196 rfl (lv_at hl 0 rfl) ?_
                        refine jg_M hc hh 0 (by decide) rfl wf_M_7 d_M_make_197 ?_
                        refine lv_aload_n hx hb d_M_make_200 rfl (lv_at hl 0 rfl) ?_
                        refine jg_M hc hh 25 (by decide) rfl wf_M_93 d_M_make_201 ?_
                        refine lv_bipush (v := 8) hx hb d_M_make_204 (by decide) ?_
                        refine lv_idiv hx hb d_M_make_206 (by decide) ?_
                        refine jm_ild hc hh 0 (by decide) (by decide) (js_pgn hlv) d_M_make_207 ?_
                        refine lv_if_eq (tgt := 230) hx hb d_M_make_208 rfl (fun h208 => ?_) (fun h208 => ?_)
                        ·
                          refine lv_aload_n hx hb d_M_make_230 rfl (lv_at hl 0 rfl) ?_
                          refine jg_M hc hh 12 (by decide) rfl wf_M_47 d_M_make_231 ?_
                          refine lv_iload_n hx hb d_M_make_234 rfl (lv_at hl 1 rfl) ?_
                          refine lv_iload hx hb d_M_make_235 (lv_at hl 2 rfl) ?_
                          refine lv_if_ne (tgt := 255) hx hb d_M_make_237 rfl (fun h237 => ?_) (fun h237 => ?_)
                          ·
                            refine lv_iconst (v := 1) hx hb d_M_make_255 (by decide) ?_
                            refine lv_goto (tgt := 260) hx hb d_M_make_256 rfl ?_
                            have J260 : ∀  (ls : Array Slot), lv_has ls 8 [(0, .ref (ad 0)), (3, .int (nI i))] → W p l e (jr 2) s m args below meth c H locs 0 0 Q (F0 m 260 ls [.int (jm_mb v (jm_under (jm_mk0 u i) nav)), .int (nI i), .ref (ad 13)]) := by
                              intro  ls hl
                              refine jmi_zst hc hh 12 (by decide) (by decide) hi jm_mb_z d_M_make_260 (fun H locs hh => ?_)
                              refine lv_aload_n hx hb d_M_make_261 rfl (lv_at hl 0 rfl) ?_
                              refine jg_M hc hh 11 (by decide) rfl wf_M_44 d_M_make_262 ?_
                              refine lv_iload_n hx hb d_M_make_265 rfl (lv_at hl 1 rfl) ?_
                              refine lv_aload_n hx hb d_M_make_266 rfl (lv_at hl 0 rfl) ?_
                              refine jg_M hc hh 12 (by decide) rfl wf_M_47 d_M_make_267 ?_
                              refine lv_iload_n hx hb d_M_make_270 rfl (lv_at hl 1 rfl) ?_
                              refine jmi_zld hc hh 12 (by decide) (by decide) hi d_M_make_271 ?_
                              refine lv_if_eq (tgt := 282) hx hb d_M_make_272 rfl (fun h272 => ?_) (fun h272 => ?_)
                              ·
                                refine lv_aload_n hx hb d_M_make_282 rfl (lv_at hl 0 rfl) ?_
                                refine jg_M hc hh 25 (by decide) rfl wf_M_93 d_M_make_283 ?_
                                refine lv_bipush (v := 64) hx hb d_M_make_286 (by decide) ?_
                                refine lv_idiv hx hb d_M_make_288 (by decide) ?_
                                refine jmi_ist hc hh 11 (by decide) (by decide) hi d_M_make_289 (fun H locs hh => ?_)
                                refine lv_iload_n hx hb d_M_make_290 rfl (lv_at hl 1 rfl) ?_
                                exact jx_iret (r := nI i) hc hh hQ hlk hr rfl rfl ⟨by rw [← hf], by rw [hmk]; simp [jm_mk1, jm_mkC, jm_opq, h208, h272]⟩ d_M_make_291
                              refine lv_aload_n hx hb d_M_make_275 rfl (lv_at hl 0 rfl) ?_
                              refine jx_callV [] [.int (nI i), .ref (ad 12)] hc hh (m_freshOrigin l D aK ad cA (js_up v 12 i (jm_mb v (jm_under (jm_mk0 u i) nav)))) wy_M_96 ⟨by decide, rfl, rfl⟩ (by decide) rfl hl.1 rfl (by simp [vc_int, vc_ref, vc_long, jv_cat]) ⟨Nat.zero_le _, Nat.zero_le _⟩ d_M_make_276 (fun r u9 H locs hp hh _ _ => ?_)
                              rw [hp.2] at hh
                              refine W.eq (g2 := F0 m 279 ls [.int (3 + ((js_up v 12 i (jm_mb v (jm_under (jm_mk0 u i) nav))) 22 0 + 1)), .int (nI i), .ref (ad 12)]) (by rw [hp.1]; rfl) ?_
                              refine lv_goto (tgt := 289) hx hb d_M_make_279 rfl ?_
                              refine jmi_ist hc hh 11 (by decide) (by decide) hi d_M_make_289 (fun H locs hh => ?_)
                              refine lv_iload_n hx hb d_M_make_290 rfl (lv_at hl 1 rfl) ?_
                              exact jx_iret (r := nI i) hc hh hQ hlk hr rfl rfl ⟨by rw [← hf], by rw [hmk]; simp [jm_mk1, jm_mkC, jm_opq, h208, h272]⟩ d_M_make_291
                            have e47 : (jm_mb v (jm_under (jm_mk0 u i) nav)) = 1 := by first | (simp [jm_mb, h208, h237]; done) | (simp [jm_mb, eq_true h208, h237]; done)
                            refine W.eq (g2 := F0 m 260 ls [.int (jm_mb v (jm_under (jm_mk0 u i) nav)), .int (nI i), .ref (ad 13)]) (by first | (rw [e47]; done) | (rw [e47]; rfl)) ?_
                            refine J260 _ ?_
                            exact lv_sub hl [0, 1] rfl
                          refine lv_aload_n hx hb d_M_make_240 rfl (lv_at hl 0 rfl) ?_
                          refine jg_M hc hh 3 (by decide) rfl wf_M_19 d_M_make_241 ?_
                          refine lv_aload_n hx hb d_M_make_244 rfl (lv_at hl 0 rfl) ?_
                          refine jg_M hc hh 25 (by decide) rfl wf_M_93 d_M_make_245 ?_
                          refine lv_bipush (v := 8) hx hb d_M_make_248 (by decide) ?_
                          refine lv_idiv hx hb d_M_make_250 (by decide) ?_
                          refine jm_zld hc hh 3 (by decide) (by decide) (js_pgn hlv) d_M_make_251 ?_
                          refine lv_if_eq (tgt := 259) hx hb d_M_make_252 rfl (fun h252 => ?_) (fun h252 => ?_)
                          ·
                            refine lv_iconst (v := 0) hx hb d_M_make_259 (by decide) ?_
                            have J260 : ∀  (ls : Array Slot), lv_has ls 8 [(0, .ref (ad 0)), (3, .int (nI i))] → W p l e (jr 2) s m args below meth c H locs 0 0 Q (F0 m 260 ls [.int (jm_mb v (jm_under (jm_mk0 u i) nav)), .int (nI i), .ref (ad 13)]) := by
                              intro  ls hl
                              refine jmi_zst hc hh 12 (by decide) (by decide) hi jm_mb_z d_M_make_260 (fun H locs hh => ?_)
                              refine lv_aload_n hx hb d_M_make_261 rfl (lv_at hl 0 rfl) ?_
                              refine jg_M hc hh 11 (by decide) rfl wf_M_44 d_M_make_262 ?_
                              refine lv_iload_n hx hb d_M_make_265 rfl (lv_at hl 1 rfl) ?_
                              refine lv_aload_n hx hb d_M_make_266 rfl (lv_at hl 0 rfl) ?_
                              refine jg_M hc hh 12 (by decide) rfl wf_M_47 d_M_make_267 ?_
                              refine lv_iload_n hx hb d_M_make_270 rfl (lv_at hl 1 rfl) ?_
                              refine jmi_zld hc hh 12 (by decide) (by decide) hi d_M_make_271 ?_
                              refine lv_if_eq (tgt := 282) hx hb d_M_make_272 rfl (fun h272 => ?_) (fun h272 => ?_)
                              ·
                                refine lv_aload_n hx hb d_M_make_282 rfl (lv_at hl 0 rfl) ?_
                                refine jg_M hc hh 25 (by decide) rfl wf_M_93 d_M_make_283 ?_
                                refine lv_bipush (v := 64) hx hb d_M_make_286 (by decide) ?_
                                refine lv_idiv hx hb d_M_make_288 (by decide) ?_
                                refine jmi_ist hc hh 11 (by decide) (by decide) hi d_M_make_289 (fun H locs hh => ?_)
                                refine lv_iload_n hx hb d_M_make_290 rfl (lv_at hl 1 rfl) ?_
                                exact jx_iret (r := nI i) hc hh hQ hlk hr rfl rfl ⟨by rw [← hf], by rw [hmk]; simp [jm_mk1, jm_mkC, jm_opq, h208, h272]⟩ d_M_make_291
                              refine lv_aload_n hx hb d_M_make_275 rfl (lv_at hl 0 rfl) ?_
                              refine jx_callV [] [.int (nI i), .ref (ad 12)] hc hh (m_freshOrigin l D aK ad cA (js_up v 12 i (jm_mb v (jm_under (jm_mk0 u i) nav)))) wy_M_96 ⟨by decide, rfl, rfl⟩ (by decide) rfl hl.1 rfl (by simp [vc_int, vc_ref, vc_long, jv_cat]) ⟨Nat.zero_le _, Nat.zero_le _⟩ d_M_make_276 (fun r u9 H locs hp hh _ _ => ?_)
                              rw [hp.2] at hh
                              refine W.eq (g2 := F0 m 279 ls [.int (3 + ((js_up v 12 i (jm_mb v (jm_under (jm_mk0 u i) nav))) 22 0 + 1)), .int (nI i), .ref (ad 12)]) (by rw [hp.1]; rfl) ?_
                              refine lv_goto (tgt := 289) hx hb d_M_make_279 rfl ?_
                              refine jmi_ist hc hh 11 (by decide) (by decide) hi d_M_make_289 (fun H locs hh => ?_)
                              refine lv_iload_n hx hb d_M_make_290 rfl (lv_at hl 1 rfl) ?_
                              exact jx_iret (r := nI i) hc hh hQ hlk hr rfl rfl ⟨by rw [← hf], by rw [hmk]; simp [jm_mk1, jm_mkC, jm_opq, h208, h272]⟩ d_M_make_291
                            have e48 : (jm_mb v (jm_under (jm_mk0 u i) nav)) = 0 := by first | (simp [jm_mb, h208, h237, h252]; done) | (simp [jm_mb, eq_true h208, eq_true h237, eq_true h252]; done)
                            refine W.eq (g2 := F0 m 260 ls [.int (jm_mb v (jm_under (jm_mk0 u i) nav)), .int (nI i), .ref (ad 13)]) (by first | (rw [e48]; done) | (rw [e48]; rfl)) ?_
                            refine J260 _ ?_
                            exact lv_sub hl [0, 1] rfl
                          refine lv_iconst (v := 1) hx hb d_M_make_255 (by decide) ?_
                          refine lv_goto (tgt := 260) hx hb d_M_make_256 rfl ?_
                          have J260 : ∀  (ls : Array Slot), lv_has ls 8 [(0, .ref (ad 0)), (3, .int (nI i))] → W p l e (jr 2) s m args below meth c H locs 0 0 Q (F0 m 260 ls [.int (jm_mb v (jm_under (jm_mk0 u i) nav)), .int (nI i), .ref (ad 13)]) := by
                            intro  ls hl
                            refine jmi_zst hc hh 12 (by decide) (by decide) hi jm_mb_z d_M_make_260 (fun H locs hh => ?_)
                            refine lv_aload_n hx hb d_M_make_261 rfl (lv_at hl 0 rfl) ?_
                            refine jg_M hc hh 11 (by decide) rfl wf_M_44 d_M_make_262 ?_
                            refine lv_iload_n hx hb d_M_make_265 rfl (lv_at hl 1 rfl) ?_
                            refine lv_aload_n hx hb d_M_make_266 rfl (lv_at hl 0 rfl) ?_
                            refine jg_M hc hh 12 (by decide) rfl wf_M_47 d_M_make_267 ?_
                            refine lv_iload_n hx hb d_M_make_270 rfl (lv_at hl 1 rfl) ?_
                            refine jmi_zld hc hh 12 (by decide) (by decide) hi d_M_make_271 ?_
                            refine lv_if_eq (tgt := 282) hx hb d_M_make_272 rfl (fun h272 => ?_) (fun h272 => ?_)
                            ·
                              refine lv_aload_n hx hb d_M_make_282 rfl (lv_at hl 0 rfl) ?_
                              refine jg_M hc hh 25 (by decide) rfl wf_M_93 d_M_make_283 ?_
                              refine lv_bipush (v := 64) hx hb d_M_make_286 (by decide) ?_
                              refine lv_idiv hx hb d_M_make_288 (by decide) ?_
                              refine jmi_ist hc hh 11 (by decide) (by decide) hi d_M_make_289 (fun H locs hh => ?_)
                              refine lv_iload_n hx hb d_M_make_290 rfl (lv_at hl 1 rfl) ?_
                              exact jx_iret (r := nI i) hc hh hQ hlk hr rfl rfl ⟨by rw [← hf], by rw [hmk]; simp [jm_mk1, jm_mkC, jm_opq, h208, h272]⟩ d_M_make_291
                            refine lv_aload_n hx hb d_M_make_275 rfl (lv_at hl 0 rfl) ?_
                            refine jx_callV [] [.int (nI i), .ref (ad 12)] hc hh (m_freshOrigin l D aK ad cA (js_up v 12 i (jm_mb v (jm_under (jm_mk0 u i) nav)))) wy_M_96 ⟨by decide, rfl, rfl⟩ (by decide) rfl hl.1 rfl (by simp [vc_int, vc_ref, vc_long, jv_cat]) ⟨Nat.zero_le _, Nat.zero_le _⟩ d_M_make_276 (fun r u9 H locs hp hh _ _ => ?_)
                            rw [hp.2] at hh
                            refine W.eq (g2 := F0 m 279 ls [.int (3 + ((js_up v 12 i (jm_mb v (jm_under (jm_mk0 u i) nav))) 22 0 + 1)), .int (nI i), .ref (ad 12)]) (by rw [hp.1]; rfl) ?_
                            refine lv_goto (tgt := 289) hx hb d_M_make_279 rfl ?_
                            refine jmi_ist hc hh 11 (by decide) (by decide) hi d_M_make_289 (fun H locs hh => ?_)
                            refine lv_iload_n hx hb d_M_make_290 rfl (lv_at hl 1 rfl) ?_
                            exact jx_iret (r := nI i) hc hh hQ hlk hr rfl rfl ⟨by rw [← hf], by rw [hmk]; simp [jm_mk1, jm_mkC, jm_opq, h208, h272]⟩ d_M_make_291
                          have e49 : (jm_mb v (jm_under (jm_mk0 u i) nav)) = 1 := by first | (simp [jm_mb, h208, h237, h252]; done) | (simp [jm_mb, eq_true h208, eq_true h237, h252]; done)
                          refine W.eq (g2 := F0 m 260 ls [.int (jm_mb v (jm_under (jm_mk0 u i) nav)), .int (nI i), .ref (ad 13)]) (by first | (rw [e49]; done) | (rw [e49]; rfl)) ?_
                          refine J260 _ ?_
                          exact lv_sub hl [0, 1] rfl
                        refine lv_aload_n hx hb d_M_make_211 rfl (lv_at hl 0 rfl) ?_
                        refine jg_M hc hh 12 (by decide) rfl wf_M_47 d_M_make_212 ?_
                        refine lv_iload_n hx hb d_M_make_215 rfl (lv_at hl 1 rfl) ?_
                        refine lv_iconst (v := 0) hx hb d_M_make_216 (by decide) ?_
                        refine jmi_zst hc hh 12 (by decide) (by decide) hi (by decide) d_M_make_217 (fun H locs hh => ?_)
                        refine lv_aload_n hx hb d_M_make_218 rfl (lv_at hl 0 rfl) ?_
                        refine jg_M hc hh 11 (by decide) rfl wf_M_44 d_M_make_219 ?_
                        refine lv_iload_n hx hb d_M_make_222 rfl (lv_at hl 1 rfl) ?_
                        refine lv_aload_n hx hb d_M_make_223 rfl (lv_at hl 0 rfl) ?_
                        refine jx_callV [] [.int (nI i), .ref (ad 12)] hc hh (m_freshOrigin l D aK ad cA (js_up v 12 i 0)) wy_M_96 ⟨by decide, rfl, rfl⟩ (by decide) rfl hl.1 rfl (by simp [vc_int, vc_ref, vc_long, jv_cat]) ⟨Nat.zero_le _, Nat.zero_le _⟩ d_M_make_224 (fun r u9 H locs hp hh _ _ => ?_)
                        rw [hp.2] at hh
                        refine W.eq (g2 := F0 m 227 ls [.int (3 + ((js_up v 12 i 0) 22 0 + 1)), .int (nI i), .ref (ad 12)]) (by rw [hp.1]; rfl) ?_
                        refine jmi_ist hc hh 11 (by decide) (by decide) hi d_M_make_227 (fun H locs hh => ?_)
                        refine lv_iload_n hx hb d_M_make_228 rfl (lv_at hl 1 rfl) ?_
                        exact jx_iret (r := nI i) hc hh hQ hlk hr rfl rfl ⟨by rw [← hf], by rw [hmk]; simp [jm_mk1, jm_opq, h208]⟩ d_M_make_229
                      refine J196 v _ _ _ hlv (by rw [jm_make_i hf]; unfold jm_mkB; rw [if_neg h89, ← hfv]; first | rfl | simp [jm_fd, h146]) ?_ ?_
                      ·
                        exact hh
                      exact lv_sub hl [0, 3, 4] rfl
                    | succ n ih =>
                      intro v k9 H locs ls hm hSv hlv hfv hh hl
                      refine lv_iload hx hb d_M_make_127 (lv_at hl 5 rfl) ?_
                      refine lv_iconst (v := 4) hx hb d_M_make_129 (by decide) ?_
                      refine lv_icmp_ge (tgt := 196) hx hb d_M_make_130 rfl (fun hq => absurd hq (nI_ge (show k9 < 4 by omega) (by decide))) (fun h130 => ?_)
                      refine lv_aload_n hx hb d_M_make_133 rfl (lv_at hl 0 rfl) ?_
                      refine jg_M hc hh 0 (by decide) rfl wf_M_7 d_M_make_134 ?_
                      refine lv_aload_n hx hb d_M_make_137 rfl (lv_at hl 0 rfl) ?_
                      refine jg_M hc hh 25 (by decide) rfl wf_M_93 d_M_make_138 ?_
                      refine lv_bipush (v := 8) hx hb d_M_make_141 (by decide) ?_
                      refine lv_idiv hx hb d_M_make_143 (by decide) ?_
                      refine jm_ild hc hh 0 (by decide) (by decide) (js_pgn hlv) d_M_make_144 ?_
                      refine lv_iconst (v := 1) hx hb d_M_make_145 (by decide) ?_
                      refine lv_icmp_ne (tgt := 196) hx hb d_M_make_146 rfl (fun h146 => ?_) (fun h146 => ?_)
                      ·
                        have J196 : ∀ (v : js_S) (H : Heap) (locs : List Loc) (ls : Array Slot), (∃ j, j < 256 ∧ v 25 0 = nI j) → (jm_make u nav url = jm_mk1 v i (jm_under (jm_mk0 u i) nav)) → jx_H D 22 ad (jm_cell ad cA v) A s.heap H locs → lv_has ls 8 [(0, .ref (ad 0)), (3, .int (nI i)), (5, .int (jm_under (jm_mk0 u i) nav))] → W p l e (jr 2) s m args below meth c H locs 0 0 Q (F0 m 196 ls []) := by
                          intro v H locs ls hlv hmk hh hl
                          refine lv_aload_n hx hb d_M_make_196 rfl (lv_at hl 0 rfl) ?_
                          refine jg_M hc hh 0 (by decide) rfl wf_M_7 d_M_make_197 ?_
                          refine lv_aload_n hx hb d_M_make_200 rfl (lv_at hl 0 rfl) ?_
                          refine jg_M hc hh 25 (by decide) rfl wf_M_93 d_M_make_201 ?_
                          refine lv_bipush (v := 8) hx hb d_M_make_204 (by decide) ?_
                          refine lv_idiv hx hb d_M_make_206 (by decide) ?_
                          refine jm_ild hc hh 0 (by decide) (by decide) (js_pgn hlv) d_M_make_207 ?_
                          refine lv_if_eq (tgt := 230) hx hb d_M_make_208 rfl (fun h208 => ?_) (fun h208 => ?_)
                          ·
                            refine lv_aload_n hx hb d_M_make_230 rfl (lv_at hl 0 rfl) ?_
                            refine jg_M hc hh 12 (by decide) rfl wf_M_47 d_M_make_231 ?_
                            refine lv_iload_n hx hb d_M_make_234 rfl (lv_at hl 1 rfl) ?_
                            refine lv_iload hx hb d_M_make_235 (lv_at hl 2 rfl) ?_
                            refine lv_if_ne (tgt := 255) hx hb d_M_make_237 rfl (fun h237 => ?_) (fun h237 => ?_)
                            ·
                              refine lv_iconst (v := 1) hx hb d_M_make_255 (by decide) ?_
                              refine lv_goto (tgt := 260) hx hb d_M_make_256 rfl ?_
                              have J260 : ∀  (ls : Array Slot), lv_has ls 8 [(0, .ref (ad 0)), (3, .int (nI i))] → W p l e (jr 2) s m args below meth c H locs 0 0 Q (F0 m 260 ls [.int (jm_mb v (jm_under (jm_mk0 u i) nav)), .int (nI i), .ref (ad 13)]) := by
                                intro  ls hl
                                refine jmi_zst hc hh 12 (by decide) (by decide) hi jm_mb_z d_M_make_260 (fun H locs hh => ?_)
                                refine lv_aload_n hx hb d_M_make_261 rfl (lv_at hl 0 rfl) ?_
                                refine jg_M hc hh 11 (by decide) rfl wf_M_44 d_M_make_262 ?_
                                refine lv_iload_n hx hb d_M_make_265 rfl (lv_at hl 1 rfl) ?_
                                refine lv_aload_n hx hb d_M_make_266 rfl (lv_at hl 0 rfl) ?_
                                refine jg_M hc hh 12 (by decide) rfl wf_M_47 d_M_make_267 ?_
                                refine lv_iload_n hx hb d_M_make_270 rfl (lv_at hl 1 rfl) ?_
                                refine jmi_zld hc hh 12 (by decide) (by decide) hi d_M_make_271 ?_
                                refine lv_if_eq (tgt := 282) hx hb d_M_make_272 rfl (fun h272 => ?_) (fun h272 => ?_)
                                ·
                                  refine lv_aload_n hx hb d_M_make_282 rfl (lv_at hl 0 rfl) ?_
                                  refine jg_M hc hh 25 (by decide) rfl wf_M_93 d_M_make_283 ?_
                                  refine lv_bipush (v := 64) hx hb d_M_make_286 (by decide) ?_
                                  refine lv_idiv hx hb d_M_make_288 (by decide) ?_
                                  refine jmi_ist hc hh 11 (by decide) (by decide) hi d_M_make_289 (fun H locs hh => ?_)
                                  refine lv_iload_n hx hb d_M_make_290 rfl (lv_at hl 1 rfl) ?_
                                  exact jx_iret (r := nI i) hc hh hQ hlk hr rfl rfl ⟨by rw [← hf], by rw [hmk]; simp [jm_mk1, jm_mkC, jm_opq, h208, h272]⟩ d_M_make_291
                                refine lv_aload_n hx hb d_M_make_275 rfl (lv_at hl 0 rfl) ?_
                                refine jx_callV [] [.int (nI i), .ref (ad 12)] hc hh (m_freshOrigin l D aK ad cA (js_up v 12 i (jm_mb v (jm_under (jm_mk0 u i) nav)))) wy_M_96 ⟨by decide, rfl, rfl⟩ (by decide) rfl hl.1 rfl (by simp [vc_int, vc_ref, vc_long, jv_cat]) ⟨Nat.zero_le _, Nat.zero_le _⟩ d_M_make_276 (fun r u9 H locs hp hh _ _ => ?_)
                                rw [hp.2] at hh
                                refine W.eq (g2 := F0 m 279 ls [.int (3 + ((js_up v 12 i (jm_mb v (jm_under (jm_mk0 u i) nav))) 22 0 + 1)), .int (nI i), .ref (ad 12)]) (by rw [hp.1]; rfl) ?_
                                refine lv_goto (tgt := 289) hx hb d_M_make_279 rfl ?_
                                refine jmi_ist hc hh 11 (by decide) (by decide) hi d_M_make_289 (fun H locs hh => ?_)
                                refine lv_iload_n hx hb d_M_make_290 rfl (lv_at hl 1 rfl) ?_
                                exact jx_iret (r := nI i) hc hh hQ hlk hr rfl rfl ⟨by rw [← hf], by rw [hmk]; simp [jm_mk1, jm_mkC, jm_opq, h208, h272]⟩ d_M_make_291
                              have e50 : (jm_mb v (jm_under (jm_mk0 u i) nav)) = 1 := by first | (simp [jm_mb, h208, h237]; done) | (simp [jm_mb, eq_true h208, h237]; done)
                              refine W.eq (g2 := F0 m 260 ls [.int (jm_mb v (jm_under (jm_mk0 u i) nav)), .int (nI i), .ref (ad 13)]) (by first | (rw [e50]; done) | (rw [e50]; rfl)) ?_
                              refine J260 _ ?_
                              exact lv_sub hl [0, 1] rfl
                            refine lv_aload_n hx hb d_M_make_240 rfl (lv_at hl 0 rfl) ?_
                            refine jg_M hc hh 3 (by decide) rfl wf_M_19 d_M_make_241 ?_
                            refine lv_aload_n hx hb d_M_make_244 rfl (lv_at hl 0 rfl) ?_
                            refine jg_M hc hh 25 (by decide) rfl wf_M_93 d_M_make_245 ?_
                            refine lv_bipush (v := 8) hx hb d_M_make_248 (by decide) ?_
                            refine lv_idiv hx hb d_M_make_250 (by decide) ?_
                            refine jm_zld hc hh 3 (by decide) (by decide) (js_pgn hlv) d_M_make_251 ?_
                            refine lv_if_eq (tgt := 259) hx hb d_M_make_252 rfl (fun h252 => ?_) (fun h252 => ?_)
                            ·
                              refine lv_iconst (v := 0) hx hb d_M_make_259 (by decide) ?_
                              have J260 : ∀  (ls : Array Slot), lv_has ls 8 [(0, .ref (ad 0)), (3, .int (nI i))] → W p l e (jr 2) s m args below meth c H locs 0 0 Q (F0 m 260 ls [.int (jm_mb v (jm_under (jm_mk0 u i) nav)), .int (nI i), .ref (ad 13)]) := by
                                intro  ls hl
                                refine jmi_zst hc hh 12 (by decide) (by decide) hi jm_mb_z d_M_make_260 (fun H locs hh => ?_)
                                refine lv_aload_n hx hb d_M_make_261 rfl (lv_at hl 0 rfl) ?_
                                refine jg_M hc hh 11 (by decide) rfl wf_M_44 d_M_make_262 ?_
                                refine lv_iload_n hx hb d_M_make_265 rfl (lv_at hl 1 rfl) ?_
                                refine lv_aload_n hx hb d_M_make_266 rfl (lv_at hl 0 rfl) ?_
                                refine jg_M hc hh 12 (by decide) rfl wf_M_47 d_M_make_267 ?_
                                refine lv_iload_n hx hb d_M_make_270 rfl (lv_at hl 1 rfl) ?_
                                refine jmi_zld hc hh 12 (by decide) (by decide) hi d_M_make_271 ?_
                                refine lv_if_eq (tgt := 282) hx hb d_M_make_272 rfl (fun h272 => ?_) (fun h272 => ?_)
                                ·
                                  refine lv_aload_n hx hb d_M_make_282 rfl (lv_at hl 0 rfl) ?_
                                  refine jg_M hc hh 25 (by decide) rfl wf_M_93 d_M_make_283 ?_
                                  refine lv_bipush (v := 64) hx hb d_M_make_286 (by decide) ?_
                                  refine lv_idiv hx hb d_M_make_288 (by decide) ?_
                                  refine jmi_ist hc hh 11 (by decide) (by decide) hi d_M_make_289 (fun H locs hh => ?_)
                                  refine lv_iload_n hx hb d_M_make_290 rfl (lv_at hl 1 rfl) ?_
                                  exact jx_iret (r := nI i) hc hh hQ hlk hr rfl rfl ⟨by rw [← hf], by rw [hmk]; simp [jm_mk1, jm_mkC, jm_opq, h208, h272]⟩ d_M_make_291
                                refine lv_aload_n hx hb d_M_make_275 rfl (lv_at hl 0 rfl) ?_
                                refine jx_callV [] [.int (nI i), .ref (ad 12)] hc hh (m_freshOrigin l D aK ad cA (js_up v 12 i (jm_mb v (jm_under (jm_mk0 u i) nav)))) wy_M_96 ⟨by decide, rfl, rfl⟩ (by decide) rfl hl.1 rfl (by simp [vc_int, vc_ref, vc_long, jv_cat]) ⟨Nat.zero_le _, Nat.zero_le _⟩ d_M_make_276 (fun r u9 H locs hp hh _ _ => ?_)
                                rw [hp.2] at hh
                                refine W.eq (g2 := F0 m 279 ls [.int (3 + ((js_up v 12 i (jm_mb v (jm_under (jm_mk0 u i) nav))) 22 0 + 1)), .int (nI i), .ref (ad 12)]) (by rw [hp.1]; rfl) ?_
                                refine lv_goto (tgt := 289) hx hb d_M_make_279 rfl ?_
                                refine jmi_ist hc hh 11 (by decide) (by decide) hi d_M_make_289 (fun H locs hh => ?_)
                                refine lv_iload_n hx hb d_M_make_290 rfl (lv_at hl 1 rfl) ?_
                                exact jx_iret (r := nI i) hc hh hQ hlk hr rfl rfl ⟨by rw [← hf], by rw [hmk]; simp [jm_mk1, jm_mkC, jm_opq, h208, h272]⟩ d_M_make_291
                              have e51 : (jm_mb v (jm_under (jm_mk0 u i) nav)) = 0 := by first | (simp [jm_mb, h208, h237, h252]; done) | (simp [jm_mb, eq_true h208, eq_true h237, eq_true h252]; done)
                              refine W.eq (g2 := F0 m 260 ls [.int (jm_mb v (jm_under (jm_mk0 u i) nav)), .int (nI i), .ref (ad 13)]) (by first | (rw [e51]; done) | (rw [e51]; rfl)) ?_
                              refine J260 _ ?_
                              exact lv_sub hl [0, 1] rfl
                            refine lv_iconst (v := 1) hx hb d_M_make_255 (by decide) ?_
                            refine lv_goto (tgt := 260) hx hb d_M_make_256 rfl ?_
                            have J260 : ∀  (ls : Array Slot), lv_has ls 8 [(0, .ref (ad 0)), (3, .int (nI i))] → W p l e (jr 2) s m args below meth c H locs 0 0 Q (F0 m 260 ls [.int (jm_mb v (jm_under (jm_mk0 u i) nav)), .int (nI i), .ref (ad 13)]) := by
                              intro  ls hl
                              refine jmi_zst hc hh 12 (by decide) (by decide) hi jm_mb_z d_M_make_260 (fun H locs hh => ?_)
                              refine lv_aload_n hx hb d_M_make_261 rfl (lv_at hl 0 rfl) ?_
                              refine jg_M hc hh 11 (by decide) rfl wf_M_44 d_M_make_262 ?_
                              refine lv_iload_n hx hb d_M_make_265 rfl (lv_at hl 1 rfl) ?_
                              refine lv_aload_n hx hb d_M_make_266 rfl (lv_at hl 0 rfl) ?_
                              refine jg_M hc hh 12 (by decide) rfl wf_M_47 d_M_make_267 ?_
                              refine lv_iload_n hx hb d_M_make_270 rfl (lv_at hl 1 rfl) ?_
                              refine jmi_zld hc hh 12 (by decide) (by decide) hi d_M_make_271 ?_
                              refine lv_if_eq (tgt := 282) hx hb d_M_make_272 rfl (fun h272 => ?_) (fun h272 => ?_)
                              ·
                                refine lv_aload_n hx hb d_M_make_282 rfl (lv_at hl 0 rfl) ?_
                                refine jg_M hc hh 25 (by decide) rfl wf_M_93 d_M_make_283 ?_
                                refine lv_bipush (v := 64) hx hb d_M_make_286 (by decide) ?_
                                refine lv_idiv hx hb d_M_make_288 (by decide) ?_
                                refine jmi_ist hc hh 11 (by decide) (by decide) hi d_M_make_289 (fun H locs hh => ?_)
                                refine lv_iload_n hx hb d_M_make_290 rfl (lv_at hl 1 rfl) ?_
                                exact jx_iret (r := nI i) hc hh hQ hlk hr rfl rfl ⟨by rw [← hf], by rw [hmk]; simp [jm_mk1, jm_mkC, jm_opq, h208, h272]⟩ d_M_make_291
                              refine lv_aload_n hx hb d_M_make_275 rfl (lv_at hl 0 rfl) ?_
                              refine jx_callV [] [.int (nI i), .ref (ad 12)] hc hh (m_freshOrigin l D aK ad cA (js_up v 12 i (jm_mb v (jm_under (jm_mk0 u i) nav)))) wy_M_96 ⟨by decide, rfl, rfl⟩ (by decide) rfl hl.1 rfl (by simp [vc_int, vc_ref, vc_long, jv_cat]) ⟨Nat.zero_le _, Nat.zero_le _⟩ d_M_make_276 (fun r u9 H locs hp hh _ _ => ?_)
                              rw [hp.2] at hh
                              refine W.eq (g2 := F0 m 279 ls [.int (3 + ((js_up v 12 i (jm_mb v (jm_under (jm_mk0 u i) nav))) 22 0 + 1)), .int (nI i), .ref (ad 12)]) (by rw [hp.1]; rfl) ?_
                              refine lv_goto (tgt := 289) hx hb d_M_make_279 rfl ?_
                              refine jmi_ist hc hh 11 (by decide) (by decide) hi d_M_make_289 (fun H locs hh => ?_)
                              refine lv_iload_n hx hb d_M_make_290 rfl (lv_at hl 1 rfl) ?_
                              exact jx_iret (r := nI i) hc hh hQ hlk hr rfl rfl ⟨by rw [← hf], by rw [hmk]; simp [jm_mk1, jm_mkC, jm_opq, h208, h272]⟩ d_M_make_291
                            have e52 : (jm_mb v (jm_under (jm_mk0 u i) nav)) = 1 := by first | (simp [jm_mb, h208, h237, h252]; done) | (simp [jm_mb, eq_true h208, eq_true h237, h252]; done)
                            refine W.eq (g2 := F0 m 260 ls [.int (jm_mb v (jm_under (jm_mk0 u i) nav)), .int (nI i), .ref (ad 13)]) (by first | (rw [e52]; done) | (rw [e52]; rfl)) ?_
                            refine J260 _ ?_
                            exact lv_sub hl [0, 1] rfl
                          refine lv_aload_n hx hb d_M_make_211 rfl (lv_at hl 0 rfl) ?_
                          refine jg_M hc hh 12 (by decide) rfl wf_M_47 d_M_make_212 ?_
                          refine lv_iload_n hx hb d_M_make_215 rfl (lv_at hl 1 rfl) ?_
                          refine lv_iconst (v := 0) hx hb d_M_make_216 (by decide) ?_
                          refine jmi_zst hc hh 12 (by decide) (by decide) hi (by decide) d_M_make_217 (fun H locs hh => ?_)
                          refine lv_aload_n hx hb d_M_make_218 rfl (lv_at hl 0 rfl) ?_
                          refine jg_M hc hh 11 (by decide) rfl wf_M_44 d_M_make_219 ?_
                          refine lv_iload_n hx hb d_M_make_222 rfl (lv_at hl 1 rfl) ?_
                          refine lv_aload_n hx hb d_M_make_223 rfl (lv_at hl 0 rfl) ?_
                          refine jx_callV [] [.int (nI i), .ref (ad 12)] hc hh (m_freshOrigin l D aK ad cA (js_up v 12 i 0)) wy_M_96 ⟨by decide, rfl, rfl⟩ (by decide) rfl hl.1 rfl (by simp [vc_int, vc_ref, vc_long, jv_cat]) ⟨Nat.zero_le _, Nat.zero_le _⟩ d_M_make_224 (fun r u9 H locs hp hh _ _ => ?_)
                          rw [hp.2] at hh
                          refine W.eq (g2 := F0 m 227 ls [.int (3 + ((js_up v 12 i 0) 22 0 + 1)), .int (nI i), .ref (ad 12)]) (by rw [hp.1]; rfl) ?_
                          refine jmi_ist hc hh 11 (by decide) (by decide) hi d_M_make_227 (fun H locs hh => ?_)
                          refine lv_iload_n hx hb d_M_make_228 rfl (lv_at hl 1 rfl) ?_
                          exact jx_iret (r := nI i) hc hh hQ hlk hr rfl rfl ⟨by rw [← hf], by rw [hmk]; simp [jm_mk1, jm_opq, h208]⟩ d_M_make_229
                        refine J196 v _ _ _ hlv (by rw [jm_make_i hf]; unfold jm_mkB; rw [if_neg h89, ← hfv]; first | rfl | simp [jm_fd, h146]) ?_ ?_
                        ·
                          exact hh
                        exact lv_sub hl [0, 3, 4] rfl
                      refine lv_aload_n hx hb d_M_make_149 rfl (lv_at hl 0 rfl) ?_
                      refine jg_M hc hh 1 (by decide) rfl wf_M_13 d_M_make_150 ?_
                      refine lv_aload_n hx hb d_M_make_153 rfl (lv_at hl 0 rfl) ?_
                      refine jg_M hc hh 25 (by decide) rfl wf_M_93 d_M_make_154 ?_
                      refine lv_bipush (v := 8) hx hb d_M_make_157 (by decide) ?_
                      refine lv_idiv hx hb d_M_make_159 (by decide) ?_
                      refine jm_ild hc hh 1 (by decide) (by decide) (js_pgn hlv) d_M_make_160 ?_
                      refine lv_istore (i := 7) (lv' := [(7, .int (v 1 (ix ((v 25 0) / 8)))), (0, .ref (ad 0)), (1, .int nav), (2, .int url), (3, .int (nI i)), (5, .int (jm_under (jm_mk0 u i) nav)), (6, .int (nI k9))]) hx hb d_M_make_161 hl (by decide) rfl (fun ls hl => ?_)
                      refine lv_aload_n hx hb d_M_make_163 rfl (lv_at hl 1 rfl) ?_
                      refine lv_iload hx hb d_M_make_164 (lv_at hl 0 rfl) ?_
                      refine lv_bipush (v := 8) hx hb d_M_make_166 (by decide) ?_
                      refine lv_irem hx hb d_M_make_168 (by decide) ?_
                      refine lv_if_ne (tgt := 185) hx hb d_M_make_169 rfl (fun h169 => ?_) (fun h169 => ?_)
                      ·
                        refine lv_iload hx hb d_M_make_185 (lv_at hl 0 rfl) ?_
                        refine jpm_25 hc hh wf_M_93 d_M_make_187 (fun H locs hh => ?_)
                        refine lv_iinc (k := 6) (v := nI (k9 + 1)) (lv' := [(6, .int (nI (k9 + 1))), (7, .int (v 1 (ix ((v 25 0) / 8)))), (0, .ref (ad 0)), (1, .int nav), (2, .int url), (3, .int (nI i)), (5, .int (jm_under (jm_mk0 u i) nav))]) hx hb d_M_make_190 hl rfl (nI_1 k9) (by decide) rfl (fun ls hl => ?_)
                        refine lv_goto (tgt := 127) hx hb d_M_make_193 rfl ?_
                        refine ih (js_up v 25 0 (v 1 (ix ((v 25 0) / 8)))) (k9 + 1) _ _ _ (by omega) (jm_Sh_25 hSv) (by rw [js_up_s]; have q9 := jm_led hSv hlv h146; simpa [h169] using q9) (by rw [← hfv]; simp [jm_fd, h146, h169]) ?_ ?_
                        ·
                          exact hh
                        exact lv_sub hl [2, 3, 4, 5, 6, 0] rfl
                      refine lv_iload hx hb d_M_make_172 (lv_at hl 0 rfl) ?_
                      refine lv_aload_n hx hb d_M_make_174 rfl (lv_at hl 1 rfl) ?_
                      refine jg_M hc hh 25 (by decide) rfl wf_M_93 d_M_make_175 ?_
                      refine lv_bipush (v := 8) hx hb d_M_make_178 (by decide) ?_
                      refine lv_irem hx hb d_M_make_180 (by decide) ?_
                      refine lv_iadd hx hb d_M_make_181 ?_
                      refine lv_goto (tgt := 187) hx hb d_M_make_182 rfl ?_
                      refine jpm_25 hc hh wf_M_93 d_M_make_187 (fun H locs hh => ?_)
                      refine lv_iinc (k := 6) (v := nI (k9 + 1)) (lv' := [(6, .int (nI (k9 + 1))), (7, .int (v 1 (ix ((v 25 0) / 8)))), (0, .ref (ad 0)), (1, .int nav), (2, .int url), (3, .int (nI i)), (5, .int (jm_under (jm_mk0 u i) nav))]) hx hb d_M_make_190 hl rfl (nI_1 k9) (by decide) rfl (fun ls hl => ?_)
                      refine lv_goto (tgt := 127) hx hb d_M_make_193 rfl ?_
                      refine ih (js_up v 25 0 ((v 1 (ix ((v 25 0) / 8))) + ((v 25 0) - (v 25 0) / 8 * 8))) (k9 + 1) _ _ _ (by omega) (jm_Sh_25 hSv) (by rw [js_up_s]; have q9 := jm_led hSv hlv h146; simpa [h169] using q9) (by rw [← hfv]; simp [jm_fd, h146, h169]) ?_ ?_
                      ·
                        exact hh
                      exact lv_sub hl [2, 3, 4, 5, 6, 0] rfl
                  have e53 : nI 0 = 0 := rfl
                  refine L127 4 (jm_mkS (jm_mk0 u i) i url (jm_under (jm_mk0 u i) nav)) 0 _ _ _ (by omega) (jm_Sh_mkS (jm_Sh_mk0 hS)) (by rw [jm_mkS_25]; exact jq_ne hu h89) rfl ?_ ?_
                  ·
                    try rw [e53]
                    exact hh
                  try rw [e53]
                  exact lv_sub hl [1, 2, 3, 4, 6, 0] rfl
                refine lv_aload_n hx hb d_M_make_92 rfl (lv_at hl 0 rfl) ?_
                refine jg_M hc hh 11 (by decide) rfl wf_M_44 d_M_make_93 ?_
                refine lv_iload_n hx hb d_M_make_96 rfl (lv_at hl 3 rfl) ?_
                refine lv_iload hx hb d_M_make_97 (lv_at hl 4 rfl) ?_
                refine lv_if_lt (tgt := 117) hx hb d_M_make_99 rfl (fun h99 => ?_) (fun h99 => ?_)
                ·
                  refine lv_aload_n hx hb d_M_make_117 rfl (lv_at hl 0 rfl) ?_
                  refine jx_callV [] [.int (nI i), .ref (ad 12)] hc hh (m_freshOrigin l D aK ad cA (jm_mkS (jm_mk0 u i) i url (jm_under (jm_mk0 u i) nav))) wy_M_96 ⟨by decide, rfl, rfl⟩ (by decide) rfl hl.1 rfl (by simp [vc_int, vc_ref, vc_long, jv_cat]) ⟨Nat.zero_le _, Nat.zero_le _⟩ d_M_make_118 (fun r u9 H locs hp hh _ _ => ?_)
                  rw [hp.2] at hh
                  refine W.eq (g2 := F0 m 121 ls [.int (3 + ((jm_mkS (jm_mk0 u i) i url (jm_under (jm_mk0 u i) nav)) 22 0 + 1)), .int (nI i), .ref (ad 12)]) (by rw [hp.1]; rfl) ?_
                  refine jmi_ist hc hh 11 (by decide) (by decide) hi d_M_make_121 (fun H locs hh => ?_)
                  refine lv_iload_n hx hb d_M_make_122 rfl (lv_at hl 3 rfl) ?_
                  exact jx_iret (r := nI i) hc hh hQ hlk hr rfl rfl ⟨by rw [← hf], by rw [jm_make_i hf]; simp [jm_mkB, jm_mkA, jm_opq, h89, h99]⟩ d_M_make_123
                refine lv_iload hx hb d_M_make_102 (lv_at hl 5 rfl) ?_
                refine lv_if_ne (tgt := 117) hx hb d_M_make_104 rfl (fun h104 => ?_) (fun h104 => ?_)
                ·
                  refine lv_aload_n hx hb d_M_make_117 rfl (lv_at hl 0 rfl) ?_
                  refine jx_callV [] [.int (nI i), .ref (ad 12)] hc hh (m_freshOrigin l D aK ad cA (jm_mkS (jm_mk0 u i) i url (jm_under (jm_mk0 u i) nav))) wy_M_96 ⟨by decide, rfl, rfl⟩ (by decide) rfl hl.1 rfl (by simp [vc_int, vc_ref, vc_long, jv_cat]) ⟨Nat.zero_le _, Nat.zero_le _⟩ d_M_make_118 (fun r u9 H locs hp hh _ _ => ?_)
                  rw [hp.2] at hh
                  refine W.eq (g2 := F0 m 121 ls [.int (3 + ((jm_mkS (jm_mk0 u i) i url (jm_under (jm_mk0 u i) nav)) 22 0 + 1)), .int (nI i), .ref (ad 12)]) (by rw [hp.1]; rfl) ?_
                  refine jmi_ist hc hh 11 (by decide) (by decide) hi d_M_make_121 (fun H locs hh => ?_)
                  refine lv_iload_n hx hb d_M_make_122 rfl (lv_at hl 3 rfl) ?_
                  exact jx_iret (r := nI i) hc hh hQ hlk hr rfl rfl ⟨by rw [← hf], by rw [jm_make_i hf]; simp [jm_mkB, jm_mkA, jm_opq, h89, h99, h104]⟩ d_M_make_123
                refine lv_aload_n hx hb d_M_make_107 rfl (lv_at hl 0 rfl) ?_
                refine jg_M hc hh 11 (by decide) rfl wf_M_44 d_M_make_108 ?_
                refine lv_iload hx hb d_M_make_111 (lv_at hl 4 rfl) ?_
                refine jm_ild hc hh 11 (by decide) (by decide) (jq_nn (jm_Sax (jm_Sh_mk0 hS) h_nav) h99) d_M_make_113 ?_
                refine lv_goto (tgt := 121) hx hb d_M_make_114 rfl ?_
                refine jmi_ist hc hh 11 (by decide) (by decide) hi d_M_make_121 (fun H locs hh => ?_)
                refine lv_iload_n hx hb d_M_make_122 rfl (lv_at hl 3 rfl) ?_
                exact jx_iret (r := nI i) hc hh hQ hlk hr rfl rfl ⟨by rw [← hf], by rw [jm_make_i hf]; simp [jm_mkB, jm_mkA, jm_opq, h89, h99, h104]⟩ d_M_make_123
              have e54 : (jm_mkS (jm_mk0 u i) i url (jm_under (jm_mk0 u i) nav)) = (js_up (js_up (jm_mk0 u i) 25 0 url) 12 i (jm_under (jm_mk0 u i) nav)) := rfl
              refine J87 _ _ _ ?_ ?_
              ·
                try rw [e54]
                exact hh
              try rw [e54]
              exact lv_sub hl [1, 2, 3, 4, 5, 0] rfl
            have e55 : (jm_under (jm_mk0 u i) nav) = 1 := by simp [jm_under, h54, h64]
            refine W.eq (g2 := F0 m 72 ls [.int (jm_under (jm_mk0 u i) nav)]) (by first | (rw [e55]; done) | (rw [e55]; rfl)) ?_
            refine J72 _ ?_
            exact lv_sub hl [1, 2, 3, 4, 0] rfl
          have e56 : (jm_mk0 u i) = (js_up (js_up (js_up u 10 i 1) 13 i (-1)) 14 i (-1)) := rfl
          refine J44 _ _ _ ?_ ?_
          ·
            try rw [e56]
            exact hh
          try rw [e56]
          exact lv_sub hl [0, 1, 2, 3] rfl
        refine J23 i _ hi (by rw [← hf]; first | rfl | simp [js_free, h14]) ?_
        exact lv_sub hl [0, 1, 2, 3] rfl
      refine lv_iinc (k := 3) (v := nI (i + 1)) (lv' := [(3, .int (nI (i + 1))), (0, .ref (ad 0)), (1, .int nav), (2, .int url)]) hx hb d_M_make_17 hl rfl (nI_1 i) (by decide) rfl (fun ls hl => ?_)
      refine lv_goto (tgt := 2) hx hb d_M_make_20 rfl ?_
      refine ih (i + 1) _ (by omega) (by rw [← hf]; simp [js_free, h14]) ?_
      exact lv_sub hl [1, 2, 3, 0] rfl
  have e57 : nI 0 = 0 := rfl
  refine L2 47 0 _ (by omega) rfl ?_
  try rw [e57]
  exact lv_sub hl [1, 2, 3, 0] rfl
set_option maxHeartbeats 4000000 in
set_option maxRecDepth 100000 in
theorem m_frameFor (l : Launch) (D : va_G) (aK ad : Nat → Nat) (cA : Nat → ClassId) (u : js_S) (d : Int32) (url : Int32) (st : Int32) (hS : jm_Sh u) (h_d : ∃ i, i < 48 ∧ d = nI i) (hu : jq 256 url) : jx_M l y_M_frameFor b_M_frameFor 7 (some .int) (jr 3) D (jc_tys cA) aK 22 ad (jm_cell ad cA) [.ref (ad 0), .int d, .int url, .int st] u (fun r : Int32 => some (.int r)) (fun r u' => r = nI (js_free u 15 46 1) ∧ u' = (jm_frameFor u d url st)) := by
  refine jx_enter "JointHistoryModel" (by decide) rfl (by simp [lg_sl, vc_int, vc_ref, vc_long, jv_cat]) ?_
  intro p e s m args below meth c A Q H locs ls hQ hc hh hr hlk hl
  have hx := hc.1
  have hb := hc.2.1
  have hl : lv_has ls 7 [(0, .ref (ad 0)), (1, .int d), (2, .int url), (3, .int st)] := by simpa [lv_args, vc_int, vc_ref, vc_long, jv_cat] using hl
  refine lv_iconst (v := 1) hx hb d_M_frameFor_0 (by decide) ?_
  refine lv_istore (i := 4) (lv' := [(4, .int 1), (0, .ref (ad 0)), (1, .int d), (2, .int url), (3, .int st)]) hx hb d_M_frameFor_1 hl (by decide) rfl (fun ls hl => ?_)
  have L3 : ∀ (n : Nat) (i : Nat) (ls : Array Slot), i + n = 47 → (js_free u 15 n i = js_free u 15 46 1) → lv_has ls 7 [(0, .ref (ad 0)), (1, .int d), (2, .int url), (3, .int st), (4, .int (nI i))] → W p l e (jr 3) s m args below meth c H locs 0 0 Q (F0 m 3 ls []) := by
    intro n
    induction n with
    | zero =>
      intro i ls hm hf hl
      have hi : i < 48 := by omega
      refine lv_iload hx hb d_M_frameFor_3 (lv_at hl 4 rfl) ?_
      refine lv_bipush (v := 47) hx hb d_M_frameFor_5 (by decide) ?_
      refine lv_icmp_ge (tgt := 26) hx hb d_M_frameFor_7 rfl (fun h7 => ?_) (fun hq => absurd (nI_le (show 47 ≤ i by omega) (show i < 2 ^ 31 by omega)) hq)
      have J26 : ∀ (i : Nat) (ls : Array Slot), (i < 48) → (i = js_free u 15 46 1) → lv_has ls 7 [(0, .ref (ad 0)), (1, .int d), (2, .int url), (3, .int st), (4, .int (nI i))] → W p l e (jr 3) s m args below meth c H locs 0 0 Q (F0 m 26 ls []) := by
        intro i ls hi hf hl
        refine lv_aload_n hx hb d_M_frameFor_26 rfl (lv_at hl 0 rfl) ?_
        refine jg_M hc hh 15 (by decide) rfl wf_M_56 d_M_frameFor_27 ?_
        refine lv_iload hx hb d_M_frameFor_30 (lv_at hl 4 rfl) ?_
        refine lv_iconst (v := 1) hx hb d_M_frameFor_32 (by decide) ?_
        refine jmi_zst hc hh 15 (by decide) (by decide) hi (by decide) d_M_frameFor_33 (fun H locs hh => ?_)
        refine lv_aload_n hx hb d_M_frameFor_34 rfl (lv_at hl 0 rfl) ?_
        refine jg_M hc hh 16 (by decide) rfl wf_M_59 d_M_frameFor_35 ?_
        refine lv_iload hx hb d_M_frameFor_38 (lv_at hl 4 rfl) ?_
        refine lv_iload_n hx hb d_M_frameFor_40 rfl (lv_at hl 1 rfl) ?_
        refine jmi_ist hc hh 16 (by decide) (by decide) hi d_M_frameFor_41 (fun H locs hh => ?_)
        refine lv_aload_n hx hb d_M_frameFor_42 rfl (lv_at hl 0 rfl) ?_
        refine jg_M hc hh 13 (by decide) rfl wf_M_50 d_M_frameFor_43 ?_
        refine lv_iload_n hx hb d_M_frameFor_46 rfl (lv_at hl 1 rfl) ?_
        refine jm_ild hc hh 13 (by decide) (by decide) h_d d_M_frameFor_47 ?_
        refine lv_if_ge (tgt := 62) hx hb d_M_frameFor_48 rfl (fun h48 => ?_) (fun h48 => ?_)
        ·
          refine lv_aload_n hx hb d_M_frameFor_62 rfl (lv_at hl 0 rfl) ?_
          refine jg_M hc hh 14 (by decide) rfl wf_M_53 d_M_frameFor_63 ?_
          refine lv_iload_n hx hb d_M_frameFor_66 rfl (lv_at hl 1 rfl) ?_
          refine lv_iload hx hb d_M_frameFor_67 (lv_at hl 4 rfl) ?_
          refine jm_ist hc hh 14 (by decide) (by decide) h_d d_M_frameFor_69 (fun H locs hh => ?_)
          have J70 : ∀  (H : Heap) (locs : List Loc) (ls : Array Slot), jx_H D 22 ad (jm_cell ad cA (jm_ff0 u d i)) A s.heap H locs → lv_has ls 7 [(0, .ref (ad 0)), (1, .int d), (2, .int url), (3, .int st), (4, .int (nI i))] → W p l e (jr 3) s m args below meth c H locs 0 0 Q (F0 m 70 ls []) := by
            intro  H locs ls hh hl
            refine lv_aload_n hx hb d_M_frameFor_70 rfl (lv_at hl 0 rfl) ?_
            refine lv_iload hx hb d_M_frameFor_71 (lv_at hl 4 rfl) ?_
            refine lv_iload_n hx hb d_M_frameFor_73 rfl (lv_at hl 2 rfl) ?_
            refine jx_callV [.int (nI i), .int url] [] hc hh (m_make l D aK ad cA (jm_ff0 u d i) (nI i) url (jm_Sh_ff0 hS h_d hi) ⟨_, hi, rfl⟩ hu) wy_M_74 ⟨by decide, rfl, rfl⟩ (by decide) rfl hl.1 rfl (by decide) ⟨Nat.zero_le _, Nat.zero_le _⟩ d_M_frameFor_74 (fun r u9 H locs hp hh _ _ => ?_)
            rw [hp.2] at hh
            refine W.eq (g2 := F0 m 77 ls [.int (nI (js_free (jm_ff0 u d i) 10 47 0))]) (by rw [hp.1]; rfl) ?_
            refine lv_istore (i := 5) (lv' := [(5, .int (nI (js_free (jm_ff0 u d i) 10 47 0))), (0, .ref (ad 0)), (1, .int d), (2, .int url), (3, .int st), (4, .int (nI i))]) hx hb d_M_frameFor_77 hl (by decide) rfl (fun ls hl => ?_)
            refine lv_aload_n hx hb d_M_frameFor_79 rfl (lv_at hl 1 rfl) ?_
            refine lv_iload hx hb d_M_frameFor_80 (lv_at hl 5 rfl) ?_
            refine lv_iload_n hx hb d_M_frameFor_82 rfl (lv_at hl 4 rfl) ?_
            refine lv_aload_n hx hb d_M_frameFor_83 rfl (lv_at hl 1 rfl) ?_
            refine jg_M hc hh 25 (by decide) rfl wf_M_93 d_M_frameFor_84 ?_
            refine lv_iload hx hb d_M_frameFor_87 (lv_at hl 0 rfl) ?_
            refine jx_callV [.int (nI i), .int st, .int ((jm_make (jm_ff0 u d i) (nI i) url) 25 0), .int (nI (js_free (jm_ff0 u d i) 10 47 0))] [] hc hh (m_write l D aK ad cA (jm_make (jm_ff0 u d i) (nI i) url) (nI i) st ((jm_make (jm_ff0 u d i) (nI i) url) 25 0) (nI (js_free (jm_ff0 u d i) 10 47 0))) wy_M_78 ⟨by decide, rfl, rfl⟩ (by decide) rfl hl.1 rfl (by decide) ⟨Nat.zero_le _, Nat.zero_le _⟩ d_M_frameFor_89 (fun r u9 H locs hp hh _ _ => ?_)
            rw [hp.2] at hh
            refine W.eq (g2 := F0 m 92 ls [.int (nI (js_free (jm_make (jm_ff0 u d i) (nI i) url) 9 47 0))]) (by rw [hp.1]; rfl) ?_
            refine lv_istore (i := 6) (lv' := [(6, .int (nI (js_free (jm_make (jm_ff0 u d i) (nI i) url) 9 47 0))), (5, .int (nI (js_free (jm_ff0 u d i) 10 47 0))), (0, .ref (ad 0)), (1, .int d), (2, .int url), (3, .int st), (4, .int (nI i))]) hx hb d_M_frameFor_92 hl (by decide) rfl (fun ls hl => ?_)
            refine lv_iload hx hb d_M_frameFor_94 (lv_at hl 6 rfl) ?_
            exact jx_iret (r := nI i) hc hh hQ hlk hr rfl rfl ⟨by rw [← hf], by unfold jm_frameFor; rw [← hf]⟩ d_M_frameFor_96
          have e1 : (jm_ff0 u d i) = (js_up (js_up (js_up u 15 i 1) 16 i d) 14 (ix d) (nI i)) := by simp [jm_ff0, jm_ff1, h48]
          refine J70 _ _ _ ?_ ?_
          ·
            try rw [e1]
            exact hh
          try rw [e1]
          exact lv_sub hl [0, 1, 2, 3, 4] rfl
        refine lv_aload_n hx hb d_M_frameFor_51 rfl (lv_at hl 0 rfl) ?_
        refine jg_M hc hh 13 (by decide) rfl wf_M_50 d_M_frameFor_52 ?_
        refine lv_iload_n hx hb d_M_frameFor_55 rfl (lv_at hl 1 rfl) ?_
        refine lv_iload hx hb d_M_frameFor_56 (lv_at hl 4 rfl) ?_
        refine jm_ist hc hh 13 (by decide) (by decide) h_d d_M_frameFor_58 (fun H locs hh => ?_)
        refine lv_goto (tgt := 70) hx hb d_M_frameFor_59 rfl ?_
        have J70 : ∀  (H : Heap) (locs : List Loc) (ls : Array Slot), jx_H D 22 ad (jm_cell ad cA (jm_ff0 u d i)) A s.heap H locs → lv_has ls 7 [(0, .ref (ad 0)), (1, .int d), (2, .int url), (3, .int st), (4, .int (nI i))] → W p l e (jr 3) s m args below meth c H locs 0 0 Q (F0 m 70 ls []) := by
          intro  H locs ls hh hl
          refine lv_aload_n hx hb d_M_frameFor_70 rfl (lv_at hl 0 rfl) ?_
          refine lv_iload hx hb d_M_frameFor_71 (lv_at hl 4 rfl) ?_
          refine lv_iload_n hx hb d_M_frameFor_73 rfl (lv_at hl 2 rfl) ?_
          refine jx_callV [.int (nI i), .int url] [] hc hh (m_make l D aK ad cA (jm_ff0 u d i) (nI i) url (jm_Sh_ff0 hS h_d hi) ⟨_, hi, rfl⟩ hu) wy_M_74 ⟨by decide, rfl, rfl⟩ (by decide) rfl hl.1 rfl (by decide) ⟨Nat.zero_le _, Nat.zero_le _⟩ d_M_frameFor_74 (fun r u9 H locs hp hh _ _ => ?_)
          rw [hp.2] at hh
          refine W.eq (g2 := F0 m 77 ls [.int (nI (js_free (jm_ff0 u d i) 10 47 0))]) (by rw [hp.1]; rfl) ?_
          refine lv_istore (i := 5) (lv' := [(5, .int (nI (js_free (jm_ff0 u d i) 10 47 0))), (0, .ref (ad 0)), (1, .int d), (2, .int url), (3, .int st), (4, .int (nI i))]) hx hb d_M_frameFor_77 hl (by decide) rfl (fun ls hl => ?_)
          refine lv_aload_n hx hb d_M_frameFor_79 rfl (lv_at hl 1 rfl) ?_
          refine lv_iload hx hb d_M_frameFor_80 (lv_at hl 5 rfl) ?_
          refine lv_iload_n hx hb d_M_frameFor_82 rfl (lv_at hl 4 rfl) ?_
          refine lv_aload_n hx hb d_M_frameFor_83 rfl (lv_at hl 1 rfl) ?_
          refine jg_M hc hh 25 (by decide) rfl wf_M_93 d_M_frameFor_84 ?_
          refine lv_iload hx hb d_M_frameFor_87 (lv_at hl 0 rfl) ?_
          refine jx_callV [.int (nI i), .int st, .int ((jm_make (jm_ff0 u d i) (nI i) url) 25 0), .int (nI (js_free (jm_ff0 u d i) 10 47 0))] [] hc hh (m_write l D aK ad cA (jm_make (jm_ff0 u d i) (nI i) url) (nI i) st ((jm_make (jm_ff0 u d i) (nI i) url) 25 0) (nI (js_free (jm_ff0 u d i) 10 47 0))) wy_M_78 ⟨by decide, rfl, rfl⟩ (by decide) rfl hl.1 rfl (by decide) ⟨Nat.zero_le _, Nat.zero_le _⟩ d_M_frameFor_89 (fun r u9 H locs hp hh _ _ => ?_)
          rw [hp.2] at hh
          refine W.eq (g2 := F0 m 92 ls [.int (nI (js_free (jm_make (jm_ff0 u d i) (nI i) url) 9 47 0))]) (by rw [hp.1]; rfl) ?_
          refine lv_istore (i := 6) (lv' := [(6, .int (nI (js_free (jm_make (jm_ff0 u d i) (nI i) url) 9 47 0))), (5, .int (nI (js_free (jm_ff0 u d i) 10 47 0))), (0, .ref (ad 0)), (1, .int d), (2, .int url), (3, .int st), (4, .int (nI i))]) hx hb d_M_frameFor_92 hl (by decide) rfl (fun ls hl => ?_)
          refine lv_iload hx hb d_M_frameFor_94 (lv_at hl 6 rfl) ?_
          exact jx_iret (r := nI i) hc hh hQ hlk hr rfl rfl ⟨by rw [← hf], by unfold jm_frameFor; rw [← hf]⟩ d_M_frameFor_96
        have e2 : (jm_ff0 u d i) = (js_up (js_up (js_up u 15 i 1) 16 i d) 13 (ix d) (nI i)) := by simp [jm_ff0, jm_ff1, h48]
        refine J70 _ _ _ ?_ ?_
        ·
          try rw [e2]
          exact hh
        try rw [e2]
        exact lv_sub hl [0, 1, 2, 3, 4] rfl
      refine J26 i _ hi (by rw [← hf]; first | rfl | simp [js_free, h17]) ?_
      exact lv_sub hl [0, 1, 2, 3, 4] rfl
    | succ n ih =>
      intro i ls hm hf hl
      have hi : i < 48 := by omega
      have hi9 : i < 47 := by omega
      refine lv_iload hx hb d_M_frameFor_3 (lv_at hl 4 rfl) ?_
      refine lv_bipush (v := 47) hx hb d_M_frameFor_5 (by decide) ?_
      refine lv_icmp_ge (tgt := 26) hx hb d_M_frameFor_7 rfl (fun hq => absurd hq (nI_ge hi9 (by decide))) (fun h7 => ?_)
      refine lv_aload_n hx hb d_M_frameFor_10 rfl (lv_at hl 0 rfl) ?_
      refine jg_M hc hh 15 (by decide) rfl wf_M_56 d_M_frameFor_11 ?_
      refine lv_iload hx hb d_M_frameFor_14 (lv_at hl 4 rfl) ?_
      refine jmi_zld hc hh 15 (by decide) (by decide) hi d_M_frameFor_16 ?_
      refine lv_if_eq (tgt := 26) hx hb d_M_frameFor_17 rfl (fun h17 => ?_) (fun h17 => ?_)
      ·
        have J26 : ∀ (i : Nat) (ls : Array Slot), (i < 48) → (i = js_free u 15 46 1) → lv_has ls 7 [(0, .ref (ad 0)), (1, .int d), (2, .int url), (3, .int st), (4, .int (nI i))] → W p l e (jr 3) s m args below meth c H locs 0 0 Q (F0 m 26 ls []) := by
          intro i ls hi hf hl
          refine lv_aload_n hx hb d_M_frameFor_26 rfl (lv_at hl 0 rfl) ?_
          refine jg_M hc hh 15 (by decide) rfl wf_M_56 d_M_frameFor_27 ?_
          refine lv_iload hx hb d_M_frameFor_30 (lv_at hl 4 rfl) ?_
          refine lv_iconst (v := 1) hx hb d_M_frameFor_32 (by decide) ?_
          refine jmi_zst hc hh 15 (by decide) (by decide) hi (by decide) d_M_frameFor_33 (fun H locs hh => ?_)
          refine lv_aload_n hx hb d_M_frameFor_34 rfl (lv_at hl 0 rfl) ?_
          refine jg_M hc hh 16 (by decide) rfl wf_M_59 d_M_frameFor_35 ?_
          refine lv_iload hx hb d_M_frameFor_38 (lv_at hl 4 rfl) ?_
          refine lv_iload_n hx hb d_M_frameFor_40 rfl (lv_at hl 1 rfl) ?_
          refine jmi_ist hc hh 16 (by decide) (by decide) hi d_M_frameFor_41 (fun H locs hh => ?_)
          refine lv_aload_n hx hb d_M_frameFor_42 rfl (lv_at hl 0 rfl) ?_
          refine jg_M hc hh 13 (by decide) rfl wf_M_50 d_M_frameFor_43 ?_
          refine lv_iload_n hx hb d_M_frameFor_46 rfl (lv_at hl 1 rfl) ?_
          refine jm_ild hc hh 13 (by decide) (by decide) h_d d_M_frameFor_47 ?_
          refine lv_if_ge (tgt := 62) hx hb d_M_frameFor_48 rfl (fun h48 => ?_) (fun h48 => ?_)
          ·
            refine lv_aload_n hx hb d_M_frameFor_62 rfl (lv_at hl 0 rfl) ?_
            refine jg_M hc hh 14 (by decide) rfl wf_M_53 d_M_frameFor_63 ?_
            refine lv_iload_n hx hb d_M_frameFor_66 rfl (lv_at hl 1 rfl) ?_
            refine lv_iload hx hb d_M_frameFor_67 (lv_at hl 4 rfl) ?_
            refine jm_ist hc hh 14 (by decide) (by decide) h_d d_M_frameFor_69 (fun H locs hh => ?_)
            have J70 : ∀  (H : Heap) (locs : List Loc) (ls : Array Slot), jx_H D 22 ad (jm_cell ad cA (jm_ff0 u d i)) A s.heap H locs → lv_has ls 7 [(0, .ref (ad 0)), (1, .int d), (2, .int url), (3, .int st), (4, .int (nI i))] → W p l e (jr 3) s m args below meth c H locs 0 0 Q (F0 m 70 ls []) := by
              intro  H locs ls hh hl
              refine lv_aload_n hx hb d_M_frameFor_70 rfl (lv_at hl 0 rfl) ?_
              refine lv_iload hx hb d_M_frameFor_71 (lv_at hl 4 rfl) ?_
              refine lv_iload_n hx hb d_M_frameFor_73 rfl (lv_at hl 2 rfl) ?_
              refine jx_callV [.int (nI i), .int url] [] hc hh (m_make l D aK ad cA (jm_ff0 u d i) (nI i) url (jm_Sh_ff0 hS h_d hi) ⟨_, hi, rfl⟩ hu) wy_M_74 ⟨by decide, rfl, rfl⟩ (by decide) rfl hl.1 rfl (by decide) ⟨Nat.zero_le _, Nat.zero_le _⟩ d_M_frameFor_74 (fun r u9 H locs hp hh _ _ => ?_)
              rw [hp.2] at hh
              refine W.eq (g2 := F0 m 77 ls [.int (nI (js_free (jm_ff0 u d i) 10 47 0))]) (by rw [hp.1]; rfl) ?_
              refine lv_istore (i := 5) (lv' := [(5, .int (nI (js_free (jm_ff0 u d i) 10 47 0))), (0, .ref (ad 0)), (1, .int d), (2, .int url), (3, .int st), (4, .int (nI i))]) hx hb d_M_frameFor_77 hl (by decide) rfl (fun ls hl => ?_)
              refine lv_aload_n hx hb d_M_frameFor_79 rfl (lv_at hl 1 rfl) ?_
              refine lv_iload hx hb d_M_frameFor_80 (lv_at hl 5 rfl) ?_
              refine lv_iload_n hx hb d_M_frameFor_82 rfl (lv_at hl 4 rfl) ?_
              refine lv_aload_n hx hb d_M_frameFor_83 rfl (lv_at hl 1 rfl) ?_
              refine jg_M hc hh 25 (by decide) rfl wf_M_93 d_M_frameFor_84 ?_
              refine lv_iload hx hb d_M_frameFor_87 (lv_at hl 0 rfl) ?_
              refine jx_callV [.int (nI i), .int st, .int ((jm_make (jm_ff0 u d i) (nI i) url) 25 0), .int (nI (js_free (jm_ff0 u d i) 10 47 0))] [] hc hh (m_write l D aK ad cA (jm_make (jm_ff0 u d i) (nI i) url) (nI i) st ((jm_make (jm_ff0 u d i) (nI i) url) 25 0) (nI (js_free (jm_ff0 u d i) 10 47 0))) wy_M_78 ⟨by decide, rfl, rfl⟩ (by decide) rfl hl.1 rfl (by decide) ⟨Nat.zero_le _, Nat.zero_le _⟩ d_M_frameFor_89 (fun r u9 H locs hp hh _ _ => ?_)
              rw [hp.2] at hh
              refine W.eq (g2 := F0 m 92 ls [.int (nI (js_free (jm_make (jm_ff0 u d i) (nI i) url) 9 47 0))]) (by rw [hp.1]; rfl) ?_
              refine lv_istore (i := 6) (lv' := [(6, .int (nI (js_free (jm_make (jm_ff0 u d i) (nI i) url) 9 47 0))), (5, .int (nI (js_free (jm_ff0 u d i) 10 47 0))), (0, .ref (ad 0)), (1, .int d), (2, .int url), (3, .int st), (4, .int (nI i))]) hx hb d_M_frameFor_92 hl (by decide) rfl (fun ls hl => ?_)
              refine lv_iload hx hb d_M_frameFor_94 (lv_at hl 6 rfl) ?_
              exact jx_iret (r := nI i) hc hh hQ hlk hr rfl rfl ⟨by rw [← hf], by unfold jm_frameFor; rw [← hf]⟩ d_M_frameFor_96
            have e3 : (jm_ff0 u d i) = (js_up (js_up (js_up u 15 i 1) 16 i d) 14 (ix d) (nI i)) := by simp [jm_ff0, jm_ff1, h48]
            refine J70 _ _ _ ?_ ?_
            ·
              try rw [e3]
              exact hh
            try rw [e3]
            exact lv_sub hl [0, 1, 2, 3, 4] rfl
          refine lv_aload_n hx hb d_M_frameFor_51 rfl (lv_at hl 0 rfl) ?_
          refine jg_M hc hh 13 (by decide) rfl wf_M_50 d_M_frameFor_52 ?_
          refine lv_iload_n hx hb d_M_frameFor_55 rfl (lv_at hl 1 rfl) ?_
          refine lv_iload hx hb d_M_frameFor_56 (lv_at hl 4 rfl) ?_
          refine jm_ist hc hh 13 (by decide) (by decide) h_d d_M_frameFor_58 (fun H locs hh => ?_)
          refine lv_goto (tgt := 70) hx hb d_M_frameFor_59 rfl ?_
          have J70 : ∀  (H : Heap) (locs : List Loc) (ls : Array Slot), jx_H D 22 ad (jm_cell ad cA (jm_ff0 u d i)) A s.heap H locs → lv_has ls 7 [(0, .ref (ad 0)), (1, .int d), (2, .int url), (3, .int st), (4, .int (nI i))] → W p l e (jr 3) s m args below meth c H locs 0 0 Q (F0 m 70 ls []) := by
            intro  H locs ls hh hl
            refine lv_aload_n hx hb d_M_frameFor_70 rfl (lv_at hl 0 rfl) ?_
            refine lv_iload hx hb d_M_frameFor_71 (lv_at hl 4 rfl) ?_
            refine lv_iload_n hx hb d_M_frameFor_73 rfl (lv_at hl 2 rfl) ?_
            refine jx_callV [.int (nI i), .int url] [] hc hh (m_make l D aK ad cA (jm_ff0 u d i) (nI i) url (jm_Sh_ff0 hS h_d hi) ⟨_, hi, rfl⟩ hu) wy_M_74 ⟨by decide, rfl, rfl⟩ (by decide) rfl hl.1 rfl (by decide) ⟨Nat.zero_le _, Nat.zero_le _⟩ d_M_frameFor_74 (fun r u9 H locs hp hh _ _ => ?_)
            rw [hp.2] at hh
            refine W.eq (g2 := F0 m 77 ls [.int (nI (js_free (jm_ff0 u d i) 10 47 0))]) (by rw [hp.1]; rfl) ?_
            refine lv_istore (i := 5) (lv' := [(5, .int (nI (js_free (jm_ff0 u d i) 10 47 0))), (0, .ref (ad 0)), (1, .int d), (2, .int url), (3, .int st), (4, .int (nI i))]) hx hb d_M_frameFor_77 hl (by decide) rfl (fun ls hl => ?_)
            refine lv_aload_n hx hb d_M_frameFor_79 rfl (lv_at hl 1 rfl) ?_
            refine lv_iload hx hb d_M_frameFor_80 (lv_at hl 5 rfl) ?_
            refine lv_iload_n hx hb d_M_frameFor_82 rfl (lv_at hl 4 rfl) ?_
            refine lv_aload_n hx hb d_M_frameFor_83 rfl (lv_at hl 1 rfl) ?_
            refine jg_M hc hh 25 (by decide) rfl wf_M_93 d_M_frameFor_84 ?_
            refine lv_iload hx hb d_M_frameFor_87 (lv_at hl 0 rfl) ?_
            refine jx_callV [.int (nI i), .int st, .int ((jm_make (jm_ff0 u d i) (nI i) url) 25 0), .int (nI (js_free (jm_ff0 u d i) 10 47 0))] [] hc hh (m_write l D aK ad cA (jm_make (jm_ff0 u d i) (nI i) url) (nI i) st ((jm_make (jm_ff0 u d i) (nI i) url) 25 0) (nI (js_free (jm_ff0 u d i) 10 47 0))) wy_M_78 ⟨by decide, rfl, rfl⟩ (by decide) rfl hl.1 rfl (by decide) ⟨Nat.zero_le _, Nat.zero_le _⟩ d_M_frameFor_89 (fun r u9 H locs hp hh _ _ => ?_)
            rw [hp.2] at hh
            refine W.eq (g2 := F0 m 92 ls [.int (nI (js_free (jm_make (jm_ff0 u d i) (nI i) url) 9 47 0))]) (by rw [hp.1]; rfl) ?_
            refine lv_istore (i := 6) (lv' := [(6, .int (nI (js_free (jm_make (jm_ff0 u d i) (nI i) url) 9 47 0))), (5, .int (nI (js_free (jm_ff0 u d i) 10 47 0))), (0, .ref (ad 0)), (1, .int d), (2, .int url), (3, .int st), (4, .int (nI i))]) hx hb d_M_frameFor_92 hl (by decide) rfl (fun ls hl => ?_)
            refine lv_iload hx hb d_M_frameFor_94 (lv_at hl 6 rfl) ?_
            exact jx_iret (r := nI i) hc hh hQ hlk hr rfl rfl ⟨by rw [← hf], by unfold jm_frameFor; rw [← hf]⟩ d_M_frameFor_96
          have e4 : (jm_ff0 u d i) = (js_up (js_up (js_up u 15 i 1) 16 i d) 13 (ix d) (nI i)) := by simp [jm_ff0, jm_ff1, h48]
          refine J70 _ _ _ ?_ ?_
          ·
            try rw [e4]
            exact hh
          try rw [e4]
          exact lv_sub hl [0, 1, 2, 3, 4] rfl
        refine J26 i _ hi (by rw [← hf]; first | rfl | simp [js_free, h17]) ?_
        exact lv_sub hl [0, 1, 2, 3, 4] rfl
      refine lv_iinc (k := 4) (v := nI (i + 1)) (lv' := [(4, .int (nI (i + 1))), (0, .ref (ad 0)), (1, .int d), (2, .int url), (3, .int st)]) hx hb d_M_frameFor_20 hl rfl (nI_1 i) (by decide) rfl (fun ls hl => ?_)
      refine lv_goto (tgt := 3) hx hb d_M_frameFor_23 rfl ?_
      refine ih (i + 1) _ (by omega) (by rw [← hf]; simp [js_free, h17]) ?_
      exact lv_sub hl [1, 2, 3, 4, 0] rfl
  have e5 : nI 1 = 1 := rfl
  refine L3 46 1 _ (by omega) rfl ?_
  try rw [e5]
  exact lv_sub hl [1, 2, 3, 4, 0] rfl
set_option maxHeartbeats 4000000 in
set_option maxRecDepth 100000 in
theorem m_loadMiddle (l : Launch) (D : va_G) (aK ad : Nat → Nat) (cA : Nat → ClassId) (u : js_S) (nav : Int32) (url : Int32) (st : Int32) (hS : jm_Sh u) (h_nav : ∃ i, i < 48 ∧ nav = nI i) (hu : jq 256 url) : jx_M l y_M_loadMiddle b_M_loadMiddle 8 (some .int) (jr 4) D (jc_tys cA) aK 22 ad (jm_cell ad cA) [.ref (ad 0), .int nav, .int url, .int st] u (fun r : Int32 => some (.int r)) (fun r u' => r = nI (js_free u 10 47 0) ∧ u' = (jm_loadMiddle u nav url st)) := by
  refine jx_enter "JointHistoryModel" (by decide) rfl (by simp [lg_sl, vc_int, vc_ref, vc_long, jv_cat]) ?_
  intro p e s m args below meth c A Q H locs ls hQ hc hh hr hlk hl
  have hx := hc.1
  have hb := hc.2.1
  have hl : lv_has ls 8 [(0, .ref (ad 0)), (1, .int nav), (2, .int url), (3, .int st)] := by simpa [lv_args, vc_int, vc_ref, vc_long, jv_cat] using hl
  refine lv_aload_n hx hb d_M_loadMiddle_0 rfl (lv_at hl 0 rfl) ?_
  refine lv_iload_n hx hb d_M_loadMiddle_1 rfl (lv_at hl 1 rfl) ?_
  refine lv_iload_n hx hb d_M_loadMiddle_2 rfl (lv_at hl 2 rfl) ?_
  refine jx_callV [.int nav, .int url] [] hc hh (m_make l D aK ad cA u nav url hS h_nav hu) wy_M_74 ⟨by decide, rfl, rfl⟩ (by decide) rfl hl.1 rfl (by decide) ⟨Nat.zero_le _, Nat.zero_le _⟩ d_M_loadMiddle_3 (fun r u9 H locs hp hh _ _ => ?_)
  rw [hp.2] at hh
  refine W.eq (g2 := F0 m 6 ls [.int (nI (js_free u 10 47 0))]) (by rw [hp.1]; rfl) ?_
  refine lv_istore (i := 4) (lv' := [(4, .int (nI (js_free u 10 47 0))), (0, .ref (ad 0)), (1, .int nav), (2, .int url), (3, .int st)]) hx hb d_M_loadMiddle_6 hl (by decide) rfl (fun ls hl => ?_)
  refine lv_aload_n hx hb d_M_loadMiddle_8 rfl (lv_at hl 1 rfl) ?_
  refine jg_M hc hh 25 (by decide) rfl wf_M_93 d_M_loadMiddle_9 ?_
  refine lv_istore (i := 5) (lv' := [(5, .int ((jm_make u nav url) 25 0)), (4, .int (nI (js_free u 10 47 0))), (0, .ref (ad 0)), (1, .int nav), (2, .int url), (3, .int st)]) hx hb d_M_loadMiddle_12 hl (by decide) rfl (fun ls hl => ?_)
  refine lv_aload_n hx hb d_M_loadMiddle_14 rfl (lv_at hl 2 rfl) ?_
  refine lv_iload hx hb d_M_loadMiddle_15 (lv_at hl 0 rfl) ?_
  refine lv_iconst (v := 0) hx hb d_M_loadMiddle_17 (by decide) ?_
  refine lv_iconst (v := 1) hx hb d_M_loadMiddle_18 (by decide) ?_
  refine jx_callV [.int ((jm_make u nav url) 25 0), .int 0, .int 1] [] hc hh (m_wanted l D aK ad cA (jm_make u nav url) ((jm_make u nav url) 25 0) 0 1 (jm_make_ok hS hu).2) wy_M_100 ⟨by decide, rfl, rfl⟩ (by decide) rfl hl.1 rfl (by decide) ⟨Nat.zero_le _, Nat.zero_le _⟩ d_M_loadMiddle_19 (fun r u9 H locs hp hh _ _ => ?_)
  rw [hp.2] at hh
  refine W.eq (g2 := F0 m 22 ls [.int (jm_wanted (jm_make u nav url) ((jm_make u nav url) 25 0) 0 1)]) (by rw [hp.1]; rfl) ?_
  refine lv_istore (i := 6) (lv' := [(6, .int (jm_wanted (jm_make u nav url) ((jm_make u nav url) 25 0) 0 1)), (5, .int ((jm_make u nav url) 25 0)), (4, .int (nI (js_free u 10 47 0))), (0, .ref (ad 0)), (1, .int nav), (2, .int url), (3, .int st)]) hx hb d_M_loadMiddle_22 hl (by decide) rfl (fun ls hl => ?_)
  refine lv_iload hx hb d_M_loadMiddle_24 (lv_at hl 0 rfl) ?_
  refine lv_bipush (v := -2) hx hb d_M_loadMiddle_26 (by decide) ?_
  refine lv_icmp_eq (tgt := 42) hx hb d_M_loadMiddle_28 rfl (fun h28 => ?_) (fun h28 => ?_)
  ·
    refine lv_aload_n hx hb d_M_loadMiddle_42 rfl (lv_at hl 3 rfl) ?_
    refine lv_iload hx hb d_M_loadMiddle_43 (lv_at hl 1 rfl) ?_
    refine jpm_25 hc hh wf_M_93 d_M_loadMiddle_45 (fun H locs hh => ?_)
    refine lv_iload hx hb d_M_loadMiddle_48 (lv_at hl 2 rfl) ?_
    exact jx_iret (r := (nI (js_free u 10 47 0))) hc hh hQ hlk hr rfl rfl ⟨rfl, by first | (simp [jm_loadMiddle, jm_lm, h28]; done) | (simp [jm_loadMiddle, jm_lm, eq_true h28]; done)⟩ d_M_loadMiddle_50
  refine lv_aload_n hx hb d_M_loadMiddle_31 rfl (lv_at hl 3 rfl) ?_
  refine lv_iload hx hb d_M_loadMiddle_32 (lv_at hl 2 rfl) ?_
  refine lv_iload hx hb d_M_loadMiddle_34 (lv_at hl 0 rfl) ?_
  refine lv_iload_n hx hb d_M_loadMiddle_36 rfl (lv_at hl 6 rfl) ?_
  refine jx_callV [.int (nI (js_free u 10 47 0)), .int (jm_wanted (jm_make u nav url) ((jm_make u nav url) 25 0) 0 1), .int st] [] hc hh (m_frameFor l D aK ad cA (jm_make u nav url) (nI (js_free u 10 47 0)) (jm_wanted (jm_make u nav url) ((jm_make u nav url) 25 0) 0 1) st (jm_make_ok hS hu).1 ⟨_, js_f47, rfl⟩ (jm_wanted_ok (jm_make_ok hS hu).1 (jm_make_ok hS hu).2 h28)) wy_M_104 ⟨by decide, rfl, rfl⟩ (by decide) rfl hl.1 rfl (by decide) ⟨Nat.zero_le _, Nat.zero_le _⟩ d_M_loadMiddle_37 (fun r u9 H locs hp hh _ _ => ?_)
  rw [hp.2] at hh
  refine W.eq (g2 := F0 m 40 ls [.int (nI (js_free (jm_make u nav url) 15 46 1))]) (by rw [hp.1]; rfl) ?_
  refine lv_istore (i := 7) (lv' := [(7, .int (nI (js_free (jm_make u nav url) 15 46 1))), (6, .int (jm_wanted (jm_make u nav url) ((jm_make u nav url) 25 0) 0 1)), (5, .int ((jm_make u nav url) 25 0)), (4, .int (nI (js_free u 10 47 0))), (0, .ref (ad 0)), (1, .int nav), (2, .int url), (3, .int st)]) hx hb d_M_loadMiddle_40 hl (by decide) rfl (fun ls hl => ?_)
  refine lv_aload_n hx hb d_M_loadMiddle_42 rfl (lv_at hl 4 rfl) ?_
  refine lv_iload hx hb d_M_loadMiddle_43 (lv_at hl 2 rfl) ?_
  refine jpm_25 hc hh wf_M_93 d_M_loadMiddle_45 (fun H locs hh => ?_)
  refine lv_iload hx hb d_M_loadMiddle_48 (lv_at hl 3 rfl) ?_
  exact jx_iret (r := (nI (js_free u 10 47 0))) hc hh hQ hlk hr rfl rfl ⟨rfl, by simp [jm_loadMiddle, jm_lm, h28]⟩ d_M_loadMiddle_50
set_option maxHeartbeats 4000000 in
set_option maxRecDepth 100000 in
theorem m_stepAt (l : Launch) (D : va_G) (aK ad : Nat → Nat) (cA : Nat → ClassId) (u : js_S) (tg : Int64) : jx_M l y_M_stepAt b_M_stepAt 6 (some .int) (jr 2) D (jc_tys cA) aK 22 ad (jm_cell ad cA) [.ref (ad 0), .long tg] u (fun r : Int32 => some (.int r)) (fun r u' => r = jm_stepAt u tg ∧ u' = u) := by
  refine jx_enter "JointHistoryModel" (by decide) rfl (by simp [lg_sl, vc_int, vc_ref, vc_long, jv_cat]) ?_
  intro p e s m args below meth c A Q H locs ls hQ hc hh hr hlk hl
  have hx := hc.1
  have hb := hc.2.1
  have hl : lv_has ls 6 [(0, .ref (ad 0)), (1, .long tg)] := by simpa [lv_args, vc_int, vc_ref, vc_long, jv_cat] using hl
  refine lv_lconst (v := 0) hx hb d_M_stepAt_0 (by decide) ?_
  refine lv_lstore_n (i := 3) (lv' := [(3, .long 0), (0, .ref (ad 0)), (1, .long tg)]) hx hb d_M_stepAt_1 rfl hl (by decide) rfl (fun ls hl => ?_)
  refine lv_iconst (v := 0) hx hb d_M_stepAt_2 (by decide) ?_
  refine lv_istore (i := 5) (lv' := [(5, .int 0), (3, .long 0), (0, .ref (ad 0)), (1, .long tg)]) hx hb d_M_stepAt_3 hl (by decide) rfl (fun ls hl => ?_)
  have L5 : ∀ (n : Nat) (i : Nat) (b : Nat) (H : Heap) (locs : List Loc) (ls : Array Slot), i + n = 601 → (jm_sa u tg n i b = jm_sa u tg 601 0 0) → jx_H D 22 ad (jm_cell ad cA u) A s.heap H locs → lv_has ls 6 [(0, .ref (ad 0)), (1, .long tg), (3, .long (lN b)), (5, .int (nI i))] → W p l e (jr 2) s m args below meth c H locs 0 0 Q (F0 m 5 ls []) := by
    intro n
    induction n with
    | zero =>
      intro i b H locs ls hm hf hh hl
      refine lv_iload hx hb d_M_stepAt_5 (lv_at hl 3 rfl) ?_
      refine lv_sipush (v := 600) hx hb d_M_stepAt_7 (by decide) ?_
      refine lv_icmp_gt (tgt := 41) hx hb d_M_stepAt_10 rfl (fun h10 => ?_) (fun hq => absurd (nI_lt (show 600 < i by omega) (show i < 2 ^ 31 by omega)) hq)
      refine lv_iconst (v := -1) hx hb d_M_stepAt_41 (by decide) ?_
      exact jx_iret (r := (-1)) hc hh hQ hlk hr rfl rfl ⟨by unfold jm_stepAt; rw [← hf]; rfl, rfl⟩ d_M_stepAt_42
    | succ n ih =>
      intro i b H locs ls hm hf hh hl
      refine lv_iload hx hb d_M_stepAt_5 (lv_at hl 3 rfl) ?_
      refine lv_sipush (v := 600) hx hb d_M_stepAt_7 (by decide) ?_
      refine lv_icmp_gt (tgt := 41) hx hb d_M_stepAt_10 rfl (fun hq => absurd hq (nI_nlt (show i ≤ 600 by omega) (by decide))) (fun h10 => ?_)
      refine lv_aload_n hx hb d_M_stepAt_13 rfl (lv_at hl 0 rfl) ?_
      refine lv_iload hx hb d_M_stepAt_14 (lv_at hl 3 rfl) ?_
      refine jx_callV [.int (nI i)] [] hc hh (m_used l D aK ad cA u (nI i)) wy_M_133 ⟨by decide, rfl, rfl⟩ (by decide) rfl hl.1 rfl (by decide) ⟨Nat.zero_le _, Nat.zero_le _⟩ d_M_stepAt_16 (fun r u9 H locs hp hh _ _ => ?_)
      rw [hp.2] at hh
      refine W.eq (g2 := F0 m 19 ls [.int (jm_used u (nI i))]) (by rw [hp.1]; rfl) ?_
      refine lv_if_eq (tgt := 35) hx hb d_M_stepAt_19 rfl (fun h19 => ?_) (fun h19 => ?_)
      ·
        refine lv_iinc (k := 3) (v := nI (i + 1)) (lv' := [(5, .int (nI (i + 1))), (0, .ref (ad 0)), (1, .long tg), (3, .long (lN b))]) hx hb d_M_stepAt_35 hl rfl (nI_1 i) (by decide) rfl (fun ls hl => ?_)
        refine lv_goto (tgt := 5) hx hb d_M_stepAt_38 rfl ?_
        refine ih (i + 1) b _ _ _ (by omega) (by rw [← hf]; simp [jm_sa, h19]) ?_ ?_
        ·
          exact hh
        exact lv_sub hl [1, 2, 3, 0] rfl
      refine lv_lload_n hx hb d_M_stepAt_22 rfl (lv_at hl 2 rfl) ?_
      refine lv_lload_n hx hb d_M_stepAt_23 rfl (lv_at hl 1 rfl) ?_
      refine W.lcmp hx hb d_M_stepAt_24 ?_
      refine lv_if_ne (tgt := 31) hx hb d_M_stepAt_25 rfl (fun h25 => ?_) (fun h25 => ?_)
      ·
        refine lv_lload_n hx hb d_M_stepAt_31 rfl (lv_at hl 2 rfl) ?_
        refine lv_lconst (v := 1) hx hb d_M_stepAt_32 (by decide) ?_
        refine lv_ladd hx hb d_M_stepAt_33 ?_
        refine lv_lstore_n (i := 3) (lv' := [(3, .long (lN b + 1)), (0, .ref (ad 0)), (1, .long tg), (5, .int (nI i))]) hx hb d_M_stepAt_34 rfl hl (by decide) rfl (fun ls hl => ?_)
        refine lv_iinc (k := 3) (v := nI (i + 1)) (lv' := [(5, .int (nI (i + 1))), (3, .long (lN b + 1)), (0, .ref (ad 0)), (1, .long tg)]) hx hb d_M_stepAt_35 hl rfl (nI_1 i) (by decide) rfl (fun ls hl => ?_)
        refine lv_goto (tgt := 5) hx hb d_M_stepAt_38 rfl ?_
        have e1 : lN (b + 1) = (lN b + 1) := (lN_1 b).symm
        refine ih (i + 1) (b + 1) _ _ _ (by omega) (by rw [← hf]; simp [jm_sa, h19, h25]) ?_ ?_
        ·
          try rw [e1]
          exact hh
        try rw [e1]
        exact lv_sub hl [2, 3, 1, 0] rfl
      refine lv_iload hx hb d_M_stepAt_28 (lv_at hl 3 rfl) ?_
      exact jx_iret (r := nI i) hc hh hQ hlk hr rfl rfl ⟨by unfold jm_stepAt; rw [← hf]; simp [jm_sa, h19, h25], rfl⟩ d_M_stepAt_30
  have e2 : lN 0 = 0 := rfl
  have e3 : nI 0 = 0 := rfl
  refine L5 601 0 0 _ _ _ (by omega) rfl ?_ ?_
  ·
    try rw [e2]
    try rw [e3]
    exact hh
  try rw [e2]
  try rw [e3]
  exact lv_sub hl [2, 3, 1, 0] rfl
set_option maxHeartbeats 4000000 in
set_option maxRecDepth 100000 in
theorem m_show (l : Launch) (D : va_G) (aK ad : Nat → Nat) (cA : Nat → ClassId) (u : js_S) (d : Int32) (hS : jm_Sh u) (h_d : ∃ i, i < 48 ∧ d = nI i) : jx_M l y_M_show b_M_show 2 none (jr 1) D (jc_tys cA) aK 22 ad (jm_cell ad cA) [.ref (ad 0), .int d] u (fun _ : Unit => none) (fun r u' => r = () ∧ u' = (jm_show u d)) := by
  refine jx_enter "JointHistoryModel" (by decide) rfl (by simp [lg_sl, vc_int, vc_ref, vc_long, jv_cat]) ?_
  intro p e s m args below meth c A Q H locs ls hQ hc hh hr hlk hl
  have hx := hc.1
  have hb := hc.2.1
  have hl : lv_has ls 2 [(0, .ref (ad 0)), (1, .int d)] := by simpa [lv_args, vc_int, vc_ref, vc_long, jv_cat] using hl
  refine lv_aload_n hx hb d_M_show_0 rfl (lv_at hl 0 rfl) ?_
  refine jg_M hc hh 13 (by decide) rfl wf_M_50 d_M_show_1 ?_
  refine lv_iload_n hx hb d_M_show_4 rfl (lv_at hl 1 rfl) ?_
  refine jm_ild hc hh 13 (by decide) (by decide) h_d d_M_show_5 ?_
  refine lv_if_lt (tgt := 21) hx hb d_M_show_6 rfl (fun h6 => ?_) (fun h6 => ?_)
  ·
    have J21 : ∀ (v : js_S) (H : Heap) (locs : List Loc) (ls : Array Slot), (jm_Sh v) → (v = jm_sh1 u d) → jx_H D 22 ad (jm_cell ad cA v) A s.heap H locs → lv_has ls 2 [(0, .ref (ad 0)), (1, .int d)] → W p l e (jr 1) s m args below meth c H locs 0 0 Q (F0 m 21 ls []) := by
      intro v H locs ls hSv hv hh hl
      refine lv_aload_n hx hb d_M_show_21 rfl (lv_at hl 0 rfl) ?_
      refine jg_M hc hh 14 (by decide) rfl wf_M_53 d_M_show_22 ?_
      refine lv_iload_n hx hb d_M_show_25 rfl (lv_at hl 1 rfl) ?_
      refine jm_ild hc hh 14 (by decide) (by decide) h_d d_M_show_26 ?_
      refine lv_if_lt (tgt := 42) hx hb d_M_show_27 rfl (fun h27 => ?_) (fun h27 => ?_)
      ·
        exact jx_vret (r := ()) hc hh hQ hlk hr rfl ⟨rfl, by unfold jm_show; rw [← hv]; simp [jm_sh2, h27]⟩ d_M_show_42
      refine lv_aload_n hx hb d_M_show_30 rfl (lv_at hl 0 rfl) ?_
      refine jg_M hc hh 17 (by decide) rfl wf_M_62 d_M_show_31 ?_
      refine lv_aload_n hx hb d_M_show_34 rfl (lv_at hl 0 rfl) ?_
      refine jg_M hc hh 14 (by decide) rfl wf_M_53 d_M_show_35 ?_
      refine lv_iload_n hx hb d_M_show_38 rfl (lv_at hl 1 rfl) ?_
      refine jm_ild hc hh 14 (by decide) (by decide) h_d d_M_show_39 ?_
      refine lv_iconst (v := 1) hx hb d_M_show_40 (by decide) ?_
      refine jm_zst hc hh 17 (by decide) (by decide) (jq_nn (jm_Srx hSv h_d) h27) (by decide) d_M_show_41 (fun H locs hh => ?_)
      exact jx_vret (r := ()) hc hh hQ hlk hr rfl ⟨rfl, by unfold jm_show; rw [← hv]; simp [jm_sh2, h27]⟩ d_M_show_42
    refine J21 u _ _ _ hS (by simp [jm_sh1, h6]) ?_ ?_
    ·
      exact hh
    exact lv_sub hl [0, 1] rfl
  refine lv_aload_n hx hb d_M_show_9 rfl (lv_at hl 0 rfl) ?_
  refine jg_M hc hh 17 (by decide) rfl wf_M_62 d_M_show_10 ?_
  refine lv_aload_n hx hb d_M_show_13 rfl (lv_at hl 0 rfl) ?_
  refine jg_M hc hh 13 (by decide) rfl wf_M_50 d_M_show_14 ?_
  refine lv_iload_n hx hb d_M_show_17 rfl (lv_at hl 1 rfl) ?_
  refine jm_ild hc hh 13 (by decide) (by decide) h_d d_M_show_18 ?_
  refine lv_iconst (v := 1) hx hb d_M_show_19 (by decide) ?_
  refine jm_zst hc hh 17 (by decide) (by decide) (jq_nn (jm_Slx hS h_d) h6) (by decide) d_M_show_20 (fun H locs hh => ?_)
  have J21 : ∀ (v : js_S) (H : Heap) (locs : List Loc) (ls : Array Slot), (jm_Sh v) → (v = jm_sh1 u d) → jx_H D 22 ad (jm_cell ad cA v) A s.heap H locs → lv_has ls 2 [(0, .ref (ad 0)), (1, .int d)] → W p l e (jr 1) s m args below meth c H locs 0 0 Q (F0 m 21 ls []) := by
    intro v H locs ls hSv hv hh hl
    refine lv_aload_n hx hb d_M_show_21 rfl (lv_at hl 0 rfl) ?_
    refine jg_M hc hh 14 (by decide) rfl wf_M_53 d_M_show_22 ?_
    refine lv_iload_n hx hb d_M_show_25 rfl (lv_at hl 1 rfl) ?_
    refine jm_ild hc hh 14 (by decide) (by decide) h_d d_M_show_26 ?_
    refine lv_if_lt (tgt := 42) hx hb d_M_show_27 rfl (fun h27 => ?_) (fun h27 => ?_)
    ·
      exact jx_vret (r := ()) hc hh hQ hlk hr rfl ⟨rfl, by unfold jm_show; rw [← hv]; simp [jm_sh2, h27]⟩ d_M_show_42
    refine lv_aload_n hx hb d_M_show_30 rfl (lv_at hl 0 rfl) ?_
    refine jg_M hc hh 17 (by decide) rfl wf_M_62 d_M_show_31 ?_
    refine lv_aload_n hx hb d_M_show_34 rfl (lv_at hl 0 rfl) ?_
    refine jg_M hc hh 14 (by decide) rfl wf_M_53 d_M_show_35 ?_
    refine lv_iload_n hx hb d_M_show_38 rfl (lv_at hl 1 rfl) ?_
    refine jm_ild hc hh 14 (by decide) (by decide) h_d d_M_show_39 ?_
    refine lv_iconst (v := 1) hx hb d_M_show_40 (by decide) ?_
    refine jm_zst hc hh 17 (by decide) (by decide) (jq_nn (jm_Srx hSv h_d) h27) (by decide) d_M_show_41 (fun H locs hh => ?_)
    exact jx_vret (r := ()) hc hh hQ hlk hr rfl ⟨rfl, by unfold jm_show; rw [← hv]; simp [jm_sh2, h27]⟩ d_M_show_42
  refine J21 (js_up u 17 (ix (u 13 (ix d))) 1) _ _ _ (jm_Sh_17 hS) (by simp [jm_sh1, h6]) ?_ ?_
  ·
    exact hh
  exact lv_sub hl [0, 1] rfl
