set_option maxHeartbeats 4000000 in
set_option maxRecDepth 100000 in
theorem c_navigate (l : Launch) (D : va_G) (aK ad : Nat → Nat) (cA : Nat → ClassId) (u : js_S) (n : Int32) (url : Int32) (rep : Int32) (hS : jc_Sh u) (hLo : ¬ jc_isUB url = 0 → ¬ jc_shownEntry u n (u 21 0) = -1 → jc_full u (jc_push rep url (u 17 (ix (jc_shownEntry u n (u 21 0))))) = 0 → ((jc_push rep url (u 17 (ix (jc_shownEntry u n (u 21 0))))) = 0 → jc_Lv u (u 15 (ix (jc_shownEntry u n (u 21 0))))) ∧ (¬ (jc_push rep url (u 17 (ix (jc_shownEntry u n (u 21 0))))) = 0 → jc_Lv (jc_dropLater u) (jc_dropLater u 15 (ix (jc_shownEntry u n (u 21 0)))))) : jx_M l y_J_navigate b_J_navigate 8 (some .int) (jr 13) D (jc_tys cA) aK 158 ad (jc_cell ad aK cA) [.ref (ad 0), .int n, .int url, .int rep] u (fun r : Int32 => some (.int r)) (fun r u' => r = (jc_navigate u n url rep).1 ∧ u' = (jc_navigate u n url rep).2) := by
  refine jx_enter "JointHistory" (by decide) rfl (by simp [lg_sl, vc_int, vc_ref, vc_long, jv_cat]) ?_
  intro p e s m args below meth c A Q H locs ls hQ hc hh hr hlk hl
  have hx := hc.1
  have hb := hc.2.1
  have hl : lv_has ls 8 [(0, .ref (ad 0)), (1, .int n), (2, .int url), (3, .int rep)] := by simpa [lv_args, vc_int, vc_ref, vc_long, jv_cat] using hl
  refine lv_iload_n hx hb d_J_navigate_0 rfl (lv_at hl 2 rfl) ?_
  refine jx_callS [.int url] [] hc hh (c_isUrlOrBlank l D aK ad cA u url) wy_J_93 (by decide) rfl hl.1 rfl (by decide) ⟨Nat.zero_le _, Nat.zero_le _⟩ d_J_navigate_1 (fun r u9 H locs hp hh _ _ => ?_)
  rw [hp.2] at hh
  refine W.eq (g2 := F0 m 4 ls [.int (jc_isUB url)]) (by rw [hp.1]; rfl) ?_
  refine lv_if_ne (tgt := 10) hx hb d_J_navigate_4 rfl (fun h4 => ?_) (fun h4 => ?_)
  ·
    refine lv_aload_n hx hb d_J_navigate_10 rfl (lv_at hl 0 rfl) ?_
    refine lv_iload_n hx hb d_J_navigate_11 rfl (lv_at hl 1 rfl) ?_
    refine lv_aload_n hx hb d_J_navigate_12 rfl (lv_at hl 0 rfl) ?_
    refine jg_J hc hh 5 (by decide) rfl wf_J_96 d_J_navigate_13 ?_
    refine jx_callV [.int n, .int (u 21 0)] [] hc hh (c_shownEntry l D aK ad cA u n (u 21 0) hS) wy_J_99 ⟨by decide, rfl, rfl⟩ (by decide) rfl hl.1 rfl (by decide) ⟨Nat.zero_le _, Nat.zero_le _⟩ d_J_navigate_16 (fun r u9 H locs hp hh _ _ => ?_)
    rw [hp.2] at hh
    refine W.eq (g2 := F0 m 19 ls [jv ad 118 (jc_shownEntry u n (u 21 0))]) (by rw [hp.1]; rfl) ?_
    refine jv_astore (i := 4) (lv' := [(4, jv ad 118 (jc_shownEntry u n (u 21 0))), (0, .ref (ad 0)), (1, .int n), (2, .int url), (3, .int rep)]) hx hb d_J_navigate_19 hl (by decide) rfl (fun ls hl => ?_)
    refine jv_aload hx hb d_J_navigate_21 (lv_at hl 0 rfl) ?_
    refine jv_ifnonnull (tgt := 29) hx hb d_J_navigate_23 rfl (fun h23 => ?_) (fun h23 => ?_)
    ·
      refine lv_iload_n hx hb d_J_navigate_29 rfl (lv_at hl 4 rfl) ?_
      refine lv_if_ne (tgt := 46) hx hb d_J_navigate_30 rfl (fun h30 => ?_) (fun h30 => ?_)
      ·
        refine lv_iconst (v := 0) hx hb d_J_navigate_46 (by decide) ?_
        have J47 : ∀  (ls : Array Slot), lv_has ls 8 [(0, .ref (ad 0)), (1, .int n), (2, .int url), (3, .int rep), (4, jv ad 118 (jc_shownEntry u n (u 21 0)))] → W p l e (jr 13) s m args below meth c H locs 0 0 Q (F0 m 47 ls [.int (jc_push rep url (u 17 (ix (jc_shownEntry u n (u 21 0)))))]) := by
          intro  ls hl
          refine lv_istore (i := 5) (lv' := [(5, .int (jc_push rep url (u 17 (ix (jc_shownEntry u n (u 21 0)))))), (0, .ref (ad 0)), (1, .int n), (2, .int url), (3, .int rep), (4, jv ad 118 (jc_shownEntry u n (u 21 0)))]) hx hb d_J_navigate_47 hl (by decide) (by simp [vc_int, vc_ref, vc_long, jv_cat]) (fun ls hl => ?_)
          refine lv_aload_n hx hb d_J_navigate_49 rfl (lv_at hl 1 rfl) ?_
          refine lv_iload hx hb d_J_navigate_50 (lv_at hl 0 rfl) ?_
          refine jx_callV [.int (jc_push rep url (u 17 (ix (jc_shownEntry u n (u 21 0)))))] [] hc hh (c_isFull l D aK ad cA u (jc_push rep url (u 17 (ix (jc_shownEntry u n (u 21 0)))))) wy_J_106 ⟨by decide, rfl, rfl⟩ (by decide) rfl hl.1 rfl (by decide) ⟨Nat.zero_le _, Nat.zero_le _⟩ d_J_navigate_52 (fun r u9 H locs hp hh _ _ => ?_)
          rw [hp.2] at hh
          refine W.eq (g2 := F0 m 55 ls [.int (jc_full u (jc_push rep url (u 17 (ix (jc_shownEntry u n (u 21 0))))))]) (by rw [hp.1]; rfl) ?_
          refine lv_if_eq (tgt := 61) hx hb d_J_navigate_55 rfl (fun h55 => ?_) (fun h55 => ?_)
          ·
            refine lv_iload hx hb d_J_navigate_61 (lv_at hl 0 rfl) ?_
            refine lv_if_eq (tgt := 70) hx hb d_J_navigate_63 rfl (fun h63 => ?_) (fun h63 => ?_)
            ·
              have J70 : ∀ (v : js_S) (b : Int32) (H : Heap) (locs : List Loc) (ls : Array Slot), (jc_Sh v) → (∃ i, i < 40 ∧ v 19 (ix (jc_shownEntry u n (u 21 0))) = nI i) → (jc_Lv v (v 15 (ix (jc_shownEntry u n (u 21 0))))) → (jc_navigate u n url rep = (jc_nav v (jc_shownEntry u n (u 21 0)) url b 21 0, jc_nav v (jc_shownEntry u n (u 21 0)) url b)) → jx_H D 158 ad (jc_cell ad aK cA v) A s.heap H locs → lv_has ls 8 [(0, .ref (ad 0)), (1, .int n), (2, .int url), (3, .int rep), (4, jv ad 118 (jc_shownEntry u n (u 21 0))), (5, .int b)] → W p l e (jr 13) s m args below meth c H locs 0 0 Q (F0 m 70 ls []) := by
                intro v b H locs ls hSv hd0 hlv hv hh hl
                refine jv_aload hx hb d_J_navigate_70 (lv_at hl 4 rfl) ?_
                refine jgx_E hc hh (jc_se_ex hS h23) 3 (by decide) rfl wf_J_103 d_J_navigate_72 ?_
                refine lv_iload_n hx hb d_J_navigate_75 rfl (lv_at hl 2 rfl) ?_
                refine jx_callS [.int (v 17 (ix (jc_shownEntry u n (u 21 0)))), .int url] [] hc hh (c_isFragmentMove l D aK ad cA v (v 17 (ix (jc_shownEntry u n (u 21 0)))) url) wy_J_113 (by decide) rfl hl.1 rfl (by decide) ⟨Nat.zero_le _, Nat.zero_le _⟩ d_J_navigate_76 (fun r u9 H locs hp hh _ _ => ?_)
                rw [hp.2] at hh
                refine W.eq (g2 := F0 m 79 ls [.int (jc_isFM (v 17 (ix (jc_shownEntry u n (u 21 0)))) url)]) (by rw [hp.1]; rfl) ?_
                refine lv_if_eq (tgt := 119) hx hb d_J_navigate_79 rfl (fun h79 => ?_) (fun h79 => ?_)
                ·
                  refine lv_iload hx hb d_J_navigate_119 (lv_at hl 5 rfl) ?_
                  refine lv_if_eq (tgt := 133) hx hb d_J_navigate_121 rfl (fun h121 => ?_) (fun h121 => ?_)
                  ·
                    refine jv_aload hx hb d_J_navigate_133 (lv_at hl 4 rfl) ?_
                    refine jgx_E hc hh (jc_se_ex hS h23) 2 (by decide) rfl wf_J_128 d_J_navigate_135 ?_
                    have J138 : ∀  (ls : Array Slot), lv_has ls 8 [(0, .ref (ad 0)), (1, .int n), (2, .int url), (3, .int rep), (4, jv ad 118 (jc_shownEntry u n (u 21 0))), (5, .int b)] → W p l e (jr 13) s m args below meth c H locs 0 0 Q (F0 m 138 ls [.int (jc_stp v (jc_shownEntry u n (u 21 0)) b)]) := by
                      intro  ls hl
                      refine lv_istore (i := 6) (lv' := [(6, .int (jc_stp v (jc_shownEntry u n (u 21 0)) b)), (0, .ref (ad 0)), (1, .int n), (2, .int url), (3, .int rep), (4, jv ad 118 (jc_shownEntry u n (u 21 0))), (5, .int b)]) hx hb d_J_navigate_138 hl (by decide) rfl (fun ls hl => ?_)
                      refine lv_aload_n hx hb d_J_navigate_140 rfl (lv_at hl 1 rfl) ?_
                      refine lv_iload_n hx hb d_J_navigate_141 rfl (lv_at hl 3 rfl) ?_
                      refine jx_callV [.int url] [] hc hh (c_followDetours l D aK ad cA v url hSv (jc_ub h4)) wy_J_131 ⟨by decide, rfl, rfl⟩ (by decide) rfl hl.1 rfl (by decide) ⟨Nat.zero_le _, Nat.zero_le _⟩ d_J_navigate_142 (fun r u9 H locs hp hh _ _ => ?_)
                      rw [hp.2] at hh
                      refine W.eq (g2 := F0 m 145 ls [.int (jc_fd v 4 url)]) (by rw [hp.1]; rfl) ?_
                      refine lv_istore (i := 7) (lv' := [(7, .int (jc_fd v 4 url)), (6, .int (jc_stp v (jc_shownEntry u n (u 21 0)) b)), (0, .ref (ad 0)), (1, .int n), (2, .int url), (3, .int rep), (4, jv ad 118 (jc_shownEntry u n (u 21 0))), (5, .int b)]) hx hb d_J_navigate_145 hl (by decide) rfl (fun ls hl => ?_)
                      refine lv_aload_n hx hb d_J_navigate_147 rfl (lv_at hl 2 rfl) ?_
                      refine jv_aload hx hb d_J_navigate_148 (lv_at hl 6 rfl) ?_
                      refine lv_iload hx hb d_J_navigate_150 (lv_at hl 0 rfl) ?_
                      refine lv_iconst (v := 0) hx hb d_J_navigate_152 (by decide) ?_
                      refine lv_aload_n hx hb d_J_navigate_153 rfl (lv_at hl 2 rfl) ?_
                      refine jv_aload hx hb d_J_navigate_154 (lv_at hl 6 rfl) ?_
                      refine jgx_E hc hh (jc_se_ex hS h23) 1 (by decide) rfl wf_J_135 d_J_navigate_156 ?_
                      refine lv_iload hx hb d_J_navigate_159 (lv_at hl 0 rfl) ?_
                      refine lv_iload hx hb d_J_navigate_161 (lv_at hl 1 rfl) ?_
                      obtain ⟨d9, hd9, hw9, hC9⟩ := hlv
                      refine jx_callV [jv ad 38 (v 15 (ix (jc_shownEntry u n (u 21 0)))), .int (jc_fd v 4 url), .int (jc_stp v (jc_shownEntry u n (u 21 0)) b)] [.int 0, .int (jc_fd v 4 url), jv ad 118 (jc_shownEntry u n (u 21 0)), .ref (ad 0)] hc hh (c_load_all l D aK ad cA d9 hd9 v (v 15 (ix (jc_shownEntry u n (u 21 0)))) (jc_fd v 4 url) (jc_stp v (jc_shownEntry u n (u 21 0)) b) hSv hw9 hC9 (jc_fd_ok hSv 4 (jc_ub h4))) wy_J_47 ⟨by decide, rfl, rfl⟩ ⟨rfl, rfl, by simp only [jr]; omega, by simp only [jr]; omega⟩ rfl hl.1 rfl (by simp [vc_int, vc_ref, vc_long, jv_cat]) ⟨Nat.zero_le _, Nat.zero_le _⟩ d_J_navigate_163 (fun r u9 H locs hp hh _ _ => ?_)
                      rw [hp.2] at hh
                      refine W.eq (g2 := F0 m 166 ls [jv ad 78 (nI (js_free v 8 39 0)), .int 0, .int (jc_fd v 4 url), jv ad 118 (jc_shownEntry u n (u 21 0)), .ref (ad 0)]) (by rw [hp.1]; rfl) ?_
                      refine lv_iload hx hb d_J_navigate_166 (lv_at hl 7 rfl) ?_
                      refine jx_callV [jv ad 118 (jc_shownEntry u n (u 21 0)), .int (jc_fd v 4 url), .int 0, jv ad 78 (nI (js_free v 8 39 0)), .int b] [] hc hh (c_putEntry l D aK ad cA (jc_load d9 v (v 15 (ix (jc_shownEntry u n (u 21 0)))) (jc_fd v 4 url) (jc_stp v (jc_shownEntry u n (u 21 0)) b)) (jc_shownEntry u n (u 21 0)) (jc_fd v 4 url) 0 (nI (js_free v 8 39 0)) b (jc_load_ok d9 hd9 v (v 15 (ix (jc_shownEntry u n (u 21 0)))) (jc_fd v 4 url) (jc_stp v (jc_shownEntry u n (u 21 0)) b) hSv hw9 hC9 (jc_fd_ok hSv 4 (jc_ub h4))).1 (jc_se_ex hS h23) ⟨_, js_f39, rfl⟩) wy_J_124 ⟨by decide, rfl, rfl⟩ (by decide) rfl hl.1 rfl (by decide) ⟨Nat.zero_le _, Nat.zero_le _⟩ d_J_navigate_168 (fun r u9 H locs hp hh _ _ => ?_)
                      rw [hp.2] at hh
                      refine W.eq (g2 := F0 m 171 ls []) rfl ?_
                      refine lv_aload_n hx hb d_J_navigate_171 rfl (lv_at hl 2 rfl) ?_
                      refine jg_J hc hh 5 (by decide) rfl wf_J_96 d_J_navigate_172 ?_
                      exact jx_iret (r := ((jc_putEntry (jc_load d9 v (v 15 (ix (jc_shownEntry u n (u 21 0)))) (jc_fd v 4 url) (jc_stp v (jc_shownEntry u n (u 21 0)) b)) (jc_shownEntry u n (u 21 0)) (jc_fd v 4 url) 0 (nI (js_free v 8 39 0)) b) 21 0)) hc hh hQ hlk hr rfl rfl ⟨by rw [hv]; simp [jc_nav, jc_nv2, h79, jc_ld_eq hw9 hd9], by rw [hv]; simp [jc_nav, jc_nv2, h79, jc_ld_eq hw9 hd9]⟩ d_J_navigate_175
                    have e1 : (jc_stp v (jc_shownEntry u n (u 21 0)) b) = (v 16 (ix (jc_shownEntry u n (u 21 0)))) := by first | (simp [jc_stp, h79, h121]; done) | (simp [jc_stp, eq_true h79, eq_true h121]; done)
                    refine W.eq (g2 := F0 m 138 ls [.int (jc_stp v (jc_shownEntry u n (u 21 0)) b)]) (by first | (rw [e1]; done) | (rw [e1]; rfl)) ?_
                    refine J138 _ ?_
                    exact lv_sub hl [0, 1, 2, 3, 4, 5] rfl
                  refine lv_aload_n hx hb d_J_navigate_124 rfl (lv_at hl 0 rfl) ?_
                  refine jg_J hc hh 5 (by decide) rfl wf_J_96 d_J_navigate_125 ?_
                  refine lv_iconst (v := 1) hx hb d_J_navigate_128 (by decide) ?_
                  refine lv_iadd hx hb d_J_navigate_129 ?_
                  refine lv_goto (tgt := 138) hx hb d_J_navigate_130 rfl ?_
                  have J138 : ∀  (ls : Array Slot), lv_has ls 8 [(0, .ref (ad 0)), (1, .int n), (2, .int url), (3, .int rep), (4, jv ad 118 (jc_shownEntry u n (u 21 0))), (5, .int b)] → W p l e (jr 13) s m args below meth c H locs 0 0 Q (F0 m 138 ls [.int (jc_stp v (jc_shownEntry u n (u 21 0)) b)]) := by
                    intro  ls hl
                    refine lv_istore (i := 6) (lv' := [(6, .int (jc_stp v (jc_shownEntry u n (u 21 0)) b)), (0, .ref (ad 0)), (1, .int n), (2, .int url), (3, .int rep), (4, jv ad 118 (jc_shownEntry u n (u 21 0))), (5, .int b)]) hx hb d_J_navigate_138 hl (by decide) rfl (fun ls hl => ?_)
                    refine lv_aload_n hx hb d_J_navigate_140 rfl (lv_at hl 1 rfl) ?_
                    refine lv_iload_n hx hb d_J_navigate_141 rfl (lv_at hl 3 rfl) ?_
                    refine jx_callV [.int url] [] hc hh (c_followDetours l D aK ad cA v url hSv (jc_ub h4)) wy_J_131 ⟨by decide, rfl, rfl⟩ (by decide) rfl hl.1 rfl (by decide) ⟨Nat.zero_le _, Nat.zero_le _⟩ d_J_navigate_142 (fun r u9 H locs hp hh _ _ => ?_)
                    rw [hp.2] at hh
                    refine W.eq (g2 := F0 m 145 ls [.int (jc_fd v 4 url)]) (by rw [hp.1]; rfl) ?_
                    refine lv_istore (i := 7) (lv' := [(7, .int (jc_fd v 4 url)), (6, .int (jc_stp v (jc_shownEntry u n (u 21 0)) b)), (0, .ref (ad 0)), (1, .int n), (2, .int url), (3, .int rep), (4, jv ad 118 (jc_shownEntry u n (u 21 0))), (5, .int b)]) hx hb d_J_navigate_145 hl (by decide) rfl (fun ls hl => ?_)
                    refine lv_aload_n hx hb d_J_navigate_147 rfl (lv_at hl 2 rfl) ?_
                    refine jv_aload hx hb d_J_navigate_148 (lv_at hl 6 rfl) ?_
                    refine lv_iload hx hb d_J_navigate_150 (lv_at hl 0 rfl) ?_
                    refine lv_iconst (v := 0) hx hb d_J_navigate_152 (by decide) ?_
                    refine lv_aload_n hx hb d_J_navigate_153 rfl (lv_at hl 2 rfl) ?_
                    refine jv_aload hx hb d_J_navigate_154 (lv_at hl 6 rfl) ?_
                    refine jgx_E hc hh (jc_se_ex hS h23) 1 (by decide) rfl wf_J_135 d_J_navigate_156 ?_
                    refine lv_iload hx hb d_J_navigate_159 (lv_at hl 0 rfl) ?_
                    refine lv_iload hx hb d_J_navigate_161 (lv_at hl 1 rfl) ?_
                    obtain ⟨d9, hd9, hw9, hC9⟩ := hlv
                    refine jx_callV [jv ad 38 (v 15 (ix (jc_shownEntry u n (u 21 0)))), .int (jc_fd v 4 url), .int (jc_stp v (jc_shownEntry u n (u 21 0)) b)] [.int 0, .int (jc_fd v 4 url), jv ad 118 (jc_shownEntry u n (u 21 0)), .ref (ad 0)] hc hh (c_load_all l D aK ad cA d9 hd9 v (v 15 (ix (jc_shownEntry u n (u 21 0)))) (jc_fd v 4 url) (jc_stp v (jc_shownEntry u n (u 21 0)) b) hSv hw9 hC9 (jc_fd_ok hSv 4 (jc_ub h4))) wy_J_47 ⟨by decide, rfl, rfl⟩ ⟨rfl, rfl, by simp only [jr]; omega, by simp only [jr]; omega⟩ rfl hl.1 rfl (by simp [vc_int, vc_ref, vc_long, jv_cat]) ⟨Nat.zero_le _, Nat.zero_le _⟩ d_J_navigate_163 (fun r u9 H locs hp hh _ _ => ?_)
                    rw [hp.2] at hh
                    refine W.eq (g2 := F0 m 166 ls [jv ad 78 (nI (js_free v 8 39 0)), .int 0, .int (jc_fd v 4 url), jv ad 118 (jc_shownEntry u n (u 21 0)), .ref (ad 0)]) (by rw [hp.1]; rfl) ?_
                    refine lv_iload hx hb d_J_navigate_166 (lv_at hl 7 rfl) ?_
                    refine jx_callV [jv ad 118 (jc_shownEntry u n (u 21 0)), .int (jc_fd v 4 url), .int 0, jv ad 78 (nI (js_free v 8 39 0)), .int b] [] hc hh (c_putEntry l D aK ad cA (jc_load d9 v (v 15 (ix (jc_shownEntry u n (u 21 0)))) (jc_fd v 4 url) (jc_stp v (jc_shownEntry u n (u 21 0)) b)) (jc_shownEntry u n (u 21 0)) (jc_fd v 4 url) 0 (nI (js_free v 8 39 0)) b (jc_load_ok d9 hd9 v (v 15 (ix (jc_shownEntry u n (u 21 0)))) (jc_fd v 4 url) (jc_stp v (jc_shownEntry u n (u 21 0)) b) hSv hw9 hC9 (jc_fd_ok hSv 4 (jc_ub h4))).1 (jc_se_ex hS h23) ⟨_, js_f39, rfl⟩) wy_J_124 ⟨by decide, rfl, rfl⟩ (by decide) rfl hl.1 rfl (by decide) ⟨Nat.zero_le _, Nat.zero_le _⟩ d_J_navigate_168 (fun r u9 H locs hp hh _ _ => ?_)
                    rw [hp.2] at hh
                    refine W.eq (g2 := F0 m 171 ls []) rfl ?_
                    refine lv_aload_n hx hb d_J_navigate_171 rfl (lv_at hl 2 rfl) ?_
                    refine jg_J hc hh 5 (by decide) rfl wf_J_96 d_J_navigate_172 ?_
                    exact jx_iret (r := ((jc_putEntry (jc_load d9 v (v 15 (ix (jc_shownEntry u n (u 21 0)))) (jc_fd v 4 url) (jc_stp v (jc_shownEntry u n (u 21 0)) b)) (jc_shownEntry u n (u 21 0)) (jc_fd v 4 url) 0 (nI (js_free v 8 39 0)) b) 21 0)) hc hh hQ hlk hr rfl rfl ⟨by rw [hv]; simp [jc_nav, jc_nv2, h79, jc_ld_eq hw9 hd9], by rw [hv]; simp [jc_nav, jc_nv2, h79, jc_ld_eq hw9 hd9]⟩ d_J_navigate_175
                  have e2 : (jc_stp v (jc_shownEntry u n (u 21 0)) b) = ((v 21 0) + 1) := by first | (simp [jc_stp, h79, h121]; done) | (simp [jc_stp, eq_true h79, h121]; done)
                  refine W.eq (g2 := F0 m 138 ls [.int (jc_stp v (jc_shownEntry u n (u 21 0)) b)]) (by first | (rw [e2]; done) | (rw [e2]; rfl)) ?_
                  refine J138 _ ?_
                  exact lv_sub hl [0, 1, 2, 3, 4, 5] rfl
                refine lv_iload_n hx hb d_J_navigate_82 rfl (lv_at hl 2 rfl) ?_
                refine jv_aload hx hb d_J_navigate_83 (lv_at hl 4 rfl) ?_
                refine jgx_E hc hh (jc_se_ex hS h23) 3 (by decide) rfl wf_J_103 d_J_navigate_85 ?_
                refine lv_icmp_eq (tgt := 101) hx hb d_J_navigate_88 rfl (fun h88 => ?_) (fun h88 => ?_)
                ·
                  have J101 : ∀ (w : js_S) (H : Heap) (locs : List Loc) (ls : Array Slot), (jc_Sh w) → (∃ i, i < 40 ∧ w 19 (ix (jc_shownEntry u n (u 21 0))) = nI i) → (jc_nav v (jc_shownEntry u n (u 21 0)) url b = jc_nv1 w (jc_shownEntry u n (u 21 0)) url b) → jx_H D 158 ad (jc_cell ad aK cA w) A s.heap H locs → lv_has ls 8 [(0, .ref (ad 0)), (1, .int n), (2, .int url), (3, .int rep), (4, jv ad 118 (jc_shownEntry u n (u 21 0))), (5, .int b)] → W p l e (jr 13) s m args below meth c H locs 0 0 Q (F0 m 101 ls []) := by
                    intro w H locs ls hSw hdw hw hh hl
                    refine lv_aload_n hx hb d_J_navigate_101 rfl (lv_at hl 0 rfl) ?_
                    refine jv_aload hx hb d_J_navigate_102 (lv_at hl 4 rfl) ?_
                    refine lv_iload_n hx hb d_J_navigate_104 rfl (lv_at hl 2 rfl) ?_
                    refine lv_iconst (v := 0) hx hb d_J_navigate_105 (by decide) ?_
                    refine jv_aload hx hb d_J_navigate_106 (lv_at hl 4 rfl) ?_
                    refine jgx_E hc hh (jc_se_ex hS h23) 5 (by decide) rfl wf_J_120 d_J_navigate_108 ?_
                    refine lv_iload hx hb d_J_navigate_111 (lv_at hl 5 rfl) ?_
                    refine jx_callV [jv ad 118 (jc_shownEntry u n (u 21 0)), .int url, .int 0, jv ad 78 (w 19 (ix (jc_shownEntry u n (u 21 0)))), .int b] [] hc hh (c_putEntry l D aK ad cA w (jc_shownEntry u n (u 21 0)) url 0 (w 19 (ix (jc_shownEntry u n (u 21 0)))) b hSw (jc_se_ex hS h23) hdw) wy_J_124 ⟨by decide, rfl, rfl⟩ (by decide) rfl hl.1 rfl (by decide) ⟨Nat.zero_le _, Nat.zero_le _⟩ d_J_navigate_113 (fun r u9 H locs hp hh _ _ => ?_)
                    rw [hp.2] at hh
                    refine W.eq (g2 := F0 m 116 ls []) rfl ?_
                    refine lv_goto (tgt := 171) hx hb d_J_navigate_116 rfl ?_
                    refine lv_aload_n hx hb d_J_navigate_171 rfl (lv_at hl 0 rfl) ?_
                    refine jg_J hc hh 5 (by decide) rfl wf_J_96 d_J_navigate_172 ?_
                    exact jx_iret (r := ((jc_putEntry w (jc_shownEntry u n (u 21 0)) url 0 (w 19 (ix (jc_shownEntry u n (u 21 0)))) b) 21 0)) hc hh hQ hlk hr rfl rfl ⟨by rw [hv, hw]; rfl, by rw [hv, hw]; rfl⟩ d_J_navigate_175
                  refine J101 v _ _ _ hSv hd0 (by unfold jc_nav; rw [if_neg h79, if_pos h88]) ?_ ?_
                  ·
                    exact hh
                  exact lv_sub hl [0, 1, 2, 3, 4, 5] rfl
                refine lv_aload_n hx hb d_J_navigate_91 rfl (lv_at hl 0 rfl) ?_
                refine lv_dup hx hb d_J_navigate_92 rfl ?_
                refine jg_J hc hh 7 (by decide) rfl wf_J_117 d_J_navigate_93 ?_
                refine lv_iconst (v := 1) hx hb d_J_navigate_96 (by decide) ?_
                refine lv_iadd hx hb d_J_navigate_97 ?_
                refine jp_23 hc hh wf_J_117 d_J_navigate_98 (fun H locs hh => ?_)
                have J101 : ∀ (w : js_S) (H : Heap) (locs : List Loc) (ls : Array Slot), (jc_Sh w) → (∃ i, i < 40 ∧ w 19 (ix (jc_shownEntry u n (u 21 0))) = nI i) → (jc_nav v (jc_shownEntry u n (u 21 0)) url b = jc_nv1 w (jc_shownEntry u n (u 21 0)) url b) → jx_H D 158 ad (jc_cell ad aK cA w) A s.heap H locs → lv_has ls 8 [(0, .ref (ad 0)), (1, .int n), (2, .int url), (3, .int rep), (4, jv ad 118 (jc_shownEntry u n (u 21 0))), (5, .int b)] → W p l e (jr 13) s m args below meth c H locs 0 0 Q (F0 m 101 ls []) := by
                  intro w H locs ls hSw hdw hw hh hl
                  refine lv_aload_n hx hb d_J_navigate_101 rfl (lv_at hl 0 rfl) ?_
                  refine jv_aload hx hb d_J_navigate_102 (lv_at hl 4 rfl) ?_
                  refine lv_iload_n hx hb d_J_navigate_104 rfl (lv_at hl 2 rfl) ?_
                  refine lv_iconst (v := 0) hx hb d_J_navigate_105 (by decide) ?_
                  refine jv_aload hx hb d_J_navigate_106 (lv_at hl 4 rfl) ?_
                  refine jgx_E hc hh (jc_se_ex hS h23) 5 (by decide) rfl wf_J_120 d_J_navigate_108 ?_
                  refine lv_iload hx hb d_J_navigate_111 (lv_at hl 5 rfl) ?_
                  refine jx_callV [jv ad 118 (jc_shownEntry u n (u 21 0)), .int url, .int 0, jv ad 78 (w 19 (ix (jc_shownEntry u n (u 21 0)))), .int b] [] hc hh (c_putEntry l D aK ad cA w (jc_shownEntry u n (u 21 0)) url 0 (w 19 (ix (jc_shownEntry u n (u 21 0)))) b hSw (jc_se_ex hS h23) hdw) wy_J_124 ⟨by decide, rfl, rfl⟩ (by decide) rfl hl.1 rfl (by decide) ⟨Nat.zero_le _, Nat.zero_le _⟩ d_J_navigate_113 (fun r u9 H locs hp hh _ _ => ?_)
                  rw [hp.2] at hh
                  refine W.eq (g2 := F0 m 116 ls []) rfl ?_
                  refine lv_goto (tgt := 171) hx hb d_J_navigate_116 rfl ?_
                  refine lv_aload_n hx hb d_J_navigate_171 rfl (lv_at hl 0 rfl) ?_
                  refine jg_J hc hh 5 (by decide) rfl wf_J_96 d_J_navigate_172 ?_
                  exact jx_iret (r := ((jc_putEntry w (jc_shownEntry u n (u 21 0)) url 0 (w 19 (ix (jc_shownEntry u n (u 21 0)))) b) 21 0)) hc hh hQ hlk hr rfl rfl ⟨by rw [hv, hw]; rfl, by rw [hv, hw]; rfl⟩ d_J_navigate_175
                refine J101 (js_up v 23 0 ((v 23 0) + 1)) _ _ _ (jc_Sh_23 hSv) (by rw [js_up_f (by decide)]; exact hd0) (by unfold jc_nav; rw [if_neg h79, if_neg h88]) ?_ ?_
                ·
                  exact hh
                exact lv_sub hl [0, 1, 2, 3, 4, 5] rfl
              refine J70 u (jc_push rep url (u 17 (ix (jc_shownEntry u n (u 21 0))))) _ _ _ hS (jc_se_doc hS h23) ((hLo h4 h23 h55).1 h63) (by unfold jc_navigate jc_nvF; rw [if_neg h4, if_neg h23, if_pos h55, if_pos h63]) ?_ ?_
              ·
                exact hh
              exact lv_sub hl [1, 2, 3, 4, 5, 0] rfl
            refine lv_aload_n hx hb d_J_navigate_66 rfl (lv_at hl 1 rfl) ?_
            refine jx_callV [] [] hc hh (c_dropLaterEntries l D aK ad cA u hS) wy_J_110 ⟨by decide, rfl, rfl⟩ (by decide) rfl hl.1 rfl (by decide) ⟨Nat.zero_le _, Nat.zero_le _⟩ d_J_navigate_67 (fun r u9 H locs hp hh _ _ => ?_)
            rw [hp.2] at hh
            refine W.eq (g2 := F0 m 70 ls []) rfl ?_
            have J70 : ∀ (v : js_S) (b : Int32) (H : Heap) (locs : List Loc) (ls : Array Slot), (jc_Sh v) → (∃ i, i < 40 ∧ v 19 (ix (jc_shownEntry u n (u 21 0))) = nI i) → (jc_Lv v (v 15 (ix (jc_shownEntry u n (u 21 0))))) → (jc_navigate u n url rep = (jc_nav v (jc_shownEntry u n (u 21 0)) url b 21 0, jc_nav v (jc_shownEntry u n (u 21 0)) url b)) → jx_H D 158 ad (jc_cell ad aK cA v) A s.heap H locs → lv_has ls 8 [(0, .ref (ad 0)), (1, .int n), (2, .int url), (3, .int rep), (4, jv ad 118 (jc_shownEntry u n (u 21 0))), (5, .int b)] → W p l e (jr 13) s m args below meth c H locs 0 0 Q (F0 m 70 ls []) := by
              intro v b H locs ls hSv hd0 hlv hv hh hl
              refine jv_aload hx hb d_J_navigate_70 (lv_at hl 4 rfl) ?_
              refine jgx_E hc hh (jc_se_ex hS h23) 3 (by decide) rfl wf_J_103 d_J_navigate_72 ?_
              refine lv_iload_n hx hb d_J_navigate_75 rfl (lv_at hl 2 rfl) ?_
              refine jx_callS [.int (v 17 (ix (jc_shownEntry u n (u 21 0)))), .int url] [] hc hh (c_isFragmentMove l D aK ad cA v (v 17 (ix (jc_shownEntry u n (u 21 0)))) url) wy_J_113 (by decide) rfl hl.1 rfl (by decide) ⟨Nat.zero_le _, Nat.zero_le _⟩ d_J_navigate_76 (fun r u9 H locs hp hh _ _ => ?_)
              rw [hp.2] at hh
              refine W.eq (g2 := F0 m 79 ls [.int (jc_isFM (v 17 (ix (jc_shownEntry u n (u 21 0)))) url)]) (by rw [hp.1]; rfl) ?_
              refine lv_if_eq (tgt := 119) hx hb d_J_navigate_79 rfl (fun h79 => ?_) (fun h79 => ?_)
              ·
                refine lv_iload hx hb d_J_navigate_119 (lv_at hl 5 rfl) ?_
                refine lv_if_eq (tgt := 133) hx hb d_J_navigate_121 rfl (fun h121 => ?_) (fun h121 => ?_)
                ·
                  refine jv_aload hx hb d_J_navigate_133 (lv_at hl 4 rfl) ?_
                  refine jgx_E hc hh (jc_se_ex hS h23) 2 (by decide) rfl wf_J_128 d_J_navigate_135 ?_
                  have J138 : ∀  (ls : Array Slot), lv_has ls 8 [(0, .ref (ad 0)), (1, .int n), (2, .int url), (3, .int rep), (4, jv ad 118 (jc_shownEntry u n (u 21 0))), (5, .int b)] → W p l e (jr 13) s m args below meth c H locs 0 0 Q (F0 m 138 ls [.int (jc_stp v (jc_shownEntry u n (u 21 0)) b)]) := by
                    intro  ls hl
                    refine lv_istore (i := 6) (lv' := [(6, .int (jc_stp v (jc_shownEntry u n (u 21 0)) b)), (0, .ref (ad 0)), (1, .int n), (2, .int url), (3, .int rep), (4, jv ad 118 (jc_shownEntry u n (u 21 0))), (5, .int b)]) hx hb d_J_navigate_138 hl (by decide) rfl (fun ls hl => ?_)
                    refine lv_aload_n hx hb d_J_navigate_140 rfl (lv_at hl 1 rfl) ?_
                    refine lv_iload_n hx hb d_J_navigate_141 rfl (lv_at hl 3 rfl) ?_
                    refine jx_callV [.int url] [] hc hh (c_followDetours l D aK ad cA v url hSv (jc_ub h4)) wy_J_131 ⟨by decide, rfl, rfl⟩ (by decide) rfl hl.1 rfl (by decide) ⟨Nat.zero_le _, Nat.zero_le _⟩ d_J_navigate_142 (fun r u9 H locs hp hh _ _ => ?_)
                    rw [hp.2] at hh
                    refine W.eq (g2 := F0 m 145 ls [.int (jc_fd v 4 url)]) (by rw [hp.1]; rfl) ?_
                    refine lv_istore (i := 7) (lv' := [(7, .int (jc_fd v 4 url)), (6, .int (jc_stp v (jc_shownEntry u n (u 21 0)) b)), (0, .ref (ad 0)), (1, .int n), (2, .int url), (3, .int rep), (4, jv ad 118 (jc_shownEntry u n (u 21 0))), (5, .int b)]) hx hb d_J_navigate_145 hl (by decide) rfl (fun ls hl => ?_)
                    refine lv_aload_n hx hb d_J_navigate_147 rfl (lv_at hl 2 rfl) ?_
                    refine jv_aload hx hb d_J_navigate_148 (lv_at hl 6 rfl) ?_
                    refine lv_iload hx hb d_J_navigate_150 (lv_at hl 0 rfl) ?_
                    refine lv_iconst (v := 0) hx hb d_J_navigate_152 (by decide) ?_
                    refine lv_aload_n hx hb d_J_navigate_153 rfl (lv_at hl 2 rfl) ?_
                    refine jv_aload hx hb d_J_navigate_154 (lv_at hl 6 rfl) ?_
                    refine jgx_E hc hh (jc_se_ex hS h23) 1 (by decide) rfl wf_J_135 d_J_navigate_156 ?_
                    refine lv_iload hx hb d_J_navigate_159 (lv_at hl 0 rfl) ?_
                    refine lv_iload hx hb d_J_navigate_161 (lv_at hl 1 rfl) ?_
                    obtain ⟨d9, hd9, hw9, hC9⟩ := hlv
                    refine jx_callV [jv ad 38 (v 15 (ix (jc_shownEntry u n (u 21 0)))), .int (jc_fd v 4 url), .int (jc_stp v (jc_shownEntry u n (u 21 0)) b)] [.int 0, .int (jc_fd v 4 url), jv ad 118 (jc_shownEntry u n (u 21 0)), .ref (ad 0)] hc hh (c_load_all l D aK ad cA d9 hd9 v (v 15 (ix (jc_shownEntry u n (u 21 0)))) (jc_fd v 4 url) (jc_stp v (jc_shownEntry u n (u 21 0)) b) hSv hw9 hC9 (jc_fd_ok hSv 4 (jc_ub h4))) wy_J_47 ⟨by decide, rfl, rfl⟩ ⟨rfl, rfl, by simp only [jr]; omega, by simp only [jr]; omega⟩ rfl hl.1 rfl (by simp [vc_int, vc_ref, vc_long, jv_cat]) ⟨Nat.zero_le _, Nat.zero_le _⟩ d_J_navigate_163 (fun r u9 H locs hp hh _ _ => ?_)
                    rw [hp.2] at hh
                    refine W.eq (g2 := F0 m 166 ls [jv ad 78 (nI (js_free v 8 39 0)), .int 0, .int (jc_fd v 4 url), jv ad 118 (jc_shownEntry u n (u 21 0)), .ref (ad 0)]) (by rw [hp.1]; rfl) ?_
                    refine lv_iload hx hb d_J_navigate_166 (lv_at hl 7 rfl) ?_
                    refine jx_callV [jv ad 118 (jc_shownEntry u n (u 21 0)), .int (jc_fd v 4 url), .int 0, jv ad 78 (nI (js_free v 8 39 0)), .int b] [] hc hh (c_putEntry l D aK ad cA (jc_load d9 v (v 15 (ix (jc_shownEntry u n (u 21 0)))) (jc_fd v 4 url) (jc_stp v (jc_shownEntry u n (u 21 0)) b)) (jc_shownEntry u n (u 21 0)) (jc_fd v 4 url) 0 (nI (js_free v 8 39 0)) b (jc_load_ok d9 hd9 v (v 15 (ix (jc_shownEntry u n (u 21 0)))) (jc_fd v 4 url) (jc_stp v (jc_shownEntry u n (u 21 0)) b) hSv hw9 hC9 (jc_fd_ok hSv 4 (jc_ub h4))).1 (jc_se_ex hS h23) ⟨_, js_f39, rfl⟩) wy_J_124 ⟨by decide, rfl, rfl⟩ (by decide) rfl hl.1 rfl (by decide) ⟨Nat.zero_le _, Nat.zero_le _⟩ d_J_navigate_168 (fun r u9 H locs hp hh _ _ => ?_)
                    rw [hp.2] at hh
                    refine W.eq (g2 := F0 m 171 ls []) rfl ?_
                    refine lv_aload_n hx hb d_J_navigate_171 rfl (lv_at hl 2 rfl) ?_
                    refine jg_J hc hh 5 (by decide) rfl wf_J_96 d_J_navigate_172 ?_
                    exact jx_iret (r := ((jc_putEntry (jc_load d9 v (v 15 (ix (jc_shownEntry u n (u 21 0)))) (jc_fd v 4 url) (jc_stp v (jc_shownEntry u n (u 21 0)) b)) (jc_shownEntry u n (u 21 0)) (jc_fd v 4 url) 0 (nI (js_free v 8 39 0)) b) 21 0)) hc hh hQ hlk hr rfl rfl ⟨by rw [hv]; simp [jc_nav, jc_nv2, h79, jc_ld_eq hw9 hd9], by rw [hv]; simp [jc_nav, jc_nv2, h79, jc_ld_eq hw9 hd9]⟩ d_J_navigate_175
                  have e3 : (jc_stp v (jc_shownEntry u n (u 21 0)) b) = (v 16 (ix (jc_shownEntry u n (u 21 0)))) := by first | (simp [jc_stp, h79, h121]; done) | (simp [jc_stp, eq_true h79, eq_true h121]; done)
                  refine W.eq (g2 := F0 m 138 ls [.int (jc_stp v (jc_shownEntry u n (u 21 0)) b)]) (by first | (rw [e3]; done) | (rw [e3]; rfl)) ?_
                  refine J138 _ ?_
                  exact lv_sub hl [0, 1, 2, 3, 4, 5] rfl
                refine lv_aload_n hx hb d_J_navigate_124 rfl (lv_at hl 0 rfl) ?_
                refine jg_J hc hh 5 (by decide) rfl wf_J_96 d_J_navigate_125 ?_
                refine lv_iconst (v := 1) hx hb d_J_navigate_128 (by decide) ?_
                refine lv_iadd hx hb d_J_navigate_129 ?_
                refine lv_goto (tgt := 138) hx hb d_J_navigate_130 rfl ?_
                have J138 : ∀  (ls : Array Slot), lv_has ls 8 [(0, .ref (ad 0)), (1, .int n), (2, .int url), (3, .int rep), (4, jv ad 118 (jc_shownEntry u n (u 21 0))), (5, .int b)] → W p l e (jr 13) s m args below meth c H locs 0 0 Q (F0 m 138 ls [.int (jc_stp v (jc_shownEntry u n (u 21 0)) b)]) := by
                  intro  ls hl
                  refine lv_istore (i := 6) (lv' := [(6, .int (jc_stp v (jc_shownEntry u n (u 21 0)) b)), (0, .ref (ad 0)), (1, .int n), (2, .int url), (3, .int rep), (4, jv ad 118 (jc_shownEntry u n (u 21 0))), (5, .int b)]) hx hb d_J_navigate_138 hl (by decide) rfl (fun ls hl => ?_)
                  refine lv_aload_n hx hb d_J_navigate_140 rfl (lv_at hl 1 rfl) ?_
                  refine lv_iload_n hx hb d_J_navigate_141 rfl (lv_at hl 3 rfl) ?_
                  refine jx_callV [.int url] [] hc hh (c_followDetours l D aK ad cA v url hSv (jc_ub h4)) wy_J_131 ⟨by decide, rfl, rfl⟩ (by decide) rfl hl.1 rfl (by decide) ⟨Nat.zero_le _, Nat.zero_le _⟩ d_J_navigate_142 (fun r u9 H locs hp hh _ _ => ?_)
                  rw [hp.2] at hh
                  refine W.eq (g2 := F0 m 145 ls [.int (jc_fd v 4 url)]) (by rw [hp.1]; rfl) ?_
                  refine lv_istore (i := 7) (lv' := [(7, .int (jc_fd v 4 url)), (6, .int (jc_stp v (jc_shownEntry u n (u 21 0)) b)), (0, .ref (ad 0)), (1, .int n), (2, .int url), (3, .int rep), (4, jv ad 118 (jc_shownEntry u n (u 21 0))), (5, .int b)]) hx hb d_J_navigate_145 hl (by decide) rfl (fun ls hl => ?_)
                  refine lv_aload_n hx hb d_J_navigate_147 rfl (lv_at hl 2 rfl) ?_
                  refine jv_aload hx hb d_J_navigate_148 (lv_at hl 6 rfl) ?_
                  refine lv_iload hx hb d_J_navigate_150 (lv_at hl 0 rfl) ?_
                  refine lv_iconst (v := 0) hx hb d_J_navigate_152 (by decide) ?_
                  refine lv_aload_n hx hb d_J_navigate_153 rfl (lv_at hl 2 rfl) ?_
                  refine jv_aload hx hb d_J_navigate_154 (lv_at hl 6 rfl) ?_
                  refine jgx_E hc hh (jc_se_ex hS h23) 1 (by decide) rfl wf_J_135 d_J_navigate_156 ?_
                  refine lv_iload hx hb d_J_navigate_159 (lv_at hl 0 rfl) ?_
                  refine lv_iload hx hb d_J_navigate_161 (lv_at hl 1 rfl) ?_
                  obtain ⟨d9, hd9, hw9, hC9⟩ := hlv
                  refine jx_callV [jv ad 38 (v 15 (ix (jc_shownEntry u n (u 21 0)))), .int (jc_fd v 4 url), .int (jc_stp v (jc_shownEntry u n (u 21 0)) b)] [.int 0, .int (jc_fd v 4 url), jv ad 118 (jc_shownEntry u n (u 21 0)), .ref (ad 0)] hc hh (c_load_all l D aK ad cA d9 hd9 v (v 15 (ix (jc_shownEntry u n (u 21 0)))) (jc_fd v 4 url) (jc_stp v (jc_shownEntry u n (u 21 0)) b) hSv hw9 hC9 (jc_fd_ok hSv 4 (jc_ub h4))) wy_J_47 ⟨by decide, rfl, rfl⟩ ⟨rfl, rfl, by simp only [jr]; omega, by simp only [jr]; omega⟩ rfl hl.1 rfl (by simp [vc_int, vc_ref, vc_long, jv_cat]) ⟨Nat.zero_le _, Nat.zero_le _⟩ d_J_navigate_163 (fun r u9 H locs hp hh _ _ => ?_)
                  rw [hp.2] at hh
                  refine W.eq (g2 := F0 m 166 ls [jv ad 78 (nI (js_free v 8 39 0)), .int 0, .int (jc_fd v 4 url), jv ad 118 (jc_shownEntry u n (u 21 0)), .ref (ad 0)]) (by rw [hp.1]; rfl) ?_
                  refine lv_iload hx hb d_J_navigate_166 (lv_at hl 7 rfl) ?_
                  refine jx_callV [jv ad 118 (jc_shownEntry u n (u 21 0)), .int (jc_fd v 4 url), .int 0, jv ad 78 (nI (js_free v 8 39 0)), .int b] [] hc hh (c_putEntry l D aK ad cA (jc_load d9 v (v 15 (ix (jc_shownEntry u n (u 21 0)))) (jc_fd v 4 url) (jc_stp v (jc_shownEntry u n (u 21 0)) b)) (jc_shownEntry u n (u 21 0)) (jc_fd v 4 url) 0 (nI (js_free v 8 39 0)) b (jc_load_ok d9 hd9 v (v 15 (ix (jc_shownEntry u n (u 21 0)))) (jc_fd v 4 url) (jc_stp v (jc_shownEntry u n (u 21 0)) b) hSv hw9 hC9 (jc_fd_ok hSv 4 (jc_ub h4))).1 (jc_se_ex hS h23) ⟨_, js_f39, rfl⟩) wy_J_124 ⟨by decide, rfl, rfl⟩ (by decide) rfl hl.1 rfl (by decide) ⟨Nat.zero_le _, Nat.zero_le _⟩ d_J_navigate_168 (fun r u9 H locs hp hh _ _ => ?_)
                  rw [hp.2] at hh
                  refine W.eq (g2 := F0 m 171 ls []) rfl ?_
                  refine lv_aload_n hx hb d_J_navigate_171 rfl (lv_at hl 2 rfl) ?_
                  refine jg_J hc hh 5 (by decide) rfl wf_J_96 d_J_navigate_172 ?_
                  exact jx_iret (r := ((jc_putEntry (jc_load d9 v (v 15 (ix (jc_shownEntry u n (u 21 0)))) (jc_fd v 4 url) (jc_stp v (jc_shownEntry u n (u 21 0)) b)) (jc_shownEntry u n (u 21 0)) (jc_fd v 4 url) 0 (nI (js_free v 8 39 0)) b) 21 0)) hc hh hQ hlk hr rfl rfl ⟨by rw [hv]; simp [jc_nav, jc_nv2, h79, jc_ld_eq hw9 hd9], by rw [hv]; simp [jc_nav, jc_nv2, h79, jc_ld_eq hw9 hd9]⟩ d_J_navigate_175
                have e4 : (jc_stp v (jc_shownEntry u n (u 21 0)) b) = ((v 21 0) + 1) := by first | (simp [jc_stp, h79, h121]; done) | (simp [jc_stp, eq_true h79, h121]; done)
                refine W.eq (g2 := F0 m 138 ls [.int (jc_stp v (jc_shownEntry u n (u 21 0)) b)]) (by first | (rw [e4]; done) | (rw [e4]; rfl)) ?_
                refine J138 _ ?_
                exact lv_sub hl [0, 1, 2, 3, 4, 5] rfl
              refine lv_iload_n hx hb d_J_navigate_82 rfl (lv_at hl 2 rfl) ?_
              refine jv_aload hx hb d_J_navigate_83 (lv_at hl 4 rfl) ?_
              refine jgx_E hc hh (jc_se_ex hS h23) 3 (by decide) rfl wf_J_103 d_J_navigate_85 ?_
              refine lv_icmp_eq (tgt := 101) hx hb d_J_navigate_88 rfl (fun h88 => ?_) (fun h88 => ?_)
              ·
                have J101 : ∀ (w : js_S) (H : Heap) (locs : List Loc) (ls : Array Slot), (jc_Sh w) → (∃ i, i < 40 ∧ w 19 (ix (jc_shownEntry u n (u 21 0))) = nI i) → (jc_nav v (jc_shownEntry u n (u 21 0)) url b = jc_nv1 w (jc_shownEntry u n (u 21 0)) url b) → jx_H D 158 ad (jc_cell ad aK cA w) A s.heap H locs → lv_has ls 8 [(0, .ref (ad 0)), (1, .int n), (2, .int url), (3, .int rep), (4, jv ad 118 (jc_shownEntry u n (u 21 0))), (5, .int b)] → W p l e (jr 13) s m args below meth c H locs 0 0 Q (F0 m 101 ls []) := by
                  intro w H locs ls hSw hdw hw hh hl
                  refine lv_aload_n hx hb d_J_navigate_101 rfl (lv_at hl 0 rfl) ?_
                  refine jv_aload hx hb d_J_navigate_102 (lv_at hl 4 rfl) ?_
                  refine lv_iload_n hx hb d_J_navigate_104 rfl (lv_at hl 2 rfl) ?_
                  refine lv_iconst (v := 0) hx hb d_J_navigate_105 (by decide) ?_
                  refine jv_aload hx hb d_J_navigate_106 (lv_at hl 4 rfl) ?_
                  refine jgx_E hc hh (jc_se_ex hS h23) 5 (by decide) rfl wf_J_120 d_J_navigate_108 ?_
                  refine lv_iload hx hb d_J_navigate_111 (lv_at hl 5 rfl) ?_
                  refine jx_callV [jv ad 118 (jc_shownEntry u n (u 21 0)), .int url, .int 0, jv ad 78 (w 19 (ix (jc_shownEntry u n (u 21 0)))), .int b] [] hc hh (c_putEntry l D aK ad cA w (jc_shownEntry u n (u 21 0)) url 0 (w 19 (ix (jc_shownEntry u n (u 21 0)))) b hSw (jc_se_ex hS h23) hdw) wy_J_124 ⟨by decide, rfl, rfl⟩ (by decide) rfl hl.1 rfl (by decide) ⟨Nat.zero_le _, Nat.zero_le _⟩ d_J_navigate_113 (fun r u9 H locs hp hh _ _ => ?_)
                  rw [hp.2] at hh
                  refine W.eq (g2 := F0 m 116 ls []) rfl ?_
                  refine lv_goto (tgt := 171) hx hb d_J_navigate_116 rfl ?_
                  refine lv_aload_n hx hb d_J_navigate_171 rfl (lv_at hl 0 rfl) ?_
                  refine jg_J hc hh 5 (by decide) rfl wf_J_96 d_J_navigate_172 ?_
                  exact jx_iret (r := ((jc_putEntry w (jc_shownEntry u n (u 21 0)) url 0 (w 19 (ix (jc_shownEntry u n (u 21 0)))) b) 21 0)) hc hh hQ hlk hr rfl rfl ⟨by rw [hv, hw]; rfl, by rw [hv, hw]; rfl⟩ d_J_navigate_175
                refine J101 v _ _ _ hSv hd0 (by unfold jc_nav; rw [if_neg h79, if_pos h88]) ?_ ?_
                ·
                  exact hh
                exact lv_sub hl [0, 1, 2, 3, 4, 5] rfl
              refine lv_aload_n hx hb d_J_navigate_91 rfl (lv_at hl 0 rfl) ?_
              refine lv_dup hx hb d_J_navigate_92 rfl ?_
              refine jg_J hc hh 7 (by decide) rfl wf_J_117 d_J_navigate_93 ?_
              refine lv_iconst (v := 1) hx hb d_J_navigate_96 (by decide) ?_
              refine lv_iadd hx hb d_J_navigate_97 ?_
              refine jp_23 hc hh wf_J_117 d_J_navigate_98 (fun H locs hh => ?_)
              have J101 : ∀ (w : js_S) (H : Heap) (locs : List Loc) (ls : Array Slot), (jc_Sh w) → (∃ i, i < 40 ∧ w 19 (ix (jc_shownEntry u n (u 21 0))) = nI i) → (jc_nav v (jc_shownEntry u n (u 21 0)) url b = jc_nv1 w (jc_shownEntry u n (u 21 0)) url b) → jx_H D 158 ad (jc_cell ad aK cA w) A s.heap H locs → lv_has ls 8 [(0, .ref (ad 0)), (1, .int n), (2, .int url), (3, .int rep), (4, jv ad 118 (jc_shownEntry u n (u 21 0))), (5, .int b)] → W p l e (jr 13) s m args below meth c H locs 0 0 Q (F0 m 101 ls []) := by
                intro w H locs ls hSw hdw hw hh hl
                refine lv_aload_n hx hb d_J_navigate_101 rfl (lv_at hl 0 rfl) ?_
                refine jv_aload hx hb d_J_navigate_102 (lv_at hl 4 rfl) ?_
                refine lv_iload_n hx hb d_J_navigate_104 rfl (lv_at hl 2 rfl) ?_
                refine lv_iconst (v := 0) hx hb d_J_navigate_105 (by decide) ?_
                refine jv_aload hx hb d_J_navigate_106 (lv_at hl 4 rfl) ?_
                refine jgx_E hc hh (jc_se_ex hS h23) 5 (by decide) rfl wf_J_120 d_J_navigate_108 ?_
                refine lv_iload hx hb d_J_navigate_111 (lv_at hl 5 rfl) ?_
                refine jx_callV [jv ad 118 (jc_shownEntry u n (u 21 0)), .int url, .int 0, jv ad 78 (w 19 (ix (jc_shownEntry u n (u 21 0)))), .int b] [] hc hh (c_putEntry l D aK ad cA w (jc_shownEntry u n (u 21 0)) url 0 (w 19 (ix (jc_shownEntry u n (u 21 0)))) b hSw (jc_se_ex hS h23) hdw) wy_J_124 ⟨by decide, rfl, rfl⟩ (by decide) rfl hl.1 rfl (by decide) ⟨Nat.zero_le _, Nat.zero_le _⟩ d_J_navigate_113 (fun r u9 H locs hp hh _ _ => ?_)
                rw [hp.2] at hh
                refine W.eq (g2 := F0 m 116 ls []) rfl ?_
                refine lv_goto (tgt := 171) hx hb d_J_navigate_116 rfl ?_
                refine lv_aload_n hx hb d_J_navigate_171 rfl (lv_at hl 0 rfl) ?_
                refine jg_J hc hh 5 (by decide) rfl wf_J_96 d_J_navigate_172 ?_
                exact jx_iret (r := ((jc_putEntry w (jc_shownEntry u n (u 21 0)) url 0 (w 19 (ix (jc_shownEntry u n (u 21 0)))) b) 21 0)) hc hh hQ hlk hr rfl rfl ⟨by rw [hv, hw]; rfl, by rw [hv, hw]; rfl⟩ d_J_navigate_175
              refine J101 (js_up v 23 0 ((v 23 0) + 1)) _ _ _ (jc_Sh_23 hSv) (by rw [js_up_f (by decide)]; exact hd0) (by unfold jc_nav; rw [if_neg h79, if_neg h88]) ?_ ?_
              ·
                exact hh
              exact lv_sub hl [0, 1, 2, 3, 4, 5] rfl
            refine J70 (jc_dropLater u) (jc_push rep url (u 17 (ix (jc_shownEntry u n (u 21 0))))) _ _ _ (jc_Sh_later hS) (jc_se_dl hS h23) ((hLo h4 h23 h55).2 h63) (by unfold jc_navigate jc_nvF; rw [if_neg h4, if_neg h23, if_pos h55, if_neg h63]) ?_ ?_
            ·
              exact hh
            exact lv_sub hl [1, 2, 3, 4, 5, 0] rfl
          refine lv_bipush (v := -5) hx hb d_J_navigate_58 (by decide) ?_
          exact jx_iret (r := (-5)) hc hh hQ hlk hr rfl rfl ⟨by rw [show jc_navigate u n url rep = (-5, u) from by unfold jc_navigate jc_nvF; rw [if_neg h4, if_neg h23, if_neg h55]], by rw [show jc_navigate u n url rep = (-5, u) from by unfold jc_navigate jc_nvF; rw [if_neg h4, if_neg h23, if_neg h55]]⟩ d_J_navigate_60
        have e5 : (jc_push rep url (u 17 (ix (jc_shownEntry u n (u 21 0))))) = 0 := by simp [jc_push, h4, h23, h30]
        refine W.eq (g2 := F0 m 47 ls [.int (jc_push rep url (u 17 (ix (jc_shownEntry u n (u 21 0)))))]) (by first | (rw [e5]; done) | (rw [e5]; rfl)) ?_
        refine J47 _ ?_
        exact lv_sub hl [1, 2, 3, 4, 0] rfl
      refine lv_iload_n hx hb d_J_navigate_33 rfl (lv_at hl 3 rfl) ?_
      refine jv_aload hx hb d_J_navigate_34 (lv_at hl 0 rfl) ?_
      refine jgx_E hc hh (jc_se_ex hS h23) 3 (by decide) rfl wf_J_103 d_J_navigate_36 ?_
      refine lv_icmp_eq (tgt := 46) hx hb d_J_navigate_39 rfl (fun h39 => ?_) (fun h39 => ?_)
      ·
        refine lv_iconst (v := 0) hx hb d_J_navigate_46 (by decide) ?_
        have J47 : ∀  (ls : Array Slot), lv_has ls 8 [(0, .ref (ad 0)), (1, .int n), (2, .int url), (3, .int rep), (4, jv ad 118 (jc_shownEntry u n (u 21 0)))] → W p l e (jr 13) s m args below meth c H locs 0 0 Q (F0 m 47 ls [.int (jc_push rep url (u 17 (ix (jc_shownEntry u n (u 21 0)))))]) := by
          intro  ls hl
          refine lv_istore (i := 5) (lv' := [(5, .int (jc_push rep url (u 17 (ix (jc_shownEntry u n (u 21 0)))))), (0, .ref (ad 0)), (1, .int n), (2, .int url), (3, .int rep), (4, jv ad 118 (jc_shownEntry u n (u 21 0)))]) hx hb d_J_navigate_47 hl (by decide) (by simp [vc_int, vc_ref, vc_long, jv_cat]) (fun ls hl => ?_)
          refine lv_aload_n hx hb d_J_navigate_49 rfl (lv_at hl 1 rfl) ?_
          refine lv_iload hx hb d_J_navigate_50 (lv_at hl 0 rfl) ?_
          refine jx_callV [.int (jc_push rep url (u 17 (ix (jc_shownEntry u n (u 21 0)))))] [] hc hh (c_isFull l D aK ad cA u (jc_push rep url (u 17 (ix (jc_shownEntry u n (u 21 0)))))) wy_J_106 ⟨by decide, rfl, rfl⟩ (by decide) rfl hl.1 rfl (by decide) ⟨Nat.zero_le _, Nat.zero_le _⟩ d_J_navigate_52 (fun r u9 H locs hp hh _ _ => ?_)
          rw [hp.2] at hh
          refine W.eq (g2 := F0 m 55 ls [.int (jc_full u (jc_push rep url (u 17 (ix (jc_shownEntry u n (u 21 0))))))]) (by rw [hp.1]; rfl) ?_
          refine lv_if_eq (tgt := 61) hx hb d_J_navigate_55 rfl (fun h55 => ?_) (fun h55 => ?_)
          ·
            refine lv_iload hx hb d_J_navigate_61 (lv_at hl 0 rfl) ?_
            refine lv_if_eq (tgt := 70) hx hb d_J_navigate_63 rfl (fun h63 => ?_) (fun h63 => ?_)
            ·
              have J70 : ∀ (v : js_S) (b : Int32) (H : Heap) (locs : List Loc) (ls : Array Slot), (jc_Sh v) → (∃ i, i < 40 ∧ v 19 (ix (jc_shownEntry u n (u 21 0))) = nI i) → (jc_Lv v (v 15 (ix (jc_shownEntry u n (u 21 0))))) → (jc_navigate u n url rep = (jc_nav v (jc_shownEntry u n (u 21 0)) url b 21 0, jc_nav v (jc_shownEntry u n (u 21 0)) url b)) → jx_H D 158 ad (jc_cell ad aK cA v) A s.heap H locs → lv_has ls 8 [(0, .ref (ad 0)), (1, .int n), (2, .int url), (3, .int rep), (4, jv ad 118 (jc_shownEntry u n (u 21 0))), (5, .int b)] → W p l e (jr 13) s m args below meth c H locs 0 0 Q (F0 m 70 ls []) := by
                intro v b H locs ls hSv hd0 hlv hv hh hl
                refine jv_aload hx hb d_J_navigate_70 (lv_at hl 4 rfl) ?_
                refine jgx_E hc hh (jc_se_ex hS h23) 3 (by decide) rfl wf_J_103 d_J_navigate_72 ?_
                refine lv_iload_n hx hb d_J_navigate_75 rfl (lv_at hl 2 rfl) ?_
                refine jx_callS [.int (v 17 (ix (jc_shownEntry u n (u 21 0)))), .int url] [] hc hh (c_isFragmentMove l D aK ad cA v (v 17 (ix (jc_shownEntry u n (u 21 0)))) url) wy_J_113 (by decide) rfl hl.1 rfl (by decide) ⟨Nat.zero_le _, Nat.zero_le _⟩ d_J_navigate_76 (fun r u9 H locs hp hh _ _ => ?_)
                rw [hp.2] at hh
                refine W.eq (g2 := F0 m 79 ls [.int (jc_isFM (v 17 (ix (jc_shownEntry u n (u 21 0)))) url)]) (by rw [hp.1]; rfl) ?_
                refine lv_if_eq (tgt := 119) hx hb d_J_navigate_79 rfl (fun h79 => ?_) (fun h79 => ?_)
                ·
                  refine lv_iload hx hb d_J_navigate_119 (lv_at hl 5 rfl) ?_
                  refine lv_if_eq (tgt := 133) hx hb d_J_navigate_121 rfl (fun h121 => ?_) (fun h121 => ?_)
                  ·
                    refine jv_aload hx hb d_J_navigate_133 (lv_at hl 4 rfl) ?_
                    refine jgx_E hc hh (jc_se_ex hS h23) 2 (by decide) rfl wf_J_128 d_J_navigate_135 ?_
                    have J138 : ∀  (ls : Array Slot), lv_has ls 8 [(0, .ref (ad 0)), (1, .int n), (2, .int url), (3, .int rep), (4, jv ad 118 (jc_shownEntry u n (u 21 0))), (5, .int b)] → W p l e (jr 13) s m args below meth c H locs 0 0 Q (F0 m 138 ls [.int (jc_stp v (jc_shownEntry u n (u 21 0)) b)]) := by
                      intro  ls hl
                      refine lv_istore (i := 6) (lv' := [(6, .int (jc_stp v (jc_shownEntry u n (u 21 0)) b)), (0, .ref (ad 0)), (1, .int n), (2, .int url), (3, .int rep), (4, jv ad 118 (jc_shownEntry u n (u 21 0))), (5, .int b)]) hx hb d_J_navigate_138 hl (by decide) rfl (fun ls hl => ?_)
                      refine lv_aload_n hx hb d_J_navigate_140 rfl (lv_at hl 1 rfl) ?_
                      refine lv_iload_n hx hb d_J_navigate_141 rfl (lv_at hl 3 rfl) ?_
                      refine jx_callV [.int url] [] hc hh (c_followDetours l D aK ad cA v url hSv (jc_ub h4)) wy_J_131 ⟨by decide, rfl, rfl⟩ (by decide) rfl hl.1 rfl (by decide) ⟨Nat.zero_le _, Nat.zero_le _⟩ d_J_navigate_142 (fun r u9 H locs hp hh _ _ => ?_)
                      rw [hp.2] at hh
                      refine W.eq (g2 := F0 m 145 ls [.int (jc_fd v 4 url)]) (by rw [hp.1]; rfl) ?_
                      refine lv_istore (i := 7) (lv' := [(7, .int (jc_fd v 4 url)), (6, .int (jc_stp v (jc_shownEntry u n (u 21 0)) b)), (0, .ref (ad 0)), (1, .int n), (2, .int url), (3, .int rep), (4, jv ad 118 (jc_shownEntry u n (u 21 0))), (5, .int b)]) hx hb d_J_navigate_145 hl (by decide) rfl (fun ls hl => ?_)
                      refine lv_aload_n hx hb d_J_navigate_147 rfl (lv_at hl 2 rfl) ?_
                      refine jv_aload hx hb d_J_navigate_148 (lv_at hl 6 rfl) ?_
                      refine lv_iload hx hb d_J_navigate_150 (lv_at hl 0 rfl) ?_
                      refine lv_iconst (v := 0) hx hb d_J_navigate_152 (by decide) ?_
                      refine lv_aload_n hx hb d_J_navigate_153 rfl (lv_at hl 2 rfl) ?_
                      refine jv_aload hx hb d_J_navigate_154 (lv_at hl 6 rfl) ?_
                      refine jgx_E hc hh (jc_se_ex hS h23) 1 (by decide) rfl wf_J_135 d_J_navigate_156 ?_
                      refine lv_iload hx hb d_J_navigate_159 (lv_at hl 0 rfl) ?_
                      refine lv_iload hx hb d_J_navigate_161 (lv_at hl 1 rfl) ?_
                      obtain ⟨d9, hd9, hw9, hC9⟩ := hlv
                      refine jx_callV [jv ad 38 (v 15 (ix (jc_shownEntry u n (u 21 0)))), .int (jc_fd v 4 url), .int (jc_stp v (jc_shownEntry u n (u 21 0)) b)] [.int 0, .int (jc_fd v 4 url), jv ad 118 (jc_shownEntry u n (u 21 0)), .ref (ad 0)] hc hh (c_load_all l D aK ad cA d9 hd9 v (v 15 (ix (jc_shownEntry u n (u 21 0)))) (jc_fd v 4 url) (jc_stp v (jc_shownEntry u n (u 21 0)) b) hSv hw9 hC9 (jc_fd_ok hSv 4 (jc_ub h4))) wy_J_47 ⟨by decide, rfl, rfl⟩ ⟨rfl, rfl, by simp only [jr]; omega, by simp only [jr]; omega⟩ rfl hl.1 rfl (by simp [vc_int, vc_ref, vc_long, jv_cat]) ⟨Nat.zero_le _, Nat.zero_le _⟩ d_J_navigate_163 (fun r u9 H locs hp hh _ _ => ?_)
                      rw [hp.2] at hh
                      refine W.eq (g2 := F0 m 166 ls [jv ad 78 (nI (js_free v 8 39 0)), .int 0, .int (jc_fd v 4 url), jv ad 118 (jc_shownEntry u n (u 21 0)), .ref (ad 0)]) (by rw [hp.1]; rfl) ?_
                      refine lv_iload hx hb d_J_navigate_166 (lv_at hl 7 rfl) ?_
                      refine jx_callV [jv ad 118 (jc_shownEntry u n (u 21 0)), .int (jc_fd v 4 url), .int 0, jv ad 78 (nI (js_free v 8 39 0)), .int b] [] hc hh (c_putEntry l D aK ad cA (jc_load d9 v (v 15 (ix (jc_shownEntry u n (u 21 0)))) (jc_fd v 4 url) (jc_stp v (jc_shownEntry u n (u 21 0)) b)) (jc_shownEntry u n (u 21 0)) (jc_fd v 4 url) 0 (nI (js_free v 8 39 0)) b (jc_load_ok d9 hd9 v (v 15 (ix (jc_shownEntry u n (u 21 0)))) (jc_fd v 4 url) (jc_stp v (jc_shownEntry u n (u 21 0)) b) hSv hw9 hC9 (jc_fd_ok hSv 4 (jc_ub h4))).1 (jc_se_ex hS h23) ⟨_, js_f39, rfl⟩) wy_J_124 ⟨by decide, rfl, rfl⟩ (by decide) rfl hl.1 rfl (by decide) ⟨Nat.zero_le _, Nat.zero_le _⟩ d_J_navigate_168 (fun r u9 H locs hp hh _ _ => ?_)
                      rw [hp.2] at hh
                      refine W.eq (g2 := F0 m 171 ls []) rfl ?_
                      refine lv_aload_n hx hb d_J_navigate_171 rfl (lv_at hl 2 rfl) ?_
                      refine jg_J hc hh 5 (by decide) rfl wf_J_96 d_J_navigate_172 ?_
                      exact jx_iret (r := ((jc_putEntry (jc_load d9 v (v 15 (ix (jc_shownEntry u n (u 21 0)))) (jc_fd v 4 url) (jc_stp v (jc_shownEntry u n (u 21 0)) b)) (jc_shownEntry u n (u 21 0)) (jc_fd v 4 url) 0 (nI (js_free v 8 39 0)) b) 21 0)) hc hh hQ hlk hr rfl rfl ⟨by rw [hv]; simp [jc_nav, jc_nv2, h79, jc_ld_eq hw9 hd9], by rw [hv]; simp [jc_nav, jc_nv2, h79, jc_ld_eq hw9 hd9]⟩ d_J_navigate_175
                    have e6 : (jc_stp v (jc_shownEntry u n (u 21 0)) b) = (v 16 (ix (jc_shownEntry u n (u 21 0)))) := by first | (simp [jc_stp, h79, h121]; done) | (simp [jc_stp, eq_true h79, eq_true h121]; done)
                    refine W.eq (g2 := F0 m 138 ls [.int (jc_stp v (jc_shownEntry u n (u 21 0)) b)]) (by first | (rw [e6]; done) | (rw [e6]; rfl)) ?_
                    refine J138 _ ?_
                    exact lv_sub hl [0, 1, 2, 3, 4, 5] rfl
                  refine lv_aload_n hx hb d_J_navigate_124 rfl (lv_at hl 0 rfl) ?_
                  refine jg_J hc hh 5 (by decide) rfl wf_J_96 d_J_navigate_125 ?_
                  refine lv_iconst (v := 1) hx hb d_J_navigate_128 (by decide) ?_
                  refine lv_iadd hx hb d_J_navigate_129 ?_
                  refine lv_goto (tgt := 138) hx hb d_J_navigate_130 rfl ?_
                  have J138 : ∀  (ls : Array Slot), lv_has ls 8 [(0, .ref (ad 0)), (1, .int n), (2, .int url), (3, .int rep), (4, jv ad 118 (jc_shownEntry u n (u 21 0))), (5, .int b)] → W p l e (jr 13) s m args below meth c H locs 0 0 Q (F0 m 138 ls [.int (jc_stp v (jc_shownEntry u n (u 21 0)) b)]) := by
                    intro  ls hl
                    refine lv_istore (i := 6) (lv' := [(6, .int (jc_stp v (jc_shownEntry u n (u 21 0)) b)), (0, .ref (ad 0)), (1, .int n), (2, .int url), (3, .int rep), (4, jv ad 118 (jc_shownEntry u n (u 21 0))), (5, .int b)]) hx hb d_J_navigate_138 hl (by decide) rfl (fun ls hl => ?_)
                    refine lv_aload_n hx hb d_J_navigate_140 rfl (lv_at hl 1 rfl) ?_
                    refine lv_iload_n hx hb d_J_navigate_141 rfl (lv_at hl 3 rfl) ?_
                    refine jx_callV [.int url] [] hc hh (c_followDetours l D aK ad cA v url hSv (jc_ub h4)) wy_J_131 ⟨by decide, rfl, rfl⟩ (by decide) rfl hl.1 rfl (by decide) ⟨Nat.zero_le _, Nat.zero_le _⟩ d_J_navigate_142 (fun r u9 H locs hp hh _ _ => ?_)
                    rw [hp.2] at hh
                    refine W.eq (g2 := F0 m 145 ls [.int (jc_fd v 4 url)]) (by rw [hp.1]; rfl) ?_
                    refine lv_istore (i := 7) (lv' := [(7, .int (jc_fd v 4 url)), (6, .int (jc_stp v (jc_shownEntry u n (u 21 0)) b)), (0, .ref (ad 0)), (1, .int n), (2, .int url), (3, .int rep), (4, jv ad 118 (jc_shownEntry u n (u 21 0))), (5, .int b)]) hx hb d_J_navigate_145 hl (by decide) rfl (fun ls hl => ?_)
                    refine lv_aload_n hx hb d_J_navigate_147 rfl (lv_at hl 2 rfl) ?_
                    refine jv_aload hx hb d_J_navigate_148 (lv_at hl 6 rfl) ?_
                    refine lv_iload hx hb d_J_navigate_150 (lv_at hl 0 rfl) ?_
                    refine lv_iconst (v := 0) hx hb d_J_navigate_152 (by decide) ?_
                    refine lv_aload_n hx hb d_J_navigate_153 rfl (lv_at hl 2 rfl) ?_
                    refine jv_aload hx hb d_J_navigate_154 (lv_at hl 6 rfl) ?_
                    refine jgx_E hc hh (jc_se_ex hS h23) 1 (by decide) rfl wf_J_135 d_J_navigate_156 ?_
                    refine lv_iload hx hb d_J_navigate_159 (lv_at hl 0 rfl) ?_
                    refine lv_iload hx hb d_J_navigate_161 (lv_at hl 1 rfl) ?_
                    obtain ⟨d9, hd9, hw9, hC9⟩ := hlv
                    refine jx_callV [jv ad 38 (v 15 (ix (jc_shownEntry u n (u 21 0)))), .int (jc_fd v 4 url), .int (jc_stp v (jc_shownEntry u n (u 21 0)) b)] [.int 0, .int (jc_fd v 4 url), jv ad 118 (jc_shownEntry u n (u 21 0)), .ref (ad 0)] hc hh (c_load_all l D aK ad cA d9 hd9 v (v 15 (ix (jc_shownEntry u n (u 21 0)))) (jc_fd v 4 url) (jc_stp v (jc_shownEntry u n (u 21 0)) b) hSv hw9 hC9 (jc_fd_ok hSv 4 (jc_ub h4))) wy_J_47 ⟨by decide, rfl, rfl⟩ ⟨rfl, rfl, by simp only [jr]; omega, by simp only [jr]; omega⟩ rfl hl.1 rfl (by simp [vc_int, vc_ref, vc_long, jv_cat]) ⟨Nat.zero_le _, Nat.zero_le _⟩ d_J_navigate_163 (fun r u9 H locs hp hh _ _ => ?_)
                    rw [hp.2] at hh
                    refine W.eq (g2 := F0 m 166 ls [jv ad 78 (nI (js_free v 8 39 0)), .int 0, .int (jc_fd v 4 url), jv ad 118 (jc_shownEntry u n (u 21 0)), .ref (ad 0)]) (by rw [hp.1]; rfl) ?_
                    refine lv_iload hx hb d_J_navigate_166 (lv_at hl 7 rfl) ?_
                    refine jx_callV [jv ad 118 (jc_shownEntry u n (u 21 0)), .int (jc_fd v 4 url), .int 0, jv ad 78 (nI (js_free v 8 39 0)), .int b] [] hc hh (c_putEntry l D aK ad cA (jc_load d9 v (v 15 (ix (jc_shownEntry u n (u 21 0)))) (jc_fd v 4 url) (jc_stp v (jc_shownEntry u n (u 21 0)) b)) (jc_shownEntry u n (u 21 0)) (jc_fd v 4 url) 0 (nI (js_free v 8 39 0)) b (jc_load_ok d9 hd9 v (v 15 (ix (jc_shownEntry u n (u 21 0)))) (jc_fd v 4 url) (jc_stp v (jc_shownEntry u n (u 21 0)) b) hSv hw9 hC9 (jc_fd_ok hSv 4 (jc_ub h4))).1 (jc_se_ex hS h23) ⟨_, js_f39, rfl⟩) wy_J_124 ⟨by decide, rfl, rfl⟩ (by decide) rfl hl.1 rfl (by decide) ⟨Nat.zero_le _, Nat.zero_le _⟩ d_J_navigate_168 (fun r u9 H locs hp hh _ _ => ?_)
                    rw [hp.2] at hh
                    refine W.eq (g2 := F0 m 171 ls []) rfl ?_
                    refine lv_aload_n hx hb d_J_navigate_171 rfl (lv_at hl 2 rfl) ?_
                    refine jg_J hc hh 5 (by decide) rfl wf_J_96 d_J_navigate_172 ?_
                    exact jx_iret (r := ((jc_putEntry (jc_load d9 v (v 15 (ix (jc_shownEntry u n (u 21 0)))) (jc_fd v 4 url) (jc_stp v (jc_shownEntry u n (u 21 0)) b)) (jc_shownEntry u n (u 21 0)) (jc_fd v 4 url) 0 (nI (js_free v 8 39 0)) b) 21 0)) hc hh hQ hlk hr rfl rfl ⟨by rw [hv]; simp [jc_nav, jc_nv2, h79, jc_ld_eq hw9 hd9], by rw [hv]; simp [jc_nav, jc_nv2, h79, jc_ld_eq hw9 hd9]⟩ d_J_navigate_175
                  have e7 : (jc_stp v (jc_shownEntry u n (u 21 0)) b) = ((v 21 0) + 1) := by first | (simp [jc_stp, h79, h121]; done) | (simp [jc_stp, eq_true h79, h121]; done)
                  refine W.eq (g2 := F0 m 138 ls [.int (jc_stp v (jc_shownEntry u n (u 21 0)) b)]) (by first | (rw [e7]; done) | (rw [e7]; rfl)) ?_
                  refine J138 _ ?_
                  exact lv_sub hl [0, 1, 2, 3, 4, 5] rfl
                refine lv_iload_n hx hb d_J_navigate_82 rfl (lv_at hl 2 rfl) ?_
                refine jv_aload hx hb d_J_navigate_83 (lv_at hl 4 rfl) ?_
                refine jgx_E hc hh (jc_se_ex hS h23) 3 (by decide) rfl wf_J_103 d_J_navigate_85 ?_
                refine lv_icmp_eq (tgt := 101) hx hb d_J_navigate_88 rfl (fun h88 => ?_) (fun h88 => ?_)
                ·
                  have J101 : ∀ (w : js_S) (H : Heap) (locs : List Loc) (ls : Array Slot), (jc_Sh w) → (∃ i, i < 40 ∧ w 19 (ix (jc_shownEntry u n (u 21 0))) = nI i) → (jc_nav v (jc_shownEntry u n (u 21 0)) url b = jc_nv1 w (jc_shownEntry u n (u 21 0)) url b) → jx_H D 158 ad (jc_cell ad aK cA w) A s.heap H locs → lv_has ls 8 [(0, .ref (ad 0)), (1, .int n), (2, .int url), (3, .int rep), (4, jv ad 118 (jc_shownEntry u n (u 21 0))), (5, .int b)] → W p l e (jr 13) s m args below meth c H locs 0 0 Q (F0 m 101 ls []) := by
                    intro w H locs ls hSw hdw hw hh hl
                    refine lv_aload_n hx hb d_J_navigate_101 rfl (lv_at hl 0 rfl) ?_
                    refine jv_aload hx hb d_J_navigate_102 (lv_at hl 4 rfl) ?_
                    refine lv_iload_n hx hb d_J_navigate_104 rfl (lv_at hl 2 rfl) ?_
                    refine lv_iconst (v := 0) hx hb d_J_navigate_105 (by decide) ?_
                    refine jv_aload hx hb d_J_navigate_106 (lv_at hl 4 rfl) ?_
                    refine jgx_E hc hh (jc_se_ex hS h23) 5 (by decide) rfl wf_J_120 d_J_navigate_108 ?_
                    refine lv_iload hx hb d_J_navigate_111 (lv_at hl 5 rfl) ?_
                    refine jx_callV [jv ad 118 (jc_shownEntry u n (u 21 0)), .int url, .int 0, jv ad 78 (w 19 (ix (jc_shownEntry u n (u 21 0)))), .int b] [] hc hh (c_putEntry l D aK ad cA w (jc_shownEntry u n (u 21 0)) url 0 (w 19 (ix (jc_shownEntry u n (u 21 0)))) b hSw (jc_se_ex hS h23) hdw) wy_J_124 ⟨by decide, rfl, rfl⟩ (by decide) rfl hl.1 rfl (by decide) ⟨Nat.zero_le _, Nat.zero_le _⟩ d_J_navigate_113 (fun r u9 H locs hp hh _ _ => ?_)
                    rw [hp.2] at hh
                    refine W.eq (g2 := F0 m 116 ls []) rfl ?_
                    refine lv_goto (tgt := 171) hx hb d_J_navigate_116 rfl ?_
                    refine lv_aload_n hx hb d_J_navigate_171 rfl (lv_at hl 0 rfl) ?_
                    refine jg_J hc hh 5 (by decide) rfl wf_J_96 d_J_navigate_172 ?_
                    exact jx_iret (r := ((jc_putEntry w (jc_shownEntry u n (u 21 0)) url 0 (w 19 (ix (jc_shownEntry u n (u 21 0)))) b) 21 0)) hc hh hQ hlk hr rfl rfl ⟨by rw [hv, hw]; rfl, by rw [hv, hw]; rfl⟩ d_J_navigate_175
                  refine J101 v _ _ _ hSv hd0 (by unfold jc_nav; rw [if_neg h79, if_pos h88]) ?_ ?_
                  ·
                    exact hh
                  exact lv_sub hl [0, 1, 2, 3, 4, 5] rfl
                refine lv_aload_n hx hb d_J_navigate_91 rfl (lv_at hl 0 rfl) ?_
                refine lv_dup hx hb d_J_navigate_92 rfl ?_
                refine jg_J hc hh 7 (by decide) rfl wf_J_117 d_J_navigate_93 ?_
                refine lv_iconst (v := 1) hx hb d_J_navigate_96 (by decide) ?_
                refine lv_iadd hx hb d_J_navigate_97 ?_
                refine jp_23 hc hh wf_J_117 d_J_navigate_98 (fun H locs hh => ?_)
                have J101 : ∀ (w : js_S) (H : Heap) (locs : List Loc) (ls : Array Slot), (jc_Sh w) → (∃ i, i < 40 ∧ w 19 (ix (jc_shownEntry u n (u 21 0))) = nI i) → (jc_nav v (jc_shownEntry u n (u 21 0)) url b = jc_nv1 w (jc_shownEntry u n (u 21 0)) url b) → jx_H D 158 ad (jc_cell ad aK cA w) A s.heap H locs → lv_has ls 8 [(0, .ref (ad 0)), (1, .int n), (2, .int url), (3, .int rep), (4, jv ad 118 (jc_shownEntry u n (u 21 0))), (5, .int b)] → W p l e (jr 13) s m args below meth c H locs 0 0 Q (F0 m 101 ls []) := by
                  intro w H locs ls hSw hdw hw hh hl
                  refine lv_aload_n hx hb d_J_navigate_101 rfl (lv_at hl 0 rfl) ?_
                  refine jv_aload hx hb d_J_navigate_102 (lv_at hl 4 rfl) ?_
                  refine lv_iload_n hx hb d_J_navigate_104 rfl (lv_at hl 2 rfl) ?_
                  refine lv_iconst (v := 0) hx hb d_J_navigate_105 (by decide) ?_
                  refine jv_aload hx hb d_J_navigate_106 (lv_at hl 4 rfl) ?_
                  refine jgx_E hc hh (jc_se_ex hS h23) 5 (by decide) rfl wf_J_120 d_J_navigate_108 ?_
                  refine lv_iload hx hb d_J_navigate_111 (lv_at hl 5 rfl) ?_
                  refine jx_callV [jv ad 118 (jc_shownEntry u n (u 21 0)), .int url, .int 0, jv ad 78 (w 19 (ix (jc_shownEntry u n (u 21 0)))), .int b] [] hc hh (c_putEntry l D aK ad cA w (jc_shownEntry u n (u 21 0)) url 0 (w 19 (ix (jc_shownEntry u n (u 21 0)))) b hSw (jc_se_ex hS h23) hdw) wy_J_124 ⟨by decide, rfl, rfl⟩ (by decide) rfl hl.1 rfl (by decide) ⟨Nat.zero_le _, Nat.zero_le _⟩ d_J_navigate_113 (fun r u9 H locs hp hh _ _ => ?_)
                  rw [hp.2] at hh
                  refine W.eq (g2 := F0 m 116 ls []) rfl ?_
                  refine lv_goto (tgt := 171) hx hb d_J_navigate_116 rfl ?_
                  refine lv_aload_n hx hb d_J_navigate_171 rfl (lv_at hl 0 rfl) ?_
                  refine jg_J hc hh 5 (by decide) rfl wf_J_96 d_J_navigate_172 ?_
                  exact jx_iret (r := ((jc_putEntry w (jc_shownEntry u n (u 21 0)) url 0 (w 19 (ix (jc_shownEntry u n (u 21 0)))) b) 21 0)) hc hh hQ hlk hr rfl rfl ⟨by rw [hv, hw]; rfl, by rw [hv, hw]; rfl⟩ d_J_navigate_175
                refine J101 (js_up v 23 0 ((v 23 0) + 1)) _ _ _ (jc_Sh_23 hSv) (by rw [js_up_f (by decide)]; exact hd0) (by unfold jc_nav; rw [if_neg h79, if_neg h88]) ?_ ?_
                ·
                  exact hh
                exact lv_sub hl [0, 1, 2, 3, 4, 5] rfl
              refine J70 u (jc_push rep url (u 17 (ix (jc_shownEntry u n (u 21 0))))) _ _ _ hS (jc_se_doc hS h23) ((hLo h4 h23 h55).1 h63) (by unfold jc_navigate jc_nvF; rw [if_neg h4, if_neg h23, if_pos h55, if_pos h63]) ?_ ?_
              ·
                exact hh
              exact lv_sub hl [1, 2, 3, 4, 5, 0] rfl
            refine lv_aload_n hx hb d_J_navigate_66 rfl (lv_at hl 1 rfl) ?_
            refine jx_callV [] [] hc hh (c_dropLaterEntries l D aK ad cA u hS) wy_J_110 ⟨by decide, rfl, rfl⟩ (by decide) rfl hl.1 rfl (by decide) ⟨Nat.zero_le _, Nat.zero_le _⟩ d_J_navigate_67 (fun r u9 H locs hp hh _ _ => ?_)
            rw [hp.2] at hh
            refine W.eq (g2 := F0 m 70 ls []) rfl ?_
            have J70 : ∀ (v : js_S) (b : Int32) (H : Heap) (locs : List Loc) (ls : Array Slot), (jc_Sh v) → (∃ i, i < 40 ∧ v 19 (ix (jc_shownEntry u n (u 21 0))) = nI i) → (jc_Lv v (v 15 (ix (jc_shownEntry u n (u 21 0))))) → (jc_navigate u n url rep = (jc_nav v (jc_shownEntry u n (u 21 0)) url b 21 0, jc_nav v (jc_shownEntry u n (u 21 0)) url b)) → jx_H D 158 ad (jc_cell ad aK cA v) A s.heap H locs → lv_has ls 8 [(0, .ref (ad 0)), (1, .int n), (2, .int url), (3, .int rep), (4, jv ad 118 (jc_shownEntry u n (u 21 0))), (5, .int b)] → W p l e (jr 13) s m args below meth c H locs 0 0 Q (F0 m 70 ls []) := by
              intro v b H locs ls hSv hd0 hlv hv hh hl
              refine jv_aload hx hb d_J_navigate_70 (lv_at hl 4 rfl) ?_
              refine jgx_E hc hh (jc_se_ex hS h23) 3 (by decide) rfl wf_J_103 d_J_navigate_72 ?_
              refine lv_iload_n hx hb d_J_navigate_75 rfl (lv_at hl 2 rfl) ?_
              refine jx_callS [.int (v 17 (ix (jc_shownEntry u n (u 21 0)))), .int url] [] hc hh (c_isFragmentMove l D aK ad cA v (v 17 (ix (jc_shownEntry u n (u 21 0)))) url) wy_J_113 (by decide) rfl hl.1 rfl (by decide) ⟨Nat.zero_le _, Nat.zero_le _⟩ d_J_navigate_76 (fun r u9 H locs hp hh _ _ => ?_)
              rw [hp.2] at hh
              refine W.eq (g2 := F0 m 79 ls [.int (jc_isFM (v 17 (ix (jc_shownEntry u n (u 21 0)))) url)]) (by rw [hp.1]; rfl) ?_
              refine lv_if_eq (tgt := 119) hx hb d_J_navigate_79 rfl (fun h79 => ?_) (fun h79 => ?_)
              ·
                refine lv_iload hx hb d_J_navigate_119 (lv_at hl 5 rfl) ?_
                refine lv_if_eq (tgt := 133) hx hb d_J_navigate_121 rfl (fun h121 => ?_) (fun h121 => ?_)
                ·
                  refine jv_aload hx hb d_J_navigate_133 (lv_at hl 4 rfl) ?_
                  refine jgx_E hc hh (jc_se_ex hS h23) 2 (by decide) rfl wf_J_128 d_J_navigate_135 ?_
                  have J138 : ∀  (ls : Array Slot), lv_has ls 8 [(0, .ref (ad 0)), (1, .int n), (2, .int url), (3, .int rep), (4, jv ad 118 (jc_shownEntry u n (u 21 0))), (5, .int b)] → W p l e (jr 13) s m args below meth c H locs 0 0 Q (F0 m 138 ls [.int (jc_stp v (jc_shownEntry u n (u 21 0)) b)]) := by
                    intro  ls hl
                    refine lv_istore (i := 6) (lv' := [(6, .int (jc_stp v (jc_shownEntry u n (u 21 0)) b)), (0, .ref (ad 0)), (1, .int n), (2, .int url), (3, .int rep), (4, jv ad 118 (jc_shownEntry u n (u 21 0))), (5, .int b)]) hx hb d_J_navigate_138 hl (by decide) rfl (fun ls hl => ?_)
                    refine lv_aload_n hx hb d_J_navigate_140 rfl (lv_at hl 1 rfl) ?_
                    refine lv_iload_n hx hb d_J_navigate_141 rfl (lv_at hl 3 rfl) ?_
                    refine jx_callV [.int url] [] hc hh (c_followDetours l D aK ad cA v url hSv (jc_ub h4)) wy_J_131 ⟨by decide, rfl, rfl⟩ (by decide) rfl hl.1 rfl (by decide) ⟨Nat.zero_le _, Nat.zero_le _⟩ d_J_navigate_142 (fun r u9 H locs hp hh _ _ => ?_)
                    rw [hp.2] at hh
                    refine W.eq (g2 := F0 m 145 ls [.int (jc_fd v 4 url)]) (by rw [hp.1]; rfl) ?_
                    refine lv_istore (i := 7) (lv' := [(7, .int (jc_fd v 4 url)), (6, .int (jc_stp v (jc_shownEntry u n (u 21 0)) b)), (0, .ref (ad 0)), (1, .int n), (2, .int url), (3, .int rep), (4, jv ad 118 (jc_shownEntry u n (u 21 0))), (5, .int b)]) hx hb d_J_navigate_145 hl (by decide) rfl (fun ls hl => ?_)
                    refine lv_aload_n hx hb d_J_navigate_147 rfl (lv_at hl 2 rfl) ?_
                    refine jv_aload hx hb d_J_navigate_148 (lv_at hl 6 rfl) ?_
                    refine lv_iload hx hb d_J_navigate_150 (lv_at hl 0 rfl) ?_
                    refine lv_iconst (v := 0) hx hb d_J_navigate_152 (by decide) ?_
                    refine lv_aload_n hx hb d_J_navigate_153 rfl (lv_at hl 2 rfl) ?_
                    refine jv_aload hx hb d_J_navigate_154 (lv_at hl 6 rfl) ?_
                    refine jgx_E hc hh (jc_se_ex hS h23) 1 (by decide) rfl wf_J_135 d_J_navigate_156 ?_
                    refine lv_iload hx hb d_J_navigate_159 (lv_at hl 0 rfl) ?_
                    refine lv_iload hx hb d_J_navigate_161 (lv_at hl 1 rfl) ?_
                    obtain ⟨d9, hd9, hw9, hC9⟩ := hlv
                    refine jx_callV [jv ad 38 (v 15 (ix (jc_shownEntry u n (u 21 0)))), .int (jc_fd v 4 url), .int (jc_stp v (jc_shownEntry u n (u 21 0)) b)] [.int 0, .int (jc_fd v 4 url), jv ad 118 (jc_shownEntry u n (u 21 0)), .ref (ad 0)] hc hh (c_load_all l D aK ad cA d9 hd9 v (v 15 (ix (jc_shownEntry u n (u 21 0)))) (jc_fd v 4 url) (jc_stp v (jc_shownEntry u n (u 21 0)) b) hSv hw9 hC9 (jc_fd_ok hSv 4 (jc_ub h4))) wy_J_47 ⟨by decide, rfl, rfl⟩ ⟨rfl, rfl, by simp only [jr]; omega, by simp only [jr]; omega⟩ rfl hl.1 rfl (by simp [vc_int, vc_ref, vc_long, jv_cat]) ⟨Nat.zero_le _, Nat.zero_le _⟩ d_J_navigate_163 (fun r u9 H locs hp hh _ _ => ?_)
                    rw [hp.2] at hh
                    refine W.eq (g2 := F0 m 166 ls [jv ad 78 (nI (js_free v 8 39 0)), .int 0, .int (jc_fd v 4 url), jv ad 118 (jc_shownEntry u n (u 21 0)), .ref (ad 0)]) (by rw [hp.1]; rfl) ?_
                    refine lv_iload hx hb d_J_navigate_166 (lv_at hl 7 rfl) ?_
                    refine jx_callV [jv ad 118 (jc_shownEntry u n (u 21 0)), .int (jc_fd v 4 url), .int 0, jv ad 78 (nI (js_free v 8 39 0)), .int b] [] hc hh (c_putEntry l D aK ad cA (jc_load d9 v (v 15 (ix (jc_shownEntry u n (u 21 0)))) (jc_fd v 4 url) (jc_stp v (jc_shownEntry u n (u 21 0)) b)) (jc_shownEntry u n (u 21 0)) (jc_fd v 4 url) 0 (nI (js_free v 8 39 0)) b (jc_load_ok d9 hd9 v (v 15 (ix (jc_shownEntry u n (u 21 0)))) (jc_fd v 4 url) (jc_stp v (jc_shownEntry u n (u 21 0)) b) hSv hw9 hC9 (jc_fd_ok hSv 4 (jc_ub h4))).1 (jc_se_ex hS h23) ⟨_, js_f39, rfl⟩) wy_J_124 ⟨by decide, rfl, rfl⟩ (by decide) rfl hl.1 rfl (by decide) ⟨Nat.zero_le _, Nat.zero_le _⟩ d_J_navigate_168 (fun r u9 H locs hp hh _ _ => ?_)
                    rw [hp.2] at hh
                    refine W.eq (g2 := F0 m 171 ls []) rfl ?_
                    refine lv_aload_n hx hb d_J_navigate_171 rfl (lv_at hl 2 rfl) ?_
                    refine jg_J hc hh 5 (by decide) rfl wf_J_96 d_J_navigate_172 ?_
                    exact jx_iret (r := ((jc_putEntry (jc_load d9 v (v 15 (ix (jc_shownEntry u n (u 21 0)))) (jc_fd v 4 url) (jc_stp v (jc_shownEntry u n (u 21 0)) b)) (jc_shownEntry u n (u 21 0)) (jc_fd v 4 url) 0 (nI (js_free v 8 39 0)) b) 21 0)) hc hh hQ hlk hr rfl rfl ⟨by rw [hv]; simp [jc_nav, jc_nv2, h79, jc_ld_eq hw9 hd9], by rw [hv]; simp [jc_nav, jc_nv2, h79, jc_ld_eq hw9 hd9]⟩ d_J_navigate_175
                  have e8 : (jc_stp v (jc_shownEntry u n (u 21 0)) b) = (v 16 (ix (jc_shownEntry u n (u 21 0)))) := by first | (simp [jc_stp, h79, h121]; done) | (simp [jc_stp, eq_true h79, eq_true h121]; done)
                  refine W.eq (g2 := F0 m 138 ls [.int (jc_stp v (jc_shownEntry u n (u 21 0)) b)]) (by first | (rw [e8]; done) | (rw [e8]; rfl)) ?_
                  refine J138 _ ?_
                  exact lv_sub hl [0, 1, 2, 3, 4, 5] rfl
                refine lv_aload_n hx hb d_J_navigate_124 rfl (lv_at hl 0 rfl) ?_
                refine jg_J hc hh 5 (by decide) rfl wf_J_96 d_J_navigate_125 ?_
                refine lv_iconst (v := 1) hx hb d_J_navigate_128 (by decide) ?_
                refine lv_iadd hx hb d_J_navigate_129 ?_
                refine lv_goto (tgt := 138) hx hb d_J_navigate_130 rfl ?_
                have J138 : ∀  (ls : Array Slot), lv_has ls 8 [(0, .ref (ad 0)), (1, .int n), (2, .int url), (3, .int rep), (4, jv ad 118 (jc_shownEntry u n (u 21 0))), (5, .int b)] → W p l e (jr 13) s m args below meth c H locs 0 0 Q (F0 m 138 ls [.int (jc_stp v (jc_shownEntry u n (u 21 0)) b)]) := by
                  intro  ls hl
                  refine lv_istore (i := 6) (lv' := [(6, .int (jc_stp v (jc_shownEntry u n (u 21 0)) b)), (0, .ref (ad 0)), (1, .int n), (2, .int url), (3, .int rep), (4, jv ad 118 (jc_shownEntry u n (u 21 0))), (5, .int b)]) hx hb d_J_navigate_138 hl (by decide) rfl (fun ls hl => ?_)
                  refine lv_aload_n hx hb d_J_navigate_140 rfl (lv_at hl 1 rfl) ?_
                  refine lv_iload_n hx hb d_J_navigate_141 rfl (lv_at hl 3 rfl) ?_
                  refine jx_callV [.int url] [] hc hh (c_followDetours l D aK ad cA v url hSv (jc_ub h4)) wy_J_131 ⟨by decide, rfl, rfl⟩ (by decide) rfl hl.1 rfl (by decide) ⟨Nat.zero_le _, Nat.zero_le _⟩ d_J_navigate_142 (fun r u9 H locs hp hh _ _ => ?_)
                  rw [hp.2] at hh
                  refine W.eq (g2 := F0 m 145 ls [.int (jc_fd v 4 url)]) (by rw [hp.1]; rfl) ?_
                  refine lv_istore (i := 7) (lv' := [(7, .int (jc_fd v 4 url)), (6, .int (jc_stp v (jc_shownEntry u n (u 21 0)) b)), (0, .ref (ad 0)), (1, .int n), (2, .int url), (3, .int rep), (4, jv ad 118 (jc_shownEntry u n (u 21 0))), (5, .int b)]) hx hb d_J_navigate_145 hl (by decide) rfl (fun ls hl => ?_)
                  refine lv_aload_n hx hb d_J_navigate_147 rfl (lv_at hl 2 rfl) ?_
                  refine jv_aload hx hb d_J_navigate_148 (lv_at hl 6 rfl) ?_
                  refine lv_iload hx hb d_J_navigate_150 (lv_at hl 0 rfl) ?_
                  refine lv_iconst (v := 0) hx hb d_J_navigate_152 (by decide) ?_
                  refine lv_aload_n hx hb d_J_navigate_153 rfl (lv_at hl 2 rfl) ?_
                  refine jv_aload hx hb d_J_navigate_154 (lv_at hl 6 rfl) ?_
                  refine jgx_E hc hh (jc_se_ex hS h23) 1 (by decide) rfl wf_J_135 d_J_navigate_156 ?_
                  refine lv_iload hx hb d_J_navigate_159 (lv_at hl 0 rfl) ?_
                  refine lv_iload hx hb d_J_navigate_161 (lv_at hl 1 rfl) ?_
                  obtain ⟨d9, hd9, hw9, hC9⟩ := hlv
                  refine jx_callV [jv ad 38 (v 15 (ix (jc_shownEntry u n (u 21 0)))), .int (jc_fd v 4 url), .int (jc_stp v (jc_shownEntry u n (u 21 0)) b)] [.int 0, .int (jc_fd v 4 url), jv ad 118 (jc_shownEntry u n (u 21 0)), .ref (ad 0)] hc hh (c_load_all l D aK ad cA d9 hd9 v (v 15 (ix (jc_shownEntry u n (u 21 0)))) (jc_fd v 4 url) (jc_stp v (jc_shownEntry u n (u 21 0)) b) hSv hw9 hC9 (jc_fd_ok hSv 4 (jc_ub h4))) wy_J_47 ⟨by decide, rfl, rfl⟩ ⟨rfl, rfl, by simp only [jr]; omega, by simp only [jr]; omega⟩ rfl hl.1 rfl (by simp [vc_int, vc_ref, vc_long, jv_cat]) ⟨Nat.zero_le _, Nat.zero_le _⟩ d_J_navigate_163 (fun r u9 H locs hp hh _ _ => ?_)
                  rw [hp.2] at hh
                  refine W.eq (g2 := F0 m 166 ls [jv ad 78 (nI (js_free v 8 39 0)), .int 0, .int (jc_fd v 4 url), jv ad 118 (jc_shownEntry u n (u 21 0)), .ref (ad 0)]) (by rw [hp.1]; rfl) ?_
                  refine lv_iload hx hb d_J_navigate_166 (lv_at hl 7 rfl) ?_
                  refine jx_callV [jv ad 118 (jc_shownEntry u n (u 21 0)), .int (jc_fd v 4 url), .int 0, jv ad 78 (nI (js_free v 8 39 0)), .int b] [] hc hh (c_putEntry l D aK ad cA (jc_load d9 v (v 15 (ix (jc_shownEntry u n (u 21 0)))) (jc_fd v 4 url) (jc_stp v (jc_shownEntry u n (u 21 0)) b)) (jc_shownEntry u n (u 21 0)) (jc_fd v 4 url) 0 (nI (js_free v 8 39 0)) b (jc_load_ok d9 hd9 v (v 15 (ix (jc_shownEntry u n (u 21 0)))) (jc_fd v 4 url) (jc_stp v (jc_shownEntry u n (u 21 0)) b) hSv hw9 hC9 (jc_fd_ok hSv 4 (jc_ub h4))).1 (jc_se_ex hS h23) ⟨_, js_f39, rfl⟩) wy_J_124 ⟨by decide, rfl, rfl⟩ (by decide) rfl hl.1 rfl (by decide) ⟨Nat.zero_le _, Nat.zero_le _⟩ d_J_navigate_168 (fun r u9 H locs hp hh _ _ => ?_)
                  rw [hp.2] at hh
                  refine W.eq (g2 := F0 m 171 ls []) rfl ?_
                  refine lv_aload_n hx hb d_J_navigate_171 rfl (lv_at hl 2 rfl) ?_
                  refine jg_J hc hh 5 (by decide) rfl wf_J_96 d_J_navigate_172 ?_
                  exact jx_iret (r := ((jc_putEntry (jc_load d9 v (v 15 (ix (jc_shownEntry u n (u 21 0)))) (jc_fd v 4 url) (jc_stp v (jc_shownEntry u n (u 21 0)) b)) (jc_shownEntry u n (u 21 0)) (jc_fd v 4 url) 0 (nI (js_free v 8 39 0)) b) 21 0)) hc hh hQ hlk hr rfl rfl ⟨by rw [hv]; simp [jc_nav, jc_nv2, h79, jc_ld_eq hw9 hd9], by rw [hv]; simp [jc_nav, jc_nv2, h79, jc_ld_eq hw9 hd9]⟩ d_J_navigate_175
                have e9 : (jc_stp v (jc_shownEntry u n (u 21 0)) b) = ((v 21 0) + 1) := by first | (simp [jc_stp, h79, h121]; done) | (simp [jc_stp, eq_true h79, h121]; done)
                refine W.eq (g2 := F0 m 138 ls [.int (jc_stp v (jc_shownEntry u n (u 21 0)) b)]) (by first | (rw [e9]; done) | (rw [e9]; rfl)) ?_
                refine J138 _ ?_
                exact lv_sub hl [0, 1, 2, 3, 4, 5] rfl
              refine lv_iload_n hx hb d_J_navigate_82 rfl (lv_at hl 2 rfl) ?_
              refine jv_aload hx hb d_J_navigate_83 (lv_at hl 4 rfl) ?_
              refine jgx_E hc hh (jc_se_ex hS h23) 3 (by decide) rfl wf_J_103 d_J_navigate_85 ?_
              refine lv_icmp_eq (tgt := 101) hx hb d_J_navigate_88 rfl (fun h88 => ?_) (fun h88 => ?_)
              ·
                have J101 : ∀ (w : js_S) (H : Heap) (locs : List Loc) (ls : Array Slot), (jc_Sh w) → (∃ i, i < 40 ∧ w 19 (ix (jc_shownEntry u n (u 21 0))) = nI i) → (jc_nav v (jc_shownEntry u n (u 21 0)) url b = jc_nv1 w (jc_shownEntry u n (u 21 0)) url b) → jx_H D 158 ad (jc_cell ad aK cA w) A s.heap H locs → lv_has ls 8 [(0, .ref (ad 0)), (1, .int n), (2, .int url), (3, .int rep), (4, jv ad 118 (jc_shownEntry u n (u 21 0))), (5, .int b)] → W p l e (jr 13) s m args below meth c H locs 0 0 Q (F0 m 101 ls []) := by
                  intro w H locs ls hSw hdw hw hh hl
                  refine lv_aload_n hx hb d_J_navigate_101 rfl (lv_at hl 0 rfl) ?_
                  refine jv_aload hx hb d_J_navigate_102 (lv_at hl 4 rfl) ?_
                  refine lv_iload_n hx hb d_J_navigate_104 rfl (lv_at hl 2 rfl) ?_
                  refine lv_iconst (v := 0) hx hb d_J_navigate_105 (by decide) ?_
                  refine jv_aload hx hb d_J_navigate_106 (lv_at hl 4 rfl) ?_
                  refine jgx_E hc hh (jc_se_ex hS h23) 5 (by decide) rfl wf_J_120 d_J_navigate_108 ?_
                  refine lv_iload hx hb d_J_navigate_111 (lv_at hl 5 rfl) ?_
                  refine jx_callV [jv ad 118 (jc_shownEntry u n (u 21 0)), .int url, .int 0, jv ad 78 (w 19 (ix (jc_shownEntry u n (u 21 0)))), .int b] [] hc hh (c_putEntry l D aK ad cA w (jc_shownEntry u n (u 21 0)) url 0 (w 19 (ix (jc_shownEntry u n (u 21 0)))) b hSw (jc_se_ex hS h23) hdw) wy_J_124 ⟨by decide, rfl, rfl⟩ (by decide) rfl hl.1 rfl (by decide) ⟨Nat.zero_le _, Nat.zero_le _⟩ d_J_navigate_113 (fun r u9 H locs hp hh _ _ => ?_)
                  rw [hp.2] at hh
                  refine W.eq (g2 := F0 m 116 ls []) rfl ?_
                  refine lv_goto (tgt := 171) hx hb d_J_navigate_116 rfl ?_
                  refine lv_aload_n hx hb d_J_navigate_171 rfl (lv_at hl 0 rfl) ?_
                  refine jg_J hc hh 5 (by decide) rfl wf_J_96 d_J_navigate_172 ?_
                  exact jx_iret (r := ((jc_putEntry w (jc_shownEntry u n (u 21 0)) url 0 (w 19 (ix (jc_shownEntry u n (u 21 0)))) b) 21 0)) hc hh hQ hlk hr rfl rfl ⟨by rw [hv, hw]; rfl, by rw [hv, hw]; rfl⟩ d_J_navigate_175
                refine J101 v _ _ _ hSv hd0 (by unfold jc_nav; rw [if_neg h79, if_pos h88]) ?_ ?_
                ·
                  exact hh
                exact lv_sub hl [0, 1, 2, 3, 4, 5] rfl
              refine lv_aload_n hx hb d_J_navigate_91 rfl (lv_at hl 0 rfl) ?_
              refine lv_dup hx hb d_J_navigate_92 rfl ?_
              refine jg_J hc hh 7 (by decide) rfl wf_J_117 d_J_navigate_93 ?_
              refine lv_iconst (v := 1) hx hb d_J_navigate_96 (by decide) ?_
              refine lv_iadd hx hb d_J_navigate_97 ?_
              refine jp_23 hc hh wf_J_117 d_J_navigate_98 (fun H locs hh => ?_)
              have J101 : ∀ (w : js_S) (H : Heap) (locs : List Loc) (ls : Array Slot), (jc_Sh w) → (∃ i, i < 40 ∧ w 19 (ix (jc_shownEntry u n (u 21 0))) = nI i) → (jc_nav v (jc_shownEntry u n (u 21 0)) url b = jc_nv1 w (jc_shownEntry u n (u 21 0)) url b) → jx_H D 158 ad (jc_cell ad aK cA w) A s.heap H locs → lv_has ls 8 [(0, .ref (ad 0)), (1, .int n), (2, .int url), (3, .int rep), (4, jv ad 118 (jc_shownEntry u n (u 21 0))), (5, .int b)] → W p l e (jr 13) s m args below meth c H locs 0 0 Q (F0 m 101 ls []) := by
                intro w H locs ls hSw hdw hw hh hl
                refine lv_aload_n hx hb d_J_navigate_101 rfl (lv_at hl 0 rfl) ?_
                refine jv_aload hx hb d_J_navigate_102 (lv_at hl 4 rfl) ?_
                refine lv_iload_n hx hb d_J_navigate_104 rfl (lv_at hl 2 rfl) ?_
                refine lv_iconst (v := 0) hx hb d_J_navigate_105 (by decide) ?_
                refine jv_aload hx hb d_J_navigate_106 (lv_at hl 4 rfl) ?_
                refine jgx_E hc hh (jc_se_ex hS h23) 5 (by decide) rfl wf_J_120 d_J_navigate_108 ?_
                refine lv_iload hx hb d_J_navigate_111 (lv_at hl 5 rfl) ?_
                refine jx_callV [jv ad 118 (jc_shownEntry u n (u 21 0)), .int url, .int 0, jv ad 78 (w 19 (ix (jc_shownEntry u n (u 21 0)))), .int b] [] hc hh (c_putEntry l D aK ad cA w (jc_shownEntry u n (u 21 0)) url 0 (w 19 (ix (jc_shownEntry u n (u 21 0)))) b hSw (jc_se_ex hS h23) hdw) wy_J_124 ⟨by decide, rfl, rfl⟩ (by decide) rfl hl.1 rfl (by decide) ⟨Nat.zero_le _, Nat.zero_le _⟩ d_J_navigate_113 (fun r u9 H locs hp hh _ _ => ?_)
                rw [hp.2] at hh
                refine W.eq (g2 := F0 m 116 ls []) rfl ?_
                refine lv_goto (tgt := 171) hx hb d_J_navigate_116 rfl ?_
                refine lv_aload_n hx hb d_J_navigate_171 rfl (lv_at hl 0 rfl) ?_
                refine jg_J hc hh 5 (by decide) rfl wf_J_96 d_J_navigate_172 ?_
                exact jx_iret (r := ((jc_putEntry w (jc_shownEntry u n (u 21 0)) url 0 (w 19 (ix (jc_shownEntry u n (u 21 0)))) b) 21 0)) hc hh hQ hlk hr rfl rfl ⟨by rw [hv, hw]; rfl, by rw [hv, hw]; rfl⟩ d_J_navigate_175
              refine J101 (js_up v 23 0 ((v 23 0) + 1)) _ _ _ (jc_Sh_23 hSv) (by rw [js_up_f (by decide)]; exact hd0) (by unfold jc_nav; rw [if_neg h79, if_neg h88]) ?_ ?_
              ·
                exact hh
              exact lv_sub hl [0, 1, 2, 3, 4, 5] rfl
            refine J70 (jc_dropLater u) (jc_push rep url (u 17 (ix (jc_shownEntry u n (u 21 0))))) _ _ _ (jc_Sh_later hS) (jc_se_dl hS h23) ((hLo h4 h23 h55).2 h63) (by unfold jc_navigate jc_nvF; rw [if_neg h4, if_neg h23, if_pos h55, if_neg h63]) ?_ ?_
            ·
              exact hh
            exact lv_sub hl [1, 2, 3, 4, 5, 0] rfl
          refine lv_bipush (v := -5) hx hb d_J_navigate_58 (by decide) ?_
          exact jx_iret (r := (-5)) hc hh hQ hlk hr rfl rfl ⟨by rw [show jc_navigate u n url rep = (-5, u) from by unfold jc_navigate jc_nvF; rw [if_neg h4, if_neg h23, if_neg h55]], by rw [show jc_navigate u n url rep = (-5, u) from by unfold jc_navigate jc_nvF; rw [if_neg h4, if_neg h23, if_neg h55]]⟩ d_J_navigate_60
        have e10 : (jc_push rep url (u 17 (ix (jc_shownEntry u n (u 21 0))))) = 0 := by first | (simp [jc_push, h4, h23, h30, h39]; done) | (simp [jc_push, h4, h23, eq_true h30, eq_true h39]; done)
        refine W.eq (g2 := F0 m 47 ls [.int (jc_push rep url (u 17 (ix (jc_shownEntry u n (u 21 0)))))]) (by first | (rw [e10]; done) | (rw [e10]; rfl)) ?_
        refine J47 _ ?_
        exact lv_sub hl [1, 2, 3, 4, 0] rfl
      refine lv_iconst (v := 1) hx hb d_J_navigate_42 (by decide) ?_
      refine lv_goto (tgt := 47) hx hb d_J_navigate_43 rfl ?_
      have J47 : ∀  (ls : Array Slot), lv_has ls 8 [(0, .ref (ad 0)), (1, .int n), (2, .int url), (3, .int rep), (4, jv ad 118 (jc_shownEntry u n (u 21 0)))] → W p l e (jr 13) s m args below meth c H locs 0 0 Q (F0 m 47 ls [.int (jc_push rep url (u 17 (ix (jc_shownEntry u n (u 21 0)))))]) := by
        intro  ls hl
        refine lv_istore (i := 5) (lv' := [(5, .int (jc_push rep url (u 17 (ix (jc_shownEntry u n (u 21 0)))))), (0, .ref (ad 0)), (1, .int n), (2, .int url), (3, .int rep), (4, jv ad 118 (jc_shownEntry u n (u 21 0)))]) hx hb d_J_navigate_47 hl (by decide) (by simp [vc_int, vc_ref, vc_long, jv_cat]) (fun ls hl => ?_)
        refine lv_aload_n hx hb d_J_navigate_49 rfl (lv_at hl 1 rfl) ?_
        refine lv_iload hx hb d_J_navigate_50 (lv_at hl 0 rfl) ?_
        refine jx_callV [.int (jc_push rep url (u 17 (ix (jc_shownEntry u n (u 21 0)))))] [] hc hh (c_isFull l D aK ad cA u (jc_push rep url (u 17 (ix (jc_shownEntry u n (u 21 0)))))) wy_J_106 ⟨by decide, rfl, rfl⟩ (by decide) rfl hl.1 rfl (by decide) ⟨Nat.zero_le _, Nat.zero_le _⟩ d_J_navigate_52 (fun r u9 H locs hp hh _ _ => ?_)
        rw [hp.2] at hh
        refine W.eq (g2 := F0 m 55 ls [.int (jc_full u (jc_push rep url (u 17 (ix (jc_shownEntry u n (u 21 0))))))]) (by rw [hp.1]; rfl) ?_
        refine lv_if_eq (tgt := 61) hx hb d_J_navigate_55 rfl (fun h55 => ?_) (fun h55 => ?_)
        ·
          refine lv_iload hx hb d_J_navigate_61 (lv_at hl 0 rfl) ?_
          refine lv_if_eq (tgt := 70) hx hb d_J_navigate_63 rfl (fun h63 => ?_) (fun h63 => ?_)
          ·
            have J70 : ∀ (v : js_S) (b : Int32) (H : Heap) (locs : List Loc) (ls : Array Slot), (jc_Sh v) → (∃ i, i < 40 ∧ v 19 (ix (jc_shownEntry u n (u 21 0))) = nI i) → (jc_Lv v (v 15 (ix (jc_shownEntry u n (u 21 0))))) → (jc_navigate u n url rep = (jc_nav v (jc_shownEntry u n (u 21 0)) url b 21 0, jc_nav v (jc_shownEntry u n (u 21 0)) url b)) → jx_H D 158 ad (jc_cell ad aK cA v) A s.heap H locs → lv_has ls 8 [(0, .ref (ad 0)), (1, .int n), (2, .int url), (3, .int rep), (4, jv ad 118 (jc_shownEntry u n (u 21 0))), (5, .int b)] → W p l e (jr 13) s m args below meth c H locs 0 0 Q (F0 m 70 ls []) := by
              intro v b H locs ls hSv hd0 hlv hv hh hl
              refine jv_aload hx hb d_J_navigate_70 (lv_at hl 4 rfl) ?_
              refine jgx_E hc hh (jc_se_ex hS h23) 3 (by decide) rfl wf_J_103 d_J_navigate_72 ?_
              refine lv_iload_n hx hb d_J_navigate_75 rfl (lv_at hl 2 rfl) ?_
              refine jx_callS [.int (v 17 (ix (jc_shownEntry u n (u 21 0)))), .int url] [] hc hh (c_isFragmentMove l D aK ad cA v (v 17 (ix (jc_shownEntry u n (u 21 0)))) url) wy_J_113 (by decide) rfl hl.1 rfl (by decide) ⟨Nat.zero_le _, Nat.zero_le _⟩ d_J_navigate_76 (fun r u9 H locs hp hh _ _ => ?_)
              rw [hp.2] at hh
              refine W.eq (g2 := F0 m 79 ls [.int (jc_isFM (v 17 (ix (jc_shownEntry u n (u 21 0)))) url)]) (by rw [hp.1]; rfl) ?_
              refine lv_if_eq (tgt := 119) hx hb d_J_navigate_79 rfl (fun h79 => ?_) (fun h79 => ?_)
              ·
                refine lv_iload hx hb d_J_navigate_119 (lv_at hl 5 rfl) ?_
                refine lv_if_eq (tgt := 133) hx hb d_J_navigate_121 rfl (fun h121 => ?_) (fun h121 => ?_)
                ·
                  refine jv_aload hx hb d_J_navigate_133 (lv_at hl 4 rfl) ?_
                  refine jgx_E hc hh (jc_se_ex hS h23) 2 (by decide) rfl wf_J_128 d_J_navigate_135 ?_
                  have J138 : ∀  (ls : Array Slot), lv_has ls 8 [(0, .ref (ad 0)), (1, .int n), (2, .int url), (3, .int rep), (4, jv ad 118 (jc_shownEntry u n (u 21 0))), (5, .int b)] → W p l e (jr 13) s m args below meth c H locs 0 0 Q (F0 m 138 ls [.int (jc_stp v (jc_shownEntry u n (u 21 0)) b)]) := by
                    intro  ls hl
                    refine lv_istore (i := 6) (lv' := [(6, .int (jc_stp v (jc_shownEntry u n (u 21 0)) b)), (0, .ref (ad 0)), (1, .int n), (2, .int url), (3, .int rep), (4, jv ad 118 (jc_shownEntry u n (u 21 0))), (5, .int b)]) hx hb d_J_navigate_138 hl (by decide) rfl (fun ls hl => ?_)
                    refine lv_aload_n hx hb d_J_navigate_140 rfl (lv_at hl 1 rfl) ?_
                    refine lv_iload_n hx hb d_J_navigate_141 rfl (lv_at hl 3 rfl) ?_
                    refine jx_callV [.int url] [] hc hh (c_followDetours l D aK ad cA v url hSv (jc_ub h4)) wy_J_131 ⟨by decide, rfl, rfl⟩ (by decide) rfl hl.1 rfl (by decide) ⟨Nat.zero_le _, Nat.zero_le _⟩ d_J_navigate_142 (fun r u9 H locs hp hh _ _ => ?_)
                    rw [hp.2] at hh
                    refine W.eq (g2 := F0 m 145 ls [.int (jc_fd v 4 url)]) (by rw [hp.1]; rfl) ?_
                    refine lv_istore (i := 7) (lv' := [(7, .int (jc_fd v 4 url)), (6, .int (jc_stp v (jc_shownEntry u n (u 21 0)) b)), (0, .ref (ad 0)), (1, .int n), (2, .int url), (3, .int rep), (4, jv ad 118 (jc_shownEntry u n (u 21 0))), (5, .int b)]) hx hb d_J_navigate_145 hl (by decide) rfl (fun ls hl => ?_)
                    refine lv_aload_n hx hb d_J_navigate_147 rfl (lv_at hl 2 rfl) ?_
                    refine jv_aload hx hb d_J_navigate_148 (lv_at hl 6 rfl) ?_
                    refine lv_iload hx hb d_J_navigate_150 (lv_at hl 0 rfl) ?_
                    refine lv_iconst (v := 0) hx hb d_J_navigate_152 (by decide) ?_
                    refine lv_aload_n hx hb d_J_navigate_153 rfl (lv_at hl 2 rfl) ?_
                    refine jv_aload hx hb d_J_navigate_154 (lv_at hl 6 rfl) ?_
                    refine jgx_E hc hh (jc_se_ex hS h23) 1 (by decide) rfl wf_J_135 d_J_navigate_156 ?_
                    refine lv_iload hx hb d_J_navigate_159 (lv_at hl 0 rfl) ?_
                    refine lv_iload hx hb d_J_navigate_161 (lv_at hl 1 rfl) ?_
                    obtain ⟨d9, hd9, hw9, hC9⟩ := hlv
                    refine jx_callV [jv ad 38 (v 15 (ix (jc_shownEntry u n (u 21 0)))), .int (jc_fd v 4 url), .int (jc_stp v (jc_shownEntry u n (u 21 0)) b)] [.int 0, .int (jc_fd v 4 url), jv ad 118 (jc_shownEntry u n (u 21 0)), .ref (ad 0)] hc hh (c_load_all l D aK ad cA d9 hd9 v (v 15 (ix (jc_shownEntry u n (u 21 0)))) (jc_fd v 4 url) (jc_stp v (jc_shownEntry u n (u 21 0)) b) hSv hw9 hC9 (jc_fd_ok hSv 4 (jc_ub h4))) wy_J_47 ⟨by decide, rfl, rfl⟩ ⟨rfl, rfl, by simp only [jr]; omega, by simp only [jr]; omega⟩ rfl hl.1 rfl (by simp [vc_int, vc_ref, vc_long, jv_cat]) ⟨Nat.zero_le _, Nat.zero_le _⟩ d_J_navigate_163 (fun r u9 H locs hp hh _ _ => ?_)
                    rw [hp.2] at hh
                    refine W.eq (g2 := F0 m 166 ls [jv ad 78 (nI (js_free v 8 39 0)), .int 0, .int (jc_fd v 4 url), jv ad 118 (jc_shownEntry u n (u 21 0)), .ref (ad 0)]) (by rw [hp.1]; rfl) ?_
                    refine lv_iload hx hb d_J_navigate_166 (lv_at hl 7 rfl) ?_
                    refine jx_callV [jv ad 118 (jc_shownEntry u n (u 21 0)), .int (jc_fd v 4 url), .int 0, jv ad 78 (nI (js_free v 8 39 0)), .int b] [] hc hh (c_putEntry l D aK ad cA (jc_load d9 v (v 15 (ix (jc_shownEntry u n (u 21 0)))) (jc_fd v 4 url) (jc_stp v (jc_shownEntry u n (u 21 0)) b)) (jc_shownEntry u n (u 21 0)) (jc_fd v 4 url) 0 (nI (js_free v 8 39 0)) b (jc_load_ok d9 hd9 v (v 15 (ix (jc_shownEntry u n (u 21 0)))) (jc_fd v 4 url) (jc_stp v (jc_shownEntry u n (u 21 0)) b) hSv hw9 hC9 (jc_fd_ok hSv 4 (jc_ub h4))).1 (jc_se_ex hS h23) ⟨_, js_f39, rfl⟩) wy_J_124 ⟨by decide, rfl, rfl⟩ (by decide) rfl hl.1 rfl (by decide) ⟨Nat.zero_le _, Nat.zero_le _⟩ d_J_navigate_168 (fun r u9 H locs hp hh _ _ => ?_)
                    rw [hp.2] at hh
                    refine W.eq (g2 := F0 m 171 ls []) rfl ?_
                    refine lv_aload_n hx hb d_J_navigate_171 rfl (lv_at hl 2 rfl) ?_
                    refine jg_J hc hh 5 (by decide) rfl wf_J_96 d_J_navigate_172 ?_
                    exact jx_iret (r := ((jc_putEntry (jc_load d9 v (v 15 (ix (jc_shownEntry u n (u 21 0)))) (jc_fd v 4 url) (jc_stp v (jc_shownEntry u n (u 21 0)) b)) (jc_shownEntry u n (u 21 0)) (jc_fd v 4 url) 0 (nI (js_free v 8 39 0)) b) 21 0)) hc hh hQ hlk hr rfl rfl ⟨by rw [hv]; simp [jc_nav, jc_nv2, h79, jc_ld_eq hw9 hd9], by rw [hv]; simp [jc_nav, jc_nv2, h79, jc_ld_eq hw9 hd9]⟩ d_J_navigate_175
                  have e11 : (jc_stp v (jc_shownEntry u n (u 21 0)) b) = (v 16 (ix (jc_shownEntry u n (u 21 0)))) := by first | (simp [jc_stp, h79, h121]; done) | (simp [jc_stp, eq_true h79, eq_true h121]; done)
                  refine W.eq (g2 := F0 m 138 ls [.int (jc_stp v (jc_shownEntry u n (u 21 0)) b)]) (by first | (rw [e11]; done) | (rw [e11]; rfl)) ?_
                  refine J138 _ ?_
                  exact lv_sub hl [0, 1, 2, 3, 4, 5] rfl
                refine lv_aload_n hx hb d_J_navigate_124 rfl (lv_at hl 0 rfl) ?_
                refine jg_J hc hh 5 (by decide) rfl wf_J_96 d_J_navigate_125 ?_
                refine lv_iconst (v := 1) hx hb d_J_navigate_128 (by decide) ?_
                refine lv_iadd hx hb d_J_navigate_129 ?_
                refine lv_goto (tgt := 138) hx hb d_J_navigate_130 rfl ?_
                have J138 : ∀  (ls : Array Slot), lv_has ls 8 [(0, .ref (ad 0)), (1, .int n), (2, .int url), (3, .int rep), (4, jv ad 118 (jc_shownEntry u n (u 21 0))), (5, .int b)] → W p l e (jr 13) s m args below meth c H locs 0 0 Q (F0 m 138 ls [.int (jc_stp v (jc_shownEntry u n (u 21 0)) b)]) := by
                  intro  ls hl
                  refine lv_istore (i := 6) (lv' := [(6, .int (jc_stp v (jc_shownEntry u n (u 21 0)) b)), (0, .ref (ad 0)), (1, .int n), (2, .int url), (3, .int rep), (4, jv ad 118 (jc_shownEntry u n (u 21 0))), (5, .int b)]) hx hb d_J_navigate_138 hl (by decide) rfl (fun ls hl => ?_)
                  refine lv_aload_n hx hb d_J_navigate_140 rfl (lv_at hl 1 rfl) ?_
                  refine lv_iload_n hx hb d_J_navigate_141 rfl (lv_at hl 3 rfl) ?_
                  refine jx_callV [.int url] [] hc hh (c_followDetours l D aK ad cA v url hSv (jc_ub h4)) wy_J_131 ⟨by decide, rfl, rfl⟩ (by decide) rfl hl.1 rfl (by decide) ⟨Nat.zero_le _, Nat.zero_le _⟩ d_J_navigate_142 (fun r u9 H locs hp hh _ _ => ?_)
                  rw [hp.2] at hh
                  refine W.eq (g2 := F0 m 145 ls [.int (jc_fd v 4 url)]) (by rw [hp.1]; rfl) ?_
                  refine lv_istore (i := 7) (lv' := [(7, .int (jc_fd v 4 url)), (6, .int (jc_stp v (jc_shownEntry u n (u 21 0)) b)), (0, .ref (ad 0)), (1, .int n), (2, .int url), (3, .int rep), (4, jv ad 118 (jc_shownEntry u n (u 21 0))), (5, .int b)]) hx hb d_J_navigate_145 hl (by decide) rfl (fun ls hl => ?_)
                  refine lv_aload_n hx hb d_J_navigate_147 rfl (lv_at hl 2 rfl) ?_
                  refine jv_aload hx hb d_J_navigate_148 (lv_at hl 6 rfl) ?_
                  refine lv_iload hx hb d_J_navigate_150 (lv_at hl 0 rfl) ?_
                  refine lv_iconst (v := 0) hx hb d_J_navigate_152 (by decide) ?_
                  refine lv_aload_n hx hb d_J_navigate_153 rfl (lv_at hl 2 rfl) ?_
                  refine jv_aload hx hb d_J_navigate_154 (lv_at hl 6 rfl) ?_
                  refine jgx_E hc hh (jc_se_ex hS h23) 1 (by decide) rfl wf_J_135 d_J_navigate_156 ?_
                  refine lv_iload hx hb d_J_navigate_159 (lv_at hl 0 rfl) ?_
                  refine lv_iload hx hb d_J_navigate_161 (lv_at hl 1 rfl) ?_
                  obtain ⟨d9, hd9, hw9, hC9⟩ := hlv
                  refine jx_callV [jv ad 38 (v 15 (ix (jc_shownEntry u n (u 21 0)))), .int (jc_fd v 4 url), .int (jc_stp v (jc_shownEntry u n (u 21 0)) b)] [.int 0, .int (jc_fd v 4 url), jv ad 118 (jc_shownEntry u n (u 21 0)), .ref (ad 0)] hc hh (c_load_all l D aK ad cA d9 hd9 v (v 15 (ix (jc_shownEntry u n (u 21 0)))) (jc_fd v 4 url) (jc_stp v (jc_shownEntry u n (u 21 0)) b) hSv hw9 hC9 (jc_fd_ok hSv 4 (jc_ub h4))) wy_J_47 ⟨by decide, rfl, rfl⟩ ⟨rfl, rfl, by simp only [jr]; omega, by simp only [jr]; omega⟩ rfl hl.1 rfl (by simp [vc_int, vc_ref, vc_long, jv_cat]) ⟨Nat.zero_le _, Nat.zero_le _⟩ d_J_navigate_163 (fun r u9 H locs hp hh _ _ => ?_)
                  rw [hp.2] at hh
                  refine W.eq (g2 := F0 m 166 ls [jv ad 78 (nI (js_free v 8 39 0)), .int 0, .int (jc_fd v 4 url), jv ad 118 (jc_shownEntry u n (u 21 0)), .ref (ad 0)]) (by rw [hp.1]; rfl) ?_
                  refine lv_iload hx hb d_J_navigate_166 (lv_at hl 7 rfl) ?_
                  refine jx_callV [jv ad 118 (jc_shownEntry u n (u 21 0)), .int (jc_fd v 4 url), .int 0, jv ad 78 (nI (js_free v 8 39 0)), .int b] [] hc hh (c_putEntry l D aK ad cA (jc_load d9 v (v 15 (ix (jc_shownEntry u n (u 21 0)))) (jc_fd v 4 url) (jc_stp v (jc_shownEntry u n (u 21 0)) b)) (jc_shownEntry u n (u 21 0)) (jc_fd v 4 url) 0 (nI (js_free v 8 39 0)) b (jc_load_ok d9 hd9 v (v 15 (ix (jc_shownEntry u n (u 21 0)))) (jc_fd v 4 url) (jc_stp v (jc_shownEntry u n (u 21 0)) b) hSv hw9 hC9 (jc_fd_ok hSv 4 (jc_ub h4))).1 (jc_se_ex hS h23) ⟨_, js_f39, rfl⟩) wy_J_124 ⟨by decide, rfl, rfl⟩ (by decide) rfl hl.1 rfl (by decide) ⟨Nat.zero_le _, Nat.zero_le _⟩ d_J_navigate_168 (fun r u9 H locs hp hh _ _ => ?_)
                  rw [hp.2] at hh
                  refine W.eq (g2 := F0 m 171 ls []) rfl ?_
                  refine lv_aload_n hx hb d_J_navigate_171 rfl (lv_at hl 2 rfl) ?_
                  refine jg_J hc hh 5 (by decide) rfl wf_J_96 d_J_navigate_172 ?_
                  exact jx_iret (r := ((jc_putEntry (jc_load d9 v (v 15 (ix (jc_shownEntry u n (u 21 0)))) (jc_fd v 4 url) (jc_stp v (jc_shownEntry u n (u 21 0)) b)) (jc_shownEntry u n (u 21 0)) (jc_fd v 4 url) 0 (nI (js_free v 8 39 0)) b) 21 0)) hc hh hQ hlk hr rfl rfl ⟨by rw [hv]; simp [jc_nav, jc_nv2, h79, jc_ld_eq hw9 hd9], by rw [hv]; simp [jc_nav, jc_nv2, h79, jc_ld_eq hw9 hd9]⟩ d_J_navigate_175
                have e12 : (jc_stp v (jc_shownEntry u n (u 21 0)) b) = ((v 21 0) + 1) := by first | (simp [jc_stp, h79, h121]; done) | (simp [jc_stp, eq_true h79, h121]; done)
                refine W.eq (g2 := F0 m 138 ls [.int (jc_stp v (jc_shownEntry u n (u 21 0)) b)]) (by first | (rw [e12]; done) | (rw [e12]; rfl)) ?_
                refine J138 _ ?_
                exact lv_sub hl [0, 1, 2, 3, 4, 5] rfl
              refine lv_iload_n hx hb d_J_navigate_82 rfl (lv_at hl 2 rfl) ?_
              refine jv_aload hx hb d_J_navigate_83 (lv_at hl 4 rfl) ?_
              refine jgx_E hc hh (jc_se_ex hS h23) 3 (by decide) rfl wf_J_103 d_J_navigate_85 ?_
              refine lv_icmp_eq (tgt := 101) hx hb d_J_navigate_88 rfl (fun h88 => ?_) (fun h88 => ?_)
              ·
                have J101 : ∀ (w : js_S) (H : Heap) (locs : List Loc) (ls : Array Slot), (jc_Sh w) → (∃ i, i < 40 ∧ w 19 (ix (jc_shownEntry u n (u 21 0))) = nI i) → (jc_nav v (jc_shownEntry u n (u 21 0)) url b = jc_nv1 w (jc_shownEntry u n (u 21 0)) url b) → jx_H D 158 ad (jc_cell ad aK cA w) A s.heap H locs → lv_has ls 8 [(0, .ref (ad 0)), (1, .int n), (2, .int url), (3, .int rep), (4, jv ad 118 (jc_shownEntry u n (u 21 0))), (5, .int b)] → W p l e (jr 13) s m args below meth c H locs 0 0 Q (F0 m 101 ls []) := by
                  intro w H locs ls hSw hdw hw hh hl
                  refine lv_aload_n hx hb d_J_navigate_101 rfl (lv_at hl 0 rfl) ?_
                  refine jv_aload hx hb d_J_navigate_102 (lv_at hl 4 rfl) ?_
                  refine lv_iload_n hx hb d_J_navigate_104 rfl (lv_at hl 2 rfl) ?_
                  refine lv_iconst (v := 0) hx hb d_J_navigate_105 (by decide) ?_
                  refine jv_aload hx hb d_J_navigate_106 (lv_at hl 4 rfl) ?_
                  refine jgx_E hc hh (jc_se_ex hS h23) 5 (by decide) rfl wf_J_120 d_J_navigate_108 ?_
                  refine lv_iload hx hb d_J_navigate_111 (lv_at hl 5 rfl) ?_
                  refine jx_callV [jv ad 118 (jc_shownEntry u n (u 21 0)), .int url, .int 0, jv ad 78 (w 19 (ix (jc_shownEntry u n (u 21 0)))), .int b] [] hc hh (c_putEntry l D aK ad cA w (jc_shownEntry u n (u 21 0)) url 0 (w 19 (ix (jc_shownEntry u n (u 21 0)))) b hSw (jc_se_ex hS h23) hdw) wy_J_124 ⟨by decide, rfl, rfl⟩ (by decide) rfl hl.1 rfl (by decide) ⟨Nat.zero_le _, Nat.zero_le _⟩ d_J_navigate_113 (fun r u9 H locs hp hh _ _ => ?_)
                  rw [hp.2] at hh
                  refine W.eq (g2 := F0 m 116 ls []) rfl ?_
                  refine lv_goto (tgt := 171) hx hb d_J_navigate_116 rfl ?_
                  refine lv_aload_n hx hb d_J_navigate_171 rfl (lv_at hl 0 rfl) ?_
                  refine jg_J hc hh 5 (by decide) rfl wf_J_96 d_J_navigate_172 ?_
                  exact jx_iret (r := ((jc_putEntry w (jc_shownEntry u n (u 21 0)) url 0 (w 19 (ix (jc_shownEntry u n (u 21 0)))) b) 21 0)) hc hh hQ hlk hr rfl rfl ⟨by rw [hv, hw]; rfl, by rw [hv, hw]; rfl⟩ d_J_navigate_175
                refine J101 v _ _ _ hSv hd0 (by unfold jc_nav; rw [if_neg h79, if_pos h88]) ?_ ?_
                ·
                  exact hh
                exact lv_sub hl [0, 1, 2, 3, 4, 5] rfl
              refine lv_aload_n hx hb d_J_navigate_91 rfl (lv_at hl 0 rfl) ?_
              refine lv_dup hx hb d_J_navigate_92 rfl ?_
              refine jg_J hc hh 7 (by decide) rfl wf_J_117 d_J_navigate_93 ?_
              refine lv_iconst (v := 1) hx hb d_J_navigate_96 (by decide) ?_
              refine lv_iadd hx hb d_J_navigate_97 ?_
              refine jp_23 hc hh wf_J_117 d_J_navigate_98 (fun H locs hh => ?_)
              have J101 : ∀ (w : js_S) (H : Heap) (locs : List Loc) (ls : Array Slot), (jc_Sh w) → (∃ i, i < 40 ∧ w 19 (ix (jc_shownEntry u n (u 21 0))) = nI i) → (jc_nav v (jc_shownEntry u n (u 21 0)) url b = jc_nv1 w (jc_shownEntry u n (u 21 0)) url b) → jx_H D 158 ad (jc_cell ad aK cA w) A s.heap H locs → lv_has ls 8 [(0, .ref (ad 0)), (1, .int n), (2, .int url), (3, .int rep), (4, jv ad 118 (jc_shownEntry u n (u 21 0))), (5, .int b)] → W p l e (jr 13) s m args below meth c H locs 0 0 Q (F0 m 101 ls []) := by
                intro w H locs ls hSw hdw hw hh hl
                refine lv_aload_n hx hb d_J_navigate_101 rfl (lv_at hl 0 rfl) ?_
                refine jv_aload hx hb d_J_navigate_102 (lv_at hl 4 rfl) ?_
                refine lv_iload_n hx hb d_J_navigate_104 rfl (lv_at hl 2 rfl) ?_
                refine lv_iconst (v := 0) hx hb d_J_navigate_105 (by decide) ?_
                refine jv_aload hx hb d_J_navigate_106 (lv_at hl 4 rfl) ?_
                refine jgx_E hc hh (jc_se_ex hS h23) 5 (by decide) rfl wf_J_120 d_J_navigate_108 ?_
                refine lv_iload hx hb d_J_navigate_111 (lv_at hl 5 rfl) ?_
                refine jx_callV [jv ad 118 (jc_shownEntry u n (u 21 0)), .int url, .int 0, jv ad 78 (w 19 (ix (jc_shownEntry u n (u 21 0)))), .int b] [] hc hh (c_putEntry l D aK ad cA w (jc_shownEntry u n (u 21 0)) url 0 (w 19 (ix (jc_shownEntry u n (u 21 0)))) b hSw (jc_se_ex hS h23) hdw) wy_J_124 ⟨by decide, rfl, rfl⟩ (by decide) rfl hl.1 rfl (by decide) ⟨Nat.zero_le _, Nat.zero_le _⟩ d_J_navigate_113 (fun r u9 H locs hp hh _ _ => ?_)
                rw [hp.2] at hh
                refine W.eq (g2 := F0 m 116 ls []) rfl ?_
                refine lv_goto (tgt := 171) hx hb d_J_navigate_116 rfl ?_
                refine lv_aload_n hx hb d_J_navigate_171 rfl (lv_at hl 0 rfl) ?_
                refine jg_J hc hh 5 (by decide) rfl wf_J_96 d_J_navigate_172 ?_
                exact jx_iret (r := ((jc_putEntry w (jc_shownEntry u n (u 21 0)) url 0 (w 19 (ix (jc_shownEntry u n (u 21 0)))) b) 21 0)) hc hh hQ hlk hr rfl rfl ⟨by rw [hv, hw]; rfl, by rw [hv, hw]; rfl⟩ d_J_navigate_175
              refine J101 (js_up v 23 0 ((v 23 0) + 1)) _ _ _ (jc_Sh_23 hSv) (by rw [js_up_f (by decide)]; exact hd0) (by unfold jc_nav; rw [if_neg h79, if_neg h88]) ?_ ?_
              ·
                exact hh
              exact lv_sub hl [0, 1, 2, 3, 4, 5] rfl
            refine J70 u (jc_push rep url (u 17 (ix (jc_shownEntry u n (u 21 0))))) _ _ _ hS (jc_se_doc hS h23) ((hLo h4 h23 h55).1 h63) (by unfold jc_navigate jc_nvF; rw [if_neg h4, if_neg h23, if_pos h55, if_pos h63]) ?_ ?_
            ·
              exact hh
            exact lv_sub hl [1, 2, 3, 4, 5, 0] rfl
          refine lv_aload_n hx hb d_J_navigate_66 rfl (lv_at hl 1 rfl) ?_
          refine jx_callV [] [] hc hh (c_dropLaterEntries l D aK ad cA u hS) wy_J_110 ⟨by decide, rfl, rfl⟩ (by decide) rfl hl.1 rfl (by decide) ⟨Nat.zero_le _, Nat.zero_le _⟩ d_J_navigate_67 (fun r u9 H locs hp hh _ _ => ?_)
          rw [hp.2] at hh
          refine W.eq (g2 := F0 m 70 ls []) rfl ?_
          have J70 : ∀ (v : js_S) (b : Int32) (H : Heap) (locs : List Loc) (ls : Array Slot), (jc_Sh v) → (∃ i, i < 40 ∧ v 19 (ix (jc_shownEntry u n (u 21 0))) = nI i) → (jc_Lv v (v 15 (ix (jc_shownEntry u n (u 21 0))))) → (jc_navigate u n url rep = (jc_nav v (jc_shownEntry u n (u 21 0)) url b 21 0, jc_nav v (jc_shownEntry u n (u 21 0)) url b)) → jx_H D 158 ad (jc_cell ad aK cA v) A s.heap H locs → lv_has ls 8 [(0, .ref (ad 0)), (1, .int n), (2, .int url), (3, .int rep), (4, jv ad 118 (jc_shownEntry u n (u 21 0))), (5, .int b)] → W p l e (jr 13) s m args below meth c H locs 0 0 Q (F0 m 70 ls []) := by
            intro v b H locs ls hSv hd0 hlv hv hh hl
            refine jv_aload hx hb d_J_navigate_70 (lv_at hl 4 rfl) ?_
            refine jgx_E hc hh (jc_se_ex hS h23) 3 (by decide) rfl wf_J_103 d_J_navigate_72 ?_
            refine lv_iload_n hx hb d_J_navigate_75 rfl (lv_at hl 2 rfl) ?_
            refine jx_callS [.int (v 17 (ix (jc_shownEntry u n (u 21 0)))), .int url] [] hc hh (c_isFragmentMove l D aK ad cA v (v 17 (ix (jc_shownEntry u n (u 21 0)))) url) wy_J_113 (by decide) rfl hl.1 rfl (by decide) ⟨Nat.zero_le _, Nat.zero_le _⟩ d_J_navigate_76 (fun r u9 H locs hp hh _ _ => ?_)
            rw [hp.2] at hh
            refine W.eq (g2 := F0 m 79 ls [.int (jc_isFM (v 17 (ix (jc_shownEntry u n (u 21 0)))) url)]) (by rw [hp.1]; rfl) ?_
            refine lv_if_eq (tgt := 119) hx hb d_J_navigate_79 rfl (fun h79 => ?_) (fun h79 => ?_)
            ·
              refine lv_iload hx hb d_J_navigate_119 (lv_at hl 5 rfl) ?_
              refine lv_if_eq (tgt := 133) hx hb d_J_navigate_121 rfl (fun h121 => ?_) (fun h121 => ?_)
              ·
                refine jv_aload hx hb d_J_navigate_133 (lv_at hl 4 rfl) ?_
                refine jgx_E hc hh (jc_se_ex hS h23) 2 (by decide) rfl wf_J_128 d_J_navigate_135 ?_
                have J138 : ∀  (ls : Array Slot), lv_has ls 8 [(0, .ref (ad 0)), (1, .int n), (2, .int url), (3, .int rep), (4, jv ad 118 (jc_shownEntry u n (u 21 0))), (5, .int b)] → W p l e (jr 13) s m args below meth c H locs 0 0 Q (F0 m 138 ls [.int (jc_stp v (jc_shownEntry u n (u 21 0)) b)]) := by
                  intro  ls hl
                  refine lv_istore (i := 6) (lv' := [(6, .int (jc_stp v (jc_shownEntry u n (u 21 0)) b)), (0, .ref (ad 0)), (1, .int n), (2, .int url), (3, .int rep), (4, jv ad 118 (jc_shownEntry u n (u 21 0))), (5, .int b)]) hx hb d_J_navigate_138 hl (by decide) rfl (fun ls hl => ?_)
                  refine lv_aload_n hx hb d_J_navigate_140 rfl (lv_at hl 1 rfl) ?_
                  refine lv_iload_n hx hb d_J_navigate_141 rfl (lv_at hl 3 rfl) ?_
                  refine jx_callV [.int url] [] hc hh (c_followDetours l D aK ad cA v url hSv (jc_ub h4)) wy_J_131 ⟨by decide, rfl, rfl⟩ (by decide) rfl hl.1 rfl (by decide) ⟨Nat.zero_le _, Nat.zero_le _⟩ d_J_navigate_142 (fun r u9 H locs hp hh _ _ => ?_)
                  rw [hp.2] at hh
                  refine W.eq (g2 := F0 m 145 ls [.int (jc_fd v 4 url)]) (by rw [hp.1]; rfl) ?_
                  refine lv_istore (i := 7) (lv' := [(7, .int (jc_fd v 4 url)), (6, .int (jc_stp v (jc_shownEntry u n (u 21 0)) b)), (0, .ref (ad 0)), (1, .int n), (2, .int url), (3, .int rep), (4, jv ad 118 (jc_shownEntry u n (u 21 0))), (5, .int b)]) hx hb d_J_navigate_145 hl (by decide) rfl (fun ls hl => ?_)
                  refine lv_aload_n hx hb d_J_navigate_147 rfl (lv_at hl 2 rfl) ?_
                  refine jv_aload hx hb d_J_navigate_148 (lv_at hl 6 rfl) ?_
                  refine lv_iload hx hb d_J_navigate_150 (lv_at hl 0 rfl) ?_
                  refine lv_iconst (v := 0) hx hb d_J_navigate_152 (by decide) ?_
                  refine lv_aload_n hx hb d_J_navigate_153 rfl (lv_at hl 2 rfl) ?_
                  refine jv_aload hx hb d_J_navigate_154 (lv_at hl 6 rfl) ?_
                  refine jgx_E hc hh (jc_se_ex hS h23) 1 (by decide) rfl wf_J_135 d_J_navigate_156 ?_
                  refine lv_iload hx hb d_J_navigate_159 (lv_at hl 0 rfl) ?_
                  refine lv_iload hx hb d_J_navigate_161 (lv_at hl 1 rfl) ?_
                  obtain ⟨d9, hd9, hw9, hC9⟩ := hlv
                  refine jx_callV [jv ad 38 (v 15 (ix (jc_shownEntry u n (u 21 0)))), .int (jc_fd v 4 url), .int (jc_stp v (jc_shownEntry u n (u 21 0)) b)] [.int 0, .int (jc_fd v 4 url), jv ad 118 (jc_shownEntry u n (u 21 0)), .ref (ad 0)] hc hh (c_load_all l D aK ad cA d9 hd9 v (v 15 (ix (jc_shownEntry u n (u 21 0)))) (jc_fd v 4 url) (jc_stp v (jc_shownEntry u n (u 21 0)) b) hSv hw9 hC9 (jc_fd_ok hSv 4 (jc_ub h4))) wy_J_47 ⟨by decide, rfl, rfl⟩ ⟨rfl, rfl, by simp only [jr]; omega, by simp only [jr]; omega⟩ rfl hl.1 rfl (by simp [vc_int, vc_ref, vc_long, jv_cat]) ⟨Nat.zero_le _, Nat.zero_le _⟩ d_J_navigate_163 (fun r u9 H locs hp hh _ _ => ?_)
                  rw [hp.2] at hh
                  refine W.eq (g2 := F0 m 166 ls [jv ad 78 (nI (js_free v 8 39 0)), .int 0, .int (jc_fd v 4 url), jv ad 118 (jc_shownEntry u n (u 21 0)), .ref (ad 0)]) (by rw [hp.1]; rfl) ?_
                  refine lv_iload hx hb d_J_navigate_166 (lv_at hl 7 rfl) ?_
                  refine jx_callV [jv ad 118 (jc_shownEntry u n (u 21 0)), .int (jc_fd v 4 url), .int 0, jv ad 78 (nI (js_free v 8 39 0)), .int b] [] hc hh (c_putEntry l D aK ad cA (jc_load d9 v (v 15 (ix (jc_shownEntry u n (u 21 0)))) (jc_fd v 4 url) (jc_stp v (jc_shownEntry u n (u 21 0)) b)) (jc_shownEntry u n (u 21 0)) (jc_fd v 4 url) 0 (nI (js_free v 8 39 0)) b (jc_load_ok d9 hd9 v (v 15 (ix (jc_shownEntry u n (u 21 0)))) (jc_fd v 4 url) (jc_stp v (jc_shownEntry u n (u 21 0)) b) hSv hw9 hC9 (jc_fd_ok hSv 4 (jc_ub h4))).1 (jc_se_ex hS h23) ⟨_, js_f39, rfl⟩) wy_J_124 ⟨by decide, rfl, rfl⟩ (by decide) rfl hl.1 rfl (by decide) ⟨Nat.zero_le _, Nat.zero_le _⟩ d_J_navigate_168 (fun r u9 H locs hp hh _ _ => ?_)
                  rw [hp.2] at hh
                  refine W.eq (g2 := F0 m 171 ls []) rfl ?_
                  refine lv_aload_n hx hb d_J_navigate_171 rfl (lv_at hl 2 rfl) ?_
                  refine jg_J hc hh 5 (by decide) rfl wf_J_96 d_J_navigate_172 ?_
                  exact jx_iret (r := ((jc_putEntry (jc_load d9 v (v 15 (ix (jc_shownEntry u n (u 21 0)))) (jc_fd v 4 url) (jc_stp v (jc_shownEntry u n (u 21 0)) b)) (jc_shownEntry u n (u 21 0)) (jc_fd v 4 url) 0 (nI (js_free v 8 39 0)) b) 21 0)) hc hh hQ hlk hr rfl rfl ⟨by rw [hv]; simp [jc_nav, jc_nv2, h79, jc_ld_eq hw9 hd9], by rw [hv]; simp [jc_nav, jc_nv2, h79, jc_ld_eq hw9 hd9]⟩ d_J_navigate_175
                have e13 : (jc_stp v (jc_shownEntry u n (u 21 0)) b) = (v 16 (ix (jc_shownEntry u n (u 21 0)))) := by first | (simp [jc_stp, h79, h121]; done) | (simp [jc_stp, eq_true h79, eq_true h121]; done)
                refine W.eq (g2 := F0 m 138 ls [.int (jc_stp v (jc_shownEntry u n (u 21 0)) b)]) (by first | (rw [e13]; done) | (rw [e13]; rfl)) ?_
                refine J138 _ ?_
                exact lv_sub hl [0, 1, 2, 3, 4, 5] rfl
              refine lv_aload_n hx hb d_J_navigate_124 rfl (lv_at hl 0 rfl) ?_
              refine jg_J hc hh 5 (by decide) rfl wf_J_96 d_J_navigate_125 ?_
              refine lv_iconst (v := 1) hx hb d_J_navigate_128 (by decide) ?_
              refine lv_iadd hx hb d_J_navigate_129 ?_
              refine lv_goto (tgt := 138) hx hb d_J_navigate_130 rfl ?_
              have J138 : ∀  (ls : Array Slot), lv_has ls 8 [(0, .ref (ad 0)), (1, .int n), (2, .int url), (3, .int rep), (4, jv ad 118 (jc_shownEntry u n (u 21 0))), (5, .int b)] → W p l e (jr 13) s m args below meth c H locs 0 0 Q (F0 m 138 ls [.int (jc_stp v (jc_shownEntry u n (u 21 0)) b)]) := by
                intro  ls hl
                refine lv_istore (i := 6) (lv' := [(6, .int (jc_stp v (jc_shownEntry u n (u 21 0)) b)), (0, .ref (ad 0)), (1, .int n), (2, .int url), (3, .int rep), (4, jv ad 118 (jc_shownEntry u n (u 21 0))), (5, .int b)]) hx hb d_J_navigate_138 hl (by decide) rfl (fun ls hl => ?_)
                refine lv_aload_n hx hb d_J_navigate_140 rfl (lv_at hl 1 rfl) ?_
                refine lv_iload_n hx hb d_J_navigate_141 rfl (lv_at hl 3 rfl) ?_
                refine jx_callV [.int url] [] hc hh (c_followDetours l D aK ad cA v url hSv (jc_ub h4)) wy_J_131 ⟨by decide, rfl, rfl⟩ (by decide) rfl hl.1 rfl (by decide) ⟨Nat.zero_le _, Nat.zero_le _⟩ d_J_navigate_142 (fun r u9 H locs hp hh _ _ => ?_)
                rw [hp.2] at hh
                refine W.eq (g2 := F0 m 145 ls [.int (jc_fd v 4 url)]) (by rw [hp.1]; rfl) ?_
                refine lv_istore (i := 7) (lv' := [(7, .int (jc_fd v 4 url)), (6, .int (jc_stp v (jc_shownEntry u n (u 21 0)) b)), (0, .ref (ad 0)), (1, .int n), (2, .int url), (3, .int rep), (4, jv ad 118 (jc_shownEntry u n (u 21 0))), (5, .int b)]) hx hb d_J_navigate_145 hl (by decide) rfl (fun ls hl => ?_)
                refine lv_aload_n hx hb d_J_navigate_147 rfl (lv_at hl 2 rfl) ?_
                refine jv_aload hx hb d_J_navigate_148 (lv_at hl 6 rfl) ?_
                refine lv_iload hx hb d_J_navigate_150 (lv_at hl 0 rfl) ?_
                refine lv_iconst (v := 0) hx hb d_J_navigate_152 (by decide) ?_
                refine lv_aload_n hx hb d_J_navigate_153 rfl (lv_at hl 2 rfl) ?_
                refine jv_aload hx hb d_J_navigate_154 (lv_at hl 6 rfl) ?_
                refine jgx_E hc hh (jc_se_ex hS h23) 1 (by decide) rfl wf_J_135 d_J_navigate_156 ?_
                refine lv_iload hx hb d_J_navigate_159 (lv_at hl 0 rfl) ?_
                refine lv_iload hx hb d_J_navigate_161 (lv_at hl 1 rfl) ?_
                obtain ⟨d9, hd9, hw9, hC9⟩ := hlv
                refine jx_callV [jv ad 38 (v 15 (ix (jc_shownEntry u n (u 21 0)))), .int (jc_fd v 4 url), .int (jc_stp v (jc_shownEntry u n (u 21 0)) b)] [.int 0, .int (jc_fd v 4 url), jv ad 118 (jc_shownEntry u n (u 21 0)), .ref (ad 0)] hc hh (c_load_all l D aK ad cA d9 hd9 v (v 15 (ix (jc_shownEntry u n (u 21 0)))) (jc_fd v 4 url) (jc_stp v (jc_shownEntry u n (u 21 0)) b) hSv hw9 hC9 (jc_fd_ok hSv 4 (jc_ub h4))) wy_J_47 ⟨by decide, rfl, rfl⟩ ⟨rfl, rfl, by simp only [jr]; omega, by simp only [jr]; omega⟩ rfl hl.1 rfl (by simp [vc_int, vc_ref, vc_long, jv_cat]) ⟨Nat.zero_le _, Nat.zero_le _⟩ d_J_navigate_163 (fun r u9 H locs hp hh _ _ => ?_)
                rw [hp.2] at hh
                refine W.eq (g2 := F0 m 166 ls [jv ad 78 (nI (js_free v 8 39 0)), .int 0, .int (jc_fd v 4 url), jv ad 118 (jc_shownEntry u n (u 21 0)), .ref (ad 0)]) (by rw [hp.1]; rfl) ?_
                refine lv_iload hx hb d_J_navigate_166 (lv_at hl 7 rfl) ?_
                refine jx_callV [jv ad 118 (jc_shownEntry u n (u 21 0)), .int (jc_fd v 4 url), .int 0, jv ad 78 (nI (js_free v 8 39 0)), .int b] [] hc hh (c_putEntry l D aK ad cA (jc_load d9 v (v 15 (ix (jc_shownEntry u n (u 21 0)))) (jc_fd v 4 url) (jc_stp v (jc_shownEntry u n (u 21 0)) b)) (jc_shownEntry u n (u 21 0)) (jc_fd v 4 url) 0 (nI (js_free v 8 39 0)) b (jc_load_ok d9 hd9 v (v 15 (ix (jc_shownEntry u n (u 21 0)))) (jc_fd v 4 url) (jc_stp v (jc_shownEntry u n (u 21 0)) b) hSv hw9 hC9 (jc_fd_ok hSv 4 (jc_ub h4))).1 (jc_se_ex hS h23) ⟨_, js_f39, rfl⟩) wy_J_124 ⟨by decide, rfl, rfl⟩ (by decide) rfl hl.1 rfl (by decide) ⟨Nat.zero_le _, Nat.zero_le _⟩ d_J_navigate_168 (fun r u9 H locs hp hh _ _ => ?_)
                rw [hp.2] at hh
                refine W.eq (g2 := F0 m 171 ls []) rfl ?_
                refine lv_aload_n hx hb d_J_navigate_171 rfl (lv_at hl 2 rfl) ?_
                refine jg_J hc hh 5 (by decide) rfl wf_J_96 d_J_navigate_172 ?_
                exact jx_iret (r := ((jc_putEntry (jc_load d9 v (v 15 (ix (jc_shownEntry u n (u 21 0)))) (jc_fd v 4 url) (jc_stp v (jc_shownEntry u n (u 21 0)) b)) (jc_shownEntry u n (u 21 0)) (jc_fd v 4 url) 0 (nI (js_free v 8 39 0)) b) 21 0)) hc hh hQ hlk hr rfl rfl ⟨by rw [hv]; simp [jc_nav, jc_nv2, h79, jc_ld_eq hw9 hd9], by rw [hv]; simp [jc_nav, jc_nv2, h79, jc_ld_eq hw9 hd9]⟩ d_J_navigate_175
              have e14 : (jc_stp v (jc_shownEntry u n (u 21 0)) b) = ((v 21 0) + 1) := by first | (simp [jc_stp, h79, h121]; done) | (simp [jc_stp, eq_true h79, h121]; done)
              refine W.eq (g2 := F0 m 138 ls [.int (jc_stp v (jc_shownEntry u n (u 21 0)) b)]) (by first | (rw [e14]; done) | (rw [e14]; rfl)) ?_
              refine J138 _ ?_
              exact lv_sub hl [0, 1, 2, 3, 4, 5] rfl
            refine lv_iload_n hx hb d_J_navigate_82 rfl (lv_at hl 2 rfl) ?_
            refine jv_aload hx hb d_J_navigate_83 (lv_at hl 4 rfl) ?_
            refine jgx_E hc hh (jc_se_ex hS h23) 3 (by decide) rfl wf_J_103 d_J_navigate_85 ?_
            refine lv_icmp_eq (tgt := 101) hx hb d_J_navigate_88 rfl (fun h88 => ?_) (fun h88 => ?_)
            ·
              have J101 : ∀ (w : js_S) (H : Heap) (locs : List Loc) (ls : Array Slot), (jc_Sh w) → (∃ i, i < 40 ∧ w 19 (ix (jc_shownEntry u n (u 21 0))) = nI i) → (jc_nav v (jc_shownEntry u n (u 21 0)) url b = jc_nv1 w (jc_shownEntry u n (u 21 0)) url b) → jx_H D 158 ad (jc_cell ad aK cA w) A s.heap H locs → lv_has ls 8 [(0, .ref (ad 0)), (1, .int n), (2, .int url), (3, .int rep), (4, jv ad 118 (jc_shownEntry u n (u 21 0))), (5, .int b)] → W p l e (jr 13) s m args below meth c H locs 0 0 Q (F0 m 101 ls []) := by
                intro w H locs ls hSw hdw hw hh hl
                refine lv_aload_n hx hb d_J_navigate_101 rfl (lv_at hl 0 rfl) ?_
                refine jv_aload hx hb d_J_navigate_102 (lv_at hl 4 rfl) ?_
                refine lv_iload_n hx hb d_J_navigate_104 rfl (lv_at hl 2 rfl) ?_
                refine lv_iconst (v := 0) hx hb d_J_navigate_105 (by decide) ?_
                refine jv_aload hx hb d_J_navigate_106 (lv_at hl 4 rfl) ?_
                refine jgx_E hc hh (jc_se_ex hS h23) 5 (by decide) rfl wf_J_120 d_J_navigate_108 ?_
                refine lv_iload hx hb d_J_navigate_111 (lv_at hl 5 rfl) ?_
                refine jx_callV [jv ad 118 (jc_shownEntry u n (u 21 0)), .int url, .int 0, jv ad 78 (w 19 (ix (jc_shownEntry u n (u 21 0)))), .int b] [] hc hh (c_putEntry l D aK ad cA w (jc_shownEntry u n (u 21 0)) url 0 (w 19 (ix (jc_shownEntry u n (u 21 0)))) b hSw (jc_se_ex hS h23) hdw) wy_J_124 ⟨by decide, rfl, rfl⟩ (by decide) rfl hl.1 rfl (by decide) ⟨Nat.zero_le _, Nat.zero_le _⟩ d_J_navigate_113 (fun r u9 H locs hp hh _ _ => ?_)
                rw [hp.2] at hh
                refine W.eq (g2 := F0 m 116 ls []) rfl ?_
                refine lv_goto (tgt := 171) hx hb d_J_navigate_116 rfl ?_
                refine lv_aload_n hx hb d_J_navigate_171 rfl (lv_at hl 0 rfl) ?_
                refine jg_J hc hh 5 (by decide) rfl wf_J_96 d_J_navigate_172 ?_
                exact jx_iret (r := ((jc_putEntry w (jc_shownEntry u n (u 21 0)) url 0 (w 19 (ix (jc_shownEntry u n (u 21 0)))) b) 21 0)) hc hh hQ hlk hr rfl rfl ⟨by rw [hv, hw]; rfl, by rw [hv, hw]; rfl⟩ d_J_navigate_175
              refine J101 v _ _ _ hSv hd0 (by unfold jc_nav; rw [if_neg h79, if_pos h88]) ?_ ?_
              ·
                exact hh
              exact lv_sub hl [0, 1, 2, 3, 4, 5] rfl
            refine lv_aload_n hx hb d_J_navigate_91 rfl (lv_at hl 0 rfl) ?_
            refine lv_dup hx hb d_J_navigate_92 rfl ?_
            refine jg_J hc hh 7 (by decide) rfl wf_J_117 d_J_navigate_93 ?_
            refine lv_iconst (v := 1) hx hb d_J_navigate_96 (by decide) ?_
            refine lv_iadd hx hb d_J_navigate_97 ?_
            refine jp_23 hc hh wf_J_117 d_J_navigate_98 (fun H locs hh => ?_)
            have J101 : ∀ (w : js_S) (H : Heap) (locs : List Loc) (ls : Array Slot), (jc_Sh w) → (∃ i, i < 40 ∧ w 19 (ix (jc_shownEntry u n (u 21 0))) = nI i) → (jc_nav v (jc_shownEntry u n (u 21 0)) url b = jc_nv1 w (jc_shownEntry u n (u 21 0)) url b) → jx_H D 158 ad (jc_cell ad aK cA w) A s.heap H locs → lv_has ls 8 [(0, .ref (ad 0)), (1, .int n), (2, .int url), (3, .int rep), (4, jv ad 118 (jc_shownEntry u n (u 21 0))), (5, .int b)] → W p l e (jr 13) s m args below meth c H locs 0 0 Q (F0 m 101 ls []) := by
              intro w H locs ls hSw hdw hw hh hl
              refine lv_aload_n hx hb d_J_navigate_101 rfl (lv_at hl 0 rfl) ?_
              refine jv_aload hx hb d_J_navigate_102 (lv_at hl 4 rfl) ?_
              refine lv_iload_n hx hb d_J_navigate_104 rfl (lv_at hl 2 rfl) ?_
              refine lv_iconst (v := 0) hx hb d_J_navigate_105 (by decide) ?_
              refine jv_aload hx hb d_J_navigate_106 (lv_at hl 4 rfl) ?_
              refine jgx_E hc hh (jc_se_ex hS h23) 5 (by decide) rfl wf_J_120 d_J_navigate_108 ?_
              refine lv_iload hx hb d_J_navigate_111 (lv_at hl 5 rfl) ?_
              refine jx_callV [jv ad 118 (jc_shownEntry u n (u 21 0)), .int url, .int 0, jv ad 78 (w 19 (ix (jc_shownEntry u n (u 21 0)))), .int b] [] hc hh (c_putEntry l D aK ad cA w (jc_shownEntry u n (u 21 0)) url 0 (w 19 (ix (jc_shownEntry u n (u 21 0)))) b hSw (jc_se_ex hS h23) hdw) wy_J_124 ⟨by decide, rfl, rfl⟩ (by decide) rfl hl.1 rfl (by decide) ⟨Nat.zero_le _, Nat.zero_le _⟩ d_J_navigate_113 (fun r u9 H locs hp hh _ _ => ?_)
              rw [hp.2] at hh
              refine W.eq (g2 := F0 m 116 ls []) rfl ?_
              refine lv_goto (tgt := 171) hx hb d_J_navigate_116 rfl ?_
              refine lv_aload_n hx hb d_J_navigate_171 rfl (lv_at hl 0 rfl) ?_
              refine jg_J hc hh 5 (by decide) rfl wf_J_96 d_J_navigate_172 ?_
              exact jx_iret (r := ((jc_putEntry w (jc_shownEntry u n (u 21 0)) url 0 (w 19 (ix (jc_shownEntry u n (u 21 0)))) b) 21 0)) hc hh hQ hlk hr rfl rfl ⟨by rw [hv, hw]; rfl, by rw [hv, hw]; rfl⟩ d_J_navigate_175
            refine J101 (js_up v 23 0 ((v 23 0) + 1)) _ _ _ (jc_Sh_23 hSv) (by rw [js_up_f (by decide)]; exact hd0) (by unfold jc_nav; rw [if_neg h79, if_neg h88]) ?_ ?_
            ·
              exact hh
            exact lv_sub hl [0, 1, 2, 3, 4, 5] rfl
          refine J70 (jc_dropLater u) (jc_push rep url (u 17 (ix (jc_shownEntry u n (u 21 0))))) _ _ _ (jc_Sh_later hS) (jc_se_dl hS h23) ((hLo h4 h23 h55).2 h63) (by unfold jc_navigate jc_nvF; rw [if_neg h4, if_neg h23, if_pos h55, if_neg h63]) ?_ ?_
          ·
            exact hh
          exact lv_sub hl [1, 2, 3, 4, 5, 0] rfl
        refine lv_bipush (v := -5) hx hb d_J_navigate_58 (by decide) ?_
        exact jx_iret (r := (-5)) hc hh hQ hlk hr rfl rfl ⟨by rw [show jc_navigate u n url rep = (-5, u) from by unfold jc_navigate jc_nvF; rw [if_neg h4, if_neg h23, if_neg h55]], by rw [show jc_navigate u n url rep = (-5, u) from by unfold jc_navigate jc_nvF; rw [if_neg h4, if_neg h23, if_neg h55]]⟩ d_J_navigate_60
      have e15 : (jc_push rep url (u 17 (ix (jc_shownEntry u n (u 21 0))))) = 1 := by first | (simp [jc_push, h4, h23, h30, h39]; done) | (simp [jc_push, h4, h23, eq_true h30, h39]; done)
      refine W.eq (g2 := F0 m 47 ls [.int (jc_push rep url (u 17 (ix (jc_shownEntry u n (u 21 0)))))]) (by first | (rw [e15]; done) | (rw [e15]; rfl)) ?_
      refine J47 _ ?_
      exact lv_sub hl [1, 2, 3, 4, 0] rfl
    refine lv_bipush (v := -4) hx hb d_J_navigate_26 (by decide) ?_
    exact jx_iret (r := (-4)) hc hh hQ hlk hr rfl rfl ⟨by first | (simp [jc_navigate, h4, h23]; done) | (simp [jc_navigate, h4, eq_true h23]; done), by first | (simp [jc_navigate, h4, h23]; done) | (simp [jc_navigate, h4, eq_true h23]; done)⟩ d_J_navigate_28
  refine lv_bipush (v := -3) hx hb d_J_navigate_7 (by decide) ?_
  exact jx_iret (r := (-3)) hc hh hQ hlk hr rfl rfl ⟨by first | (simp [jc_navigate, h4]; done) | (simp [jc_navigate, eq_true h4]; done), by first | (simp [jc_navigate, h4]; done) | (simp [jc_navigate, eq_true h4]; done)⟩ d_J_navigate_9
