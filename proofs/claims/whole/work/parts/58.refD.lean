set_option maxHeartbeats 4000000 in
set_option maxRecDepth 100000 in
theorem m_enter (l : Launch) (D : va_G) (aK ad : Nat → Nat) (cA : Nat → ClassId) (u : js_S) (n : Int32) (url : Int32) (state : Int32) (push : Int32) (d : Int32) (hS : jm_Sh u) (h_n : ∃ i, i < 48 ∧ n = nI i) (hu : jq 256 url) (hd : jq 48 d) (hn : jm_Nw u) : jx_M l y_M_enter b_M_enter 9 none (jr 6) D (jc_tys cA) aK 22 ad (jm_cell ad cA) [.ref (ad 0), .int n, .int url, .int state, .int push, .int d] u (fun _ : Unit => none) (fun r u' => r = () ∧ u' = (jm_enter u n url state push d)) := by
  refine jx_enter "JointHistoryModel" (by decide) rfl (by simp [lg_sl, vc_int, vc_ref, vc_long, jv_cat]) ?_
  intro p e s m args below meth c A Q H locs ls hQ hc hh hr hlk hl
  have hx := hc.1
  have hb := hc.2.1
  have hl : lv_has ls 9 [(0, .ref (ad 0)), (1, .int n), (2, .int url), (3, .int state), (4, .int push), (5, .int d)] := by simpa [lv_args, vc_int, vc_ref, vc_long, jv_cat] using hl
  refine lv_iload_n hx hb d_M_enter_0 rfl (lv_at hl 2 rfl) ?_
  refine lv_istore (i := 6) (lv' := [(6, .int url), (0, .ref (ad 0)), (1, .int n), (2, .int url), (3, .int state), (4, .int push), (5, .int d)]) hx hb d_M_enter_1 hl (by decide) rfl (fun ls hl => ?_)
  refine lv_iload hx hb d_M_enter_3 (lv_at hl 5 rfl) ?_
  refine lv_if_eq (tgt := 12) hx hb d_M_enter_5 rfl (fun h5 => ?_) (fun h5 => ?_)
  ·
    have J12 : ∀ (v : js_S) (H : Heap) (locs : List Loc) (ls : Array Slot), (jm_Sh v) → (jm_Nw v) → (jm_enter u n url state push d = jm_en1 v n (jm_presentOf v n) url state push d) → jx_H D 22 ad (jm_cell ad cA v) A s.heap H locs → lv_has ls 9 [(0, .ref (ad 0)), (1, .int n), (2, .int url), (3, .int state), (4, .int push), (5, .int d), (6, .int url)] → W p l e (jr 6) s m args below meth c H locs 0 0 Q (F0 m 12 ls []) := by
      intro v H locs ls hSv hnv hv hh hl
      refine lv_aload_n hx hb d_M_enter_12 rfl (lv_at hl 0 rfl) ?_
      refine lv_iload_n hx hb d_M_enter_13 rfl (lv_at hl 1 rfl) ?_
      refine jx_callV [.int n] [] hc hh (m_presentOf l D aK ad cA v n) wy_M_124 ⟨by decide, rfl, rfl⟩ (by decide) rfl hl.1 rfl (by decide) ⟨Nat.zero_le _, Nat.zero_le _⟩ d_M_enter_14 (fun r u9 H locs hp hh _ _ => ?_)
      rw [hp.2] at hh
      refine W.eq (g2 := F0 m 17 ls [.int (jm_presentOf v n)]) (by rw [hp.1]; rfl) ?_
      refine lv_istore (i := 7) (lv' := [(7, .int (jm_presentOf v n)), (0, .ref (ad 0)), (1, .int n), (2, .int url), (3, .int state), (4, .int push), (5, .int d), (6, .int url)]) hx hb d_M_enter_17 hl (by decide) rfl (fun ls hl => ?_)
      refine lv_iload hx hb d_M_enter_19 (lv_at hl 6 rfl) ?_
      refine lv_istore (i := 8) (lv' := [(8, .int d), (7, .int (jm_presentOf v n)), (0, .ref (ad 0)), (1, .int n), (2, .int url), (3, .int state), (4, .int push), (5, .int d), (6, .int url)]) hx hb d_M_enter_21 hl (by decide) rfl (fun ls hl => ?_)
      refine lv_iload hx hb d_M_enter_23 (lv_at hl 0 rfl) ?_
      refine lv_if_ge (tgt := 63) hx hb d_M_enter_25 rfl (fun h25 => ?_) (fun h25 => ?_)
      ·
        have J63 : ∀ (w : js_S) (to : Int32) (p9 : Int32) (H : Heap) (locs : List Loc) (ls : Array Slot), (jm_Sh w) → (∃ j, j < 48 ∧ p9 = nI j) → (jm_Nw w) → (jm_enter u n url state push d = jm_en2 w n (jm_presentOf v n) to state p9 push) → jx_H D 22 ad (jm_cell ad cA w) A s.heap H locs → lv_has ls 9 [(0, .ref (ad 0)), (1, .int n), (3, .int state), (4, .int push), (6, .int to), (7, .int (jm_presentOf v n)), (8, .int p9)] → W p l e (jr 6) s m args below meth c H locs 0 0 Q (F0 m 63 ls []) := by
          intro w to p9 H locs ls hSw hp9 hnw hw hh hl
          refine lv_iload hx hb d_M_enter_63 (lv_at hl 3 rfl) ?_
          refine lv_if_eq (tgt := 93) hx hb d_M_enter_65 rfl (fun h65 => ?_) (fun h65 => ?_)
          ·
            have J93 : ∀ (x : js_S) (e9 : Int32) (H : Heap) (locs : List Loc) (ls : Array Slot), (jm_Sh x) → (∃ j, j < 48 ∧ e9 = nI j) → (∃ k, k < 2 ^ 31 ∧ x 21 0 = nI k) → (jm_enter u n url state push d = jm_fin x e9 to state p9) → jx_H D 22 ad (jm_cell ad cA x) A s.heap H locs → lv_has ls 9 [(0, .ref (ad 0)), (3, .int state), (6, .int to), (7, .int e9), (8, .int p9)] → W p l e (jr 6) s m args below meth c H locs 0 0 Q (F0 m 93 ls []) := by
              intro x e9 H locs ls hSx he9 hnx hx9 hh hl
              refine lv_aload_n hx hb d_M_enter_93 rfl (lv_at hl 0 rfl) ?_
              refine jg_M hc hh 6 (by decide) rfl wf_M_29 d_M_enter_94 ?_
              refine lv_iload hx hb d_M_enter_97 (lv_at hl 3 rfl) ?_
              refine lv_iload hx hb d_M_enter_99 (lv_at hl 2 rfl) ?_
              refine jm_ist hc hh 6 (by decide) (by decide) he9 d_M_enter_101 (fun H locs hh => ?_)
              refine lv_aload_n hx hb d_M_enter_102 rfl (lv_at hl 0 rfl) ?_
              refine jg_M hc hh 7 (by decide) rfl wf_M_32 d_M_enter_103 ?_
              refine lv_iload hx hb d_M_enter_106 (lv_at hl 3 rfl) ?_
              refine lv_iload_n hx hb d_M_enter_108 rfl (lv_at hl 1 rfl) ?_
              refine jm_ist hc hh 7 (by decide) (by decide) he9 d_M_enter_109 (fun H locs hh => ?_)
              refine lv_aload_n hx hb d_M_enter_110 rfl (lv_at hl 0 rfl) ?_
              refine jg_M hc hh 8 (by decide) rfl wf_M_35 d_M_enter_111 ?_
              refine lv_iload hx hb d_M_enter_114 (lv_at hl 3 rfl) ?_
              refine lv_iload hx hb d_M_enter_116 (lv_at hl 4 rfl) ?_
              refine jm_ist hc hh 8 (by decide) (by decide) he9 d_M_enter_118 (fun H locs hh => ?_)
              refine lv_aload_n hx hb d_M_enter_119 rfl (lv_at hl 0 rfl) ?_
              refine jx_callV [] [] hc hh (m_mark l D aK ad cA (js_up (js_up (js_up x 6 (ix e9) to) 7 (ix e9) state) 8 (ix e9) p9) (jm_Sh_8 (jm_Sh_7 (jm_Sh_6 hSx)) hp9)) wy_M_82 ⟨by decide, rfl, rfl⟩ (by decide) rfl hl.1 rfl (by decide) ⟨Nat.zero_le _, Nat.zero_le _⟩ d_M_enter_120 (fun r u9 H locs hp hh _ _ => ?_)
              rw [hp.2] at hh
              refine W.eq (g2 := F0 m 123 ls []) rfl ?_
              refine lv_aload_n hx hb d_M_enter_123 rfl (lv_at hl 0 rfl) ?_
              refine jx_callV [] [] hc hh (m_settle l D aK ad cA (jm_mark (js_up (js_up (js_up x 6 (ix e9) to) 7 (ix e9) state) 8 (ix e9) p9)) (jm_Sh_mark (jm_Sh_8 (jm_Sh_7 (jm_Sh_6 hSx)) hp9)) (by rw [jm_mark_21, js_up_f (by decide), js_up_f (by decide), js_up_f (by decide)]; exact hnx)) wy_M_143 ⟨by decide, rfl, rfl⟩ (by decide) rfl hl.1 rfl (by decide) ⟨Nat.zero_le _, Nat.zero_le _⟩ d_M_enter_124 (fun r u9 H locs hp hh _ _ => ?_)
              rw [hp.2] at hh
              refine W.eq (g2 := F0 m 127 ls []) rfl ?_
              exact jx_vret (r := ()) hc hh hQ hlk hr rfl ⟨rfl, by rw [hx9]; rfl⟩ d_M_enter_127
            refine J93 w (jm_presentOf v n) _ _ _ hSw jm_pr_ex (jm_Nw_k hnw) (by rw [hw]; unfold jm_en2; rw [if_pos h65]) ?_ ?_
            ·
              exact hh
            exact lv_sub hl [0, 2, 4, 5, 6] rfl
          refine lv_aload_n hx hb d_M_enter_68 rfl (lv_at hl 0 rfl) ?_
          refine lv_dup hx hb d_M_enter_69 rfl ?_
          refine jg_M hc hh 21 (by decide) rfl wf_M_130 d_M_enter_70 ?_
          refine lv_iconst (v := 1) hx hb d_M_enter_73 (by decide) ?_
          refine lv_iadd hx hb d_M_enter_74 ?_
          refine jpm_21 hc hh wf_M_130 d_M_enter_75 (fun H locs hh => ?_)
          refine lv_aload_n hx hb d_M_enter_78 rfl (lv_at hl 0 rfl) ?_
          refine lv_iload_n hx hb d_M_enter_79 rfl (lv_at hl 1 rfl) ?_
          refine lv_aload_n hx hb d_M_enter_80 rfl (lv_at hl 0 rfl) ?_
          refine jg_M hc hh 21 (by decide) rfl wf_M_130 d_M_enter_81 ?_
          refine lv_iload hx hb d_M_enter_84 (lv_at hl 4 rfl) ?_
          refine lv_iload hx hb d_M_enter_86 (lv_at hl 6 rfl) ?_
          refine jx_callV [.int n, .int ((js_up w 21 0 ((w 21 0) + 1)) 21 0), .int to, .int p9] [] hc hh (m_write l D aK ad cA (js_up w 21 0 ((w 21 0) + 1)) n ((js_up w 21 0 ((w 21 0) + 1)) 21 0) to p9) wy_M_78 ⟨by decide, rfl, rfl⟩ (by decide) rfl hl.1 rfl (by decide) ⟨Nat.zero_le _, Nat.zero_le _⟩ d_M_enter_88 (fun r u9 H locs hp hh _ _ => ?_)
          rw [hp.2] at hh
          refine W.eq (g2 := F0 m 91 ls [.int (nI (js_free (js_up w 21 0 ((w 21 0) + 1)) 9 47 0))]) (by rw [hp.1]; rfl) ?_
          refine lv_istore (i := 7) (lv' := [(7, .int (nI (js_free (js_up w 21 0 ((w 21 0) + 1)) 9 47 0))), (0, .ref (ad 0)), (1, .int n), (3, .int state), (4, .int push), (6, .int to), (8, .int p9)]) hx hb d_M_enter_91 hl (by decide) rfl (fun ls hl => ?_)
          have J93 : ∀ (x : js_S) (e9 : Int32) (H : Heap) (locs : List Loc) (ls : Array Slot), (jm_Sh x) → (∃ j, j < 48 ∧ e9 = nI j) → (∃ k, k < 2 ^ 31 ∧ x 21 0 = nI k) → (jm_enter u n url state push d = jm_fin x e9 to state p9) → jx_H D 22 ad (jm_cell ad cA x) A s.heap H locs → lv_has ls 9 [(0, .ref (ad 0)), (3, .int state), (6, .int to), (7, .int e9), (8, .int p9)] → W p l e (jr 6) s m args below meth c H locs 0 0 Q (F0 m 93 ls []) := by
            intro x e9 H locs ls hSx he9 hnx hx9 hh hl
            refine lv_aload_n hx hb d_M_enter_93 rfl (lv_at hl 0 rfl) ?_
            refine jg_M hc hh 6 (by decide) rfl wf_M_29 d_M_enter_94 ?_
            refine lv_iload hx hb d_M_enter_97 (lv_at hl 3 rfl) ?_
            refine lv_iload hx hb d_M_enter_99 (lv_at hl 2 rfl) ?_
            refine jm_ist hc hh 6 (by decide) (by decide) he9 d_M_enter_101 (fun H locs hh => ?_)
            refine lv_aload_n hx hb d_M_enter_102 rfl (lv_at hl 0 rfl) ?_
            refine jg_M hc hh 7 (by decide) rfl wf_M_32 d_M_enter_103 ?_
            refine lv_iload hx hb d_M_enter_106 (lv_at hl 3 rfl) ?_
            refine lv_iload_n hx hb d_M_enter_108 rfl (lv_at hl 1 rfl) ?_
            refine jm_ist hc hh 7 (by decide) (by decide) he9 d_M_enter_109 (fun H locs hh => ?_)
            refine lv_aload_n hx hb d_M_enter_110 rfl (lv_at hl 0 rfl) ?_
            refine jg_M hc hh 8 (by decide) rfl wf_M_35 d_M_enter_111 ?_
            refine lv_iload hx hb d_M_enter_114 (lv_at hl 3 rfl) ?_
            refine lv_iload hx hb d_M_enter_116 (lv_at hl 4 rfl) ?_
            refine jm_ist hc hh 8 (by decide) (by decide) he9 d_M_enter_118 (fun H locs hh => ?_)
            refine lv_aload_n hx hb d_M_enter_119 rfl (lv_at hl 0 rfl) ?_
            refine jx_callV [] [] hc hh (m_mark l D aK ad cA (js_up (js_up (js_up x 6 (ix e9) to) 7 (ix e9) state) 8 (ix e9) p9) (jm_Sh_8 (jm_Sh_7 (jm_Sh_6 hSx)) hp9)) wy_M_82 ⟨by decide, rfl, rfl⟩ (by decide) rfl hl.1 rfl (by decide) ⟨Nat.zero_le _, Nat.zero_le _⟩ d_M_enter_120 (fun r u9 H locs hp hh _ _ => ?_)
            rw [hp.2] at hh
            refine W.eq (g2 := F0 m 123 ls []) rfl ?_
            refine lv_aload_n hx hb d_M_enter_123 rfl (lv_at hl 0 rfl) ?_
            refine jx_callV [] [] hc hh (m_settle l D aK ad cA (jm_mark (js_up (js_up (js_up x 6 (ix e9) to) 7 (ix e9) state) 8 (ix e9) p9)) (jm_Sh_mark (jm_Sh_8 (jm_Sh_7 (jm_Sh_6 hSx)) hp9)) (by rw [jm_mark_21, js_up_f (by decide), js_up_f (by decide), js_up_f (by decide)]; exact hnx)) wy_M_143 ⟨by decide, rfl, rfl⟩ (by decide) rfl hl.1 rfl (by decide) ⟨Nat.zero_le _, Nat.zero_le _⟩ d_M_enter_124 (fun r u9 H locs hp hh _ _ => ?_)
            rw [hp.2] at hh
            refine W.eq (g2 := F0 m 127 ls []) rfl ?_
            exact jx_vret (r := ()) hc hh hQ hlk hr rfl ⟨rfl, by rw [hx9]; rfl⟩ d_M_enter_127
          refine J93 (jm_write (js_up w 21 0 ((w 21 0) + 1)) n ((js_up w 21 0 ((w 21 0) + 1)) 21 0) to p9) (nI (js_free (js_up w 21 0 ((w 21 0) + 1)) 9 47 0)) _ _ _ (jm_Sh_wr (jm_Sh_21 hSw) h_n hp9) ⟨_, js_f47, rfl⟩ (by unfold jm_write jm_wr; rw [js_up_f (by decide), js_up_f (by decide), js_up_f (by decide), js_up_f (by decide), js_up_f (by decide), js_up_f (by decide)]; exact jm_Nw_up hnw) (by rw [hw]; unfold jm_en2 jm_en3; rw [if_neg h65]) ?_ ?_
          ·
            exact hh
          exact lv_sub hl [1, 3, 5, 0, 6] rfl
        refine J63 v url d _ _ _ hSv (jq_ge hd h25) hnv (by rw [hv]; unfold jm_en1; rw [if_pos h25]) ?_ ?_
        ·
          exact hh
        exact lv_sub hl [2, 3, 5, 6, 8, 1, 0] rfl
      refine lv_aload_n hx hb d_M_enter_28 rfl (lv_at hl 2 rfl) ?_
      refine lv_iload_n hx hb d_M_enter_29 rfl (lv_at hl 3 rfl) ?_
      refine lv_iload_n hx hb d_M_enter_30 rfl (lv_at hl 4 rfl) ?_
      refine lv_iload hx hb d_M_enter_31 (lv_at hl 6 rfl) ?_
      refine lv_if_eq (tgt := 45) hx hb d_M_enter_33 rfl (fun h33 => ?_) (fun h33 => ?_)
      ·
        refine lv_aload_n hx hb d_M_enter_45 rfl (lv_at hl 2 rfl) ?_
        refine jg_M hc hh 5 (by decide) rfl wf_M_26 d_M_enter_46 ?_
        refine lv_iload hx hb d_M_enter_49 (lv_at hl 1 rfl) ?_
        refine jm_ild hc hh 5 (by decide) (by decide) jm_pr_ex d_M_enter_51 ?_
        have J52 : ∀  (ls : Array Slot), lv_has ls 9 [(0, .ref (ad 0)), (1, .int n), (2, .int url), (3, .int state), (4, .int push), (7, .int (jm_presentOf v n))] → W p l e (jr 6) s m args below meth c H locs 0 0 Q (F0 m 52 ls [.int (jm_stp v (jm_presentOf v n) push), .int url, .int n, .ref (ad 0)]) := by
          intro  ls hl
          refine jx_callV [.int n, .int url, .int (jm_stp v (jm_presentOf v n) push)] [] hc hh (m_load l D aK ad cA v n url (jm_stp v (jm_presentOf v n) push) hSv h_n hu) wy_M_140 ⟨by decide, rfl, rfl⟩ (by decide) rfl hl.1 rfl (by decide) ⟨Nat.zero_le _, Nat.zero_le _⟩ d_M_enter_52 (fun r u9 H locs hp hh _ _ => ?_)
          rw [hp.2] at hh
          refine W.eq (g2 := F0 m 55 ls [.int (nI (js_free v 10 47 0))]) (by rw [hp.1]; rfl) ?_
          refine lv_istore (i := 8) (lv' := [(8, .int (nI (js_free v 10 47 0))), (0, .ref (ad 0)), (1, .int n), (2, .int url), (3, .int state), (4, .int push), (7, .int (jm_presentOf v n))]) hx hb d_M_enter_55 hl (by decide) rfl (fun ls hl => ?_)
          refine lv_aload_n hx hb d_M_enter_57 rfl (lv_at hl 1 rfl) ?_
          refine jg_M hc hh 25 (by decide) rfl wf_M_93 d_M_enter_58 ?_
          refine lv_istore (i := 6) (lv' := [(6, .int ((jm_load v n url (jm_stp v (jm_presentOf v n) push)) 25 0)), (8, .int (nI (js_free v 10 47 0))), (0, .ref (ad 0)), (1, .int n), (2, .int url), (3, .int state), (4, .int push), (7, .int (jm_presentOf v n))]) hx hb d_M_enter_61 hl (by decide) rfl (fun ls hl => ?_)
          have J63 : ∀ (w : js_S) (to : Int32) (p9 : Int32) (H : Heap) (locs : List Loc) (ls : Array Slot), (jm_Sh w) → (∃ j, j < 48 ∧ p9 = nI j) → (jm_Nw w) → (jm_enter u n url state push d = jm_en2 w n (jm_presentOf v n) to state p9 push) → jx_H D 22 ad (jm_cell ad cA w) A s.heap H locs → lv_has ls 9 [(0, .ref (ad 0)), (1, .int n), (3, .int state), (4, .int push), (6, .int to), (7, .int (jm_presentOf v n)), (8, .int p9)] → W p l e (jr 6) s m args below meth c H locs 0 0 Q (F0 m 63 ls []) := by
            intro w to p9 H locs ls hSw hp9 hnw hw hh hl
            refine lv_iload hx hb d_M_enter_63 (lv_at hl 3 rfl) ?_
            refine lv_if_eq (tgt := 93) hx hb d_M_enter_65 rfl (fun h65 => ?_) (fun h65 => ?_)
            ·
              have J93 : ∀ (x : js_S) (e9 : Int32) (H : Heap) (locs : List Loc) (ls : Array Slot), (jm_Sh x) → (∃ j, j < 48 ∧ e9 = nI j) → (∃ k, k < 2 ^ 31 ∧ x 21 0 = nI k) → (jm_enter u n url state push d = jm_fin x e9 to state p9) → jx_H D 22 ad (jm_cell ad cA x) A s.heap H locs → lv_has ls 9 [(0, .ref (ad 0)), (3, .int state), (6, .int to), (7, .int e9), (8, .int p9)] → W p l e (jr 6) s m args below meth c H locs 0 0 Q (F0 m 93 ls []) := by
                intro x e9 H locs ls hSx he9 hnx hx9 hh hl
                refine lv_aload_n hx hb d_M_enter_93 rfl (lv_at hl 0 rfl) ?_
                refine jg_M hc hh 6 (by decide) rfl wf_M_29 d_M_enter_94 ?_
                refine lv_iload hx hb d_M_enter_97 (lv_at hl 3 rfl) ?_
                refine lv_iload hx hb d_M_enter_99 (lv_at hl 2 rfl) ?_
                refine jm_ist hc hh 6 (by decide) (by decide) he9 d_M_enter_101 (fun H locs hh => ?_)
                refine lv_aload_n hx hb d_M_enter_102 rfl (lv_at hl 0 rfl) ?_
                refine jg_M hc hh 7 (by decide) rfl wf_M_32 d_M_enter_103 ?_
                refine lv_iload hx hb d_M_enter_106 (lv_at hl 3 rfl) ?_
                refine lv_iload_n hx hb d_M_enter_108 rfl (lv_at hl 1 rfl) ?_
                refine jm_ist hc hh 7 (by decide) (by decide) he9 d_M_enter_109 (fun H locs hh => ?_)
                refine lv_aload_n hx hb d_M_enter_110 rfl (lv_at hl 0 rfl) ?_
                refine jg_M hc hh 8 (by decide) rfl wf_M_35 d_M_enter_111 ?_
                refine lv_iload hx hb d_M_enter_114 (lv_at hl 3 rfl) ?_
                refine lv_iload hx hb d_M_enter_116 (lv_at hl 4 rfl) ?_
                refine jm_ist hc hh 8 (by decide) (by decide) he9 d_M_enter_118 (fun H locs hh => ?_)
                refine lv_aload_n hx hb d_M_enter_119 rfl (lv_at hl 0 rfl) ?_
                refine jx_callV [] [] hc hh (m_mark l D aK ad cA (js_up (js_up (js_up x 6 (ix e9) to) 7 (ix e9) state) 8 (ix e9) p9) (jm_Sh_8 (jm_Sh_7 (jm_Sh_6 hSx)) hp9)) wy_M_82 ⟨by decide, rfl, rfl⟩ (by decide) rfl hl.1 rfl (by decide) ⟨Nat.zero_le _, Nat.zero_le _⟩ d_M_enter_120 (fun r u9 H locs hp hh _ _ => ?_)
                rw [hp.2] at hh
                refine W.eq (g2 := F0 m 123 ls []) rfl ?_
                refine lv_aload_n hx hb d_M_enter_123 rfl (lv_at hl 0 rfl) ?_
                refine jx_callV [] [] hc hh (m_settle l D aK ad cA (jm_mark (js_up (js_up (js_up x 6 (ix e9) to) 7 (ix e9) state) 8 (ix e9) p9)) (jm_Sh_mark (jm_Sh_8 (jm_Sh_7 (jm_Sh_6 hSx)) hp9)) (by rw [jm_mark_21, js_up_f (by decide), js_up_f (by decide), js_up_f (by decide)]; exact hnx)) wy_M_143 ⟨by decide, rfl, rfl⟩ (by decide) rfl hl.1 rfl (by decide) ⟨Nat.zero_le _, Nat.zero_le _⟩ d_M_enter_124 (fun r u9 H locs hp hh _ _ => ?_)
                rw [hp.2] at hh
                refine W.eq (g2 := F0 m 127 ls []) rfl ?_
                exact jx_vret (r := ()) hc hh hQ hlk hr rfl ⟨rfl, by rw [hx9]; rfl⟩ d_M_enter_127
              refine J93 w (jm_presentOf v n) _ _ _ hSw jm_pr_ex (jm_Nw_k hnw) (by rw [hw]; unfold jm_en2; rw [if_pos h65]) ?_ ?_
              ·
                exact hh
              exact lv_sub hl [0, 2, 4, 5, 6] rfl
            refine lv_aload_n hx hb d_M_enter_68 rfl (lv_at hl 0 rfl) ?_
            refine lv_dup hx hb d_M_enter_69 rfl ?_
            refine jg_M hc hh 21 (by decide) rfl wf_M_130 d_M_enter_70 ?_
            refine lv_iconst (v := 1) hx hb d_M_enter_73 (by decide) ?_
            refine lv_iadd hx hb d_M_enter_74 ?_
            refine jpm_21 hc hh wf_M_130 d_M_enter_75 (fun H locs hh => ?_)
            refine lv_aload_n hx hb d_M_enter_78 rfl (lv_at hl 0 rfl) ?_
            refine lv_iload_n hx hb d_M_enter_79 rfl (lv_at hl 1 rfl) ?_
            refine lv_aload_n hx hb d_M_enter_80 rfl (lv_at hl 0 rfl) ?_
            refine jg_M hc hh 21 (by decide) rfl wf_M_130 d_M_enter_81 ?_
            refine lv_iload hx hb d_M_enter_84 (lv_at hl 4 rfl) ?_
            refine lv_iload hx hb d_M_enter_86 (lv_at hl 6 rfl) ?_
            refine jx_callV [.int n, .int ((js_up w 21 0 ((w 21 0) + 1)) 21 0), .int to, .int p9] [] hc hh (m_write l D aK ad cA (js_up w 21 0 ((w 21 0) + 1)) n ((js_up w 21 0 ((w 21 0) + 1)) 21 0) to p9) wy_M_78 ⟨by decide, rfl, rfl⟩ (by decide) rfl hl.1 rfl (by decide) ⟨Nat.zero_le _, Nat.zero_le _⟩ d_M_enter_88 (fun r u9 H locs hp hh _ _ => ?_)
            rw [hp.2] at hh
            refine W.eq (g2 := F0 m 91 ls [.int (nI (js_free (js_up w 21 0 ((w 21 0) + 1)) 9 47 0))]) (by rw [hp.1]; rfl) ?_
            refine lv_istore (i := 7) (lv' := [(7, .int (nI (js_free (js_up w 21 0 ((w 21 0) + 1)) 9 47 0))), (0, .ref (ad 0)), (1, .int n), (3, .int state), (4, .int push), (6, .int to), (8, .int p9)]) hx hb d_M_enter_91 hl (by decide) rfl (fun ls hl => ?_)
            have J93 : ∀ (x : js_S) (e9 : Int32) (H : Heap) (locs : List Loc) (ls : Array Slot), (jm_Sh x) → (∃ j, j < 48 ∧ e9 = nI j) → (∃ k, k < 2 ^ 31 ∧ x 21 0 = nI k) → (jm_enter u n url state push d = jm_fin x e9 to state p9) → jx_H D 22 ad (jm_cell ad cA x) A s.heap H locs → lv_has ls 9 [(0, .ref (ad 0)), (3, .int state), (6, .int to), (7, .int e9), (8, .int p9)] → W p l e (jr 6) s m args below meth c H locs 0 0 Q (F0 m 93 ls []) := by
              intro x e9 H locs ls hSx he9 hnx hx9 hh hl
              refine lv_aload_n hx hb d_M_enter_93 rfl (lv_at hl 0 rfl) ?_
              refine jg_M hc hh 6 (by decide) rfl wf_M_29 d_M_enter_94 ?_
              refine lv_iload hx hb d_M_enter_97 (lv_at hl 3 rfl) ?_
              refine lv_iload hx hb d_M_enter_99 (lv_at hl 2 rfl) ?_
              refine jm_ist hc hh 6 (by decide) (by decide) he9 d_M_enter_101 (fun H locs hh => ?_)
              refine lv_aload_n hx hb d_M_enter_102 rfl (lv_at hl 0 rfl) ?_
              refine jg_M hc hh 7 (by decide) rfl wf_M_32 d_M_enter_103 ?_
              refine lv_iload hx hb d_M_enter_106 (lv_at hl 3 rfl) ?_
              refine lv_iload_n hx hb d_M_enter_108 rfl (lv_at hl 1 rfl) ?_
              refine jm_ist hc hh 7 (by decide) (by decide) he9 d_M_enter_109 (fun H locs hh => ?_)
              refine lv_aload_n hx hb d_M_enter_110 rfl (lv_at hl 0 rfl) ?_
              refine jg_M hc hh 8 (by decide) rfl wf_M_35 d_M_enter_111 ?_
              refine lv_iload hx hb d_M_enter_114 (lv_at hl 3 rfl) ?_
              refine lv_iload hx hb d_M_enter_116 (lv_at hl 4 rfl) ?_
              refine jm_ist hc hh 8 (by decide) (by decide) he9 d_M_enter_118 (fun H locs hh => ?_)
              refine lv_aload_n hx hb d_M_enter_119 rfl (lv_at hl 0 rfl) ?_
              refine jx_callV [] [] hc hh (m_mark l D aK ad cA (js_up (js_up (js_up x 6 (ix e9) to) 7 (ix e9) state) 8 (ix e9) p9) (jm_Sh_8 (jm_Sh_7 (jm_Sh_6 hSx)) hp9)) wy_M_82 ⟨by decide, rfl, rfl⟩ (by decide) rfl hl.1 rfl (by decide) ⟨Nat.zero_le _, Nat.zero_le _⟩ d_M_enter_120 (fun r u9 H locs hp hh _ _ => ?_)
              rw [hp.2] at hh
              refine W.eq (g2 := F0 m 123 ls []) rfl ?_
              refine lv_aload_n hx hb d_M_enter_123 rfl (lv_at hl 0 rfl) ?_
              refine jx_callV [] [] hc hh (m_settle l D aK ad cA (jm_mark (js_up (js_up (js_up x 6 (ix e9) to) 7 (ix e9) state) 8 (ix e9) p9)) (jm_Sh_mark (jm_Sh_8 (jm_Sh_7 (jm_Sh_6 hSx)) hp9)) (by rw [jm_mark_21, js_up_f (by decide), js_up_f (by decide), js_up_f (by decide)]; exact hnx)) wy_M_143 ⟨by decide, rfl, rfl⟩ (by decide) rfl hl.1 rfl (by decide) ⟨Nat.zero_le _, Nat.zero_le _⟩ d_M_enter_124 (fun r u9 H locs hp hh _ _ => ?_)
              rw [hp.2] at hh
              refine W.eq (g2 := F0 m 127 ls []) rfl ?_
              exact jx_vret (r := ()) hc hh hQ hlk hr rfl ⟨rfl, by rw [hx9]; rfl⟩ d_M_enter_127
            refine J93 (jm_write (js_up w 21 0 ((w 21 0) + 1)) n ((js_up w 21 0 ((w 21 0) + 1)) 21 0) to p9) (nI (js_free (js_up w 21 0 ((w 21 0) + 1)) 9 47 0)) _ _ _ (jm_Sh_wr (jm_Sh_21 hSw) h_n hp9) ⟨_, js_f47, rfl⟩ (by unfold jm_write jm_wr; rw [js_up_f (by decide), js_up_f (by decide), js_up_f (by decide), js_up_f (by decide), js_up_f (by decide), js_up_f (by decide)]; exact jm_Nw_up hnw) (by rw [hw]; unfold jm_en2 jm_en3; rw [if_neg h65]) ?_ ?_
            ·
              exact hh
            exact lv_sub hl [1, 3, 5, 0, 6] rfl
          refine J63 (jm_load v n url (jm_stp v (jm_presentOf v n) push)) ((jm_load v n url (jm_stp v (jm_presentOf v n) push)) 25 0) (nI (js_free v 10 47 0)) _ _ _ (jm_load_ok hSv hu) ⟨_, js_f47, rfl⟩ (jm_Nw_of hnv jm_load_21) (by rw [hv]; unfold jm_en1; rw [if_neg h25]) ?_ ?_
          ·
            exact hh
          exact lv_sub hl [2, 3, 5, 6, 0, 7, 1] rfl
        have e1 : (jm_stp v (jm_presentOf v n) push) = (v 5 (ix (jm_presentOf v n))) := by first | (simp [jm_stp, h25, h33]; done) | (simp [jm_stp, h25, eq_true h33]; done)
        refine W.eq (g2 := F0 m 52 ls [.int (jm_stp v (jm_presentOf v n) push), .int url, .int n, .ref (ad 0)]) (by first | (rw [e1]; done) | (rw [e1]; rfl)) ?_
        refine J52 _ ?_
        exact lv_sub hl [2, 3, 4, 5, 6, 1] rfl
      refine lv_aload_n hx hb d_M_enter_36 rfl (lv_at hl 2 rfl) ?_
      refine jg_M hc hh 21 (by decide) rfl wf_M_130 d_M_enter_37 ?_
      refine lv_iconst (v := 1) hx hb d_M_enter_40 (by decide) ?_
      refine lv_iadd hx hb d_M_enter_41 ?_
      refine lv_goto (tgt := 52) hx hb d_M_enter_42 rfl ?_
      have J52 : ∀  (ls : Array Slot), lv_has ls 9 [(0, .ref (ad 0)), (1, .int n), (2, .int url), (3, .int state), (4, .int push), (7, .int (jm_presentOf v n))] → W p l e (jr 6) s m args below meth c H locs 0 0 Q (F0 m 52 ls [.int (jm_stp v (jm_presentOf v n) push), .int url, .int n, .ref (ad 0)]) := by
        intro  ls hl
        refine jx_callV [.int n, .int url, .int (jm_stp v (jm_presentOf v n) push)] [] hc hh (m_load l D aK ad cA v n url (jm_stp v (jm_presentOf v n) push) hSv h_n hu) wy_M_140 ⟨by decide, rfl, rfl⟩ (by decide) rfl hl.1 rfl (by decide) ⟨Nat.zero_le _, Nat.zero_le _⟩ d_M_enter_52 (fun r u9 H locs hp hh _ _ => ?_)
        rw [hp.2] at hh
        refine W.eq (g2 := F0 m 55 ls [.int (nI (js_free v 10 47 0))]) (by rw [hp.1]; rfl) ?_
        refine lv_istore (i := 8) (lv' := [(8, .int (nI (js_free v 10 47 0))), (0, .ref (ad 0)), (1, .int n), (2, .int url), (3, .int state), (4, .int push), (7, .int (jm_presentOf v n))]) hx hb d_M_enter_55 hl (by decide) rfl (fun ls hl => ?_)
        refine lv_aload_n hx hb d_M_enter_57 rfl (lv_at hl 1 rfl) ?_
        refine jg_M hc hh 25 (by decide) rfl wf_M_93 d_M_enter_58 ?_
        refine lv_istore (i := 6) (lv' := [(6, .int ((jm_load v n url (jm_stp v (jm_presentOf v n) push)) 25 0)), (8, .int (nI (js_free v 10 47 0))), (0, .ref (ad 0)), (1, .int n), (2, .int url), (3, .int state), (4, .int push), (7, .int (jm_presentOf v n))]) hx hb d_M_enter_61 hl (by decide) rfl (fun ls hl => ?_)
        have J63 : ∀ (w : js_S) (to : Int32) (p9 : Int32) (H : Heap) (locs : List Loc) (ls : Array Slot), (jm_Sh w) → (∃ j, j < 48 ∧ p9 = nI j) → (jm_Nw w) → (jm_enter u n url state push d = jm_en2 w n (jm_presentOf v n) to state p9 push) → jx_H D 22 ad (jm_cell ad cA w) A s.heap H locs → lv_has ls 9 [(0, .ref (ad 0)), (1, .int n), (3, .int state), (4, .int push), (6, .int to), (7, .int (jm_presentOf v n)), (8, .int p9)] → W p l e (jr 6) s m args below meth c H locs 0 0 Q (F0 m 63 ls []) := by
          intro w to p9 H locs ls hSw hp9 hnw hw hh hl
          refine lv_iload hx hb d_M_enter_63 (lv_at hl 3 rfl) ?_
          refine lv_if_eq (tgt := 93) hx hb d_M_enter_65 rfl (fun h65 => ?_) (fun h65 => ?_)
          ·
            have J93 : ∀ (x : js_S) (e9 : Int32) (H : Heap) (locs : List Loc) (ls : Array Slot), (jm_Sh x) → (∃ j, j < 48 ∧ e9 = nI j) → (∃ k, k < 2 ^ 31 ∧ x 21 0 = nI k) → (jm_enter u n url state push d = jm_fin x e9 to state p9) → jx_H D 22 ad (jm_cell ad cA x) A s.heap H locs → lv_has ls 9 [(0, .ref (ad 0)), (3, .int state), (6, .int to), (7, .int e9), (8, .int p9)] → W p l e (jr 6) s m args below meth c H locs 0 0 Q (F0 m 93 ls []) := by
              intro x e9 H locs ls hSx he9 hnx hx9 hh hl
              refine lv_aload_n hx hb d_M_enter_93 rfl (lv_at hl 0 rfl) ?_
              refine jg_M hc hh 6 (by decide) rfl wf_M_29 d_M_enter_94 ?_
              refine lv_iload hx hb d_M_enter_97 (lv_at hl 3 rfl) ?_
              refine lv_iload hx hb d_M_enter_99 (lv_at hl 2 rfl) ?_
              refine jm_ist hc hh 6 (by decide) (by decide) he9 d_M_enter_101 (fun H locs hh => ?_)
              refine lv_aload_n hx hb d_M_enter_102 rfl (lv_at hl 0 rfl) ?_
              refine jg_M hc hh 7 (by decide) rfl wf_M_32 d_M_enter_103 ?_
              refine lv_iload hx hb d_M_enter_106 (lv_at hl 3 rfl) ?_
              refine lv_iload_n hx hb d_M_enter_108 rfl (lv_at hl 1 rfl) ?_
              refine jm_ist hc hh 7 (by decide) (by decide) he9 d_M_enter_109 (fun H locs hh => ?_)
              refine lv_aload_n hx hb d_M_enter_110 rfl (lv_at hl 0 rfl) ?_
              refine jg_M hc hh 8 (by decide) rfl wf_M_35 d_M_enter_111 ?_
              refine lv_iload hx hb d_M_enter_114 (lv_at hl 3 rfl) ?_
              refine lv_iload hx hb d_M_enter_116 (lv_at hl 4 rfl) ?_
              refine jm_ist hc hh 8 (by decide) (by decide) he9 d_M_enter_118 (fun H locs hh => ?_)
              refine lv_aload_n hx hb d_M_enter_119 rfl (lv_at hl 0 rfl) ?_
              refine jx_callV [] [] hc hh (m_mark l D aK ad cA (js_up (js_up (js_up x 6 (ix e9) to) 7 (ix e9) state) 8 (ix e9) p9) (jm_Sh_8 (jm_Sh_7 (jm_Sh_6 hSx)) hp9)) wy_M_82 ⟨by decide, rfl, rfl⟩ (by decide) rfl hl.1 rfl (by decide) ⟨Nat.zero_le _, Nat.zero_le _⟩ d_M_enter_120 (fun r u9 H locs hp hh _ _ => ?_)
              rw [hp.2] at hh
              refine W.eq (g2 := F0 m 123 ls []) rfl ?_
              refine lv_aload_n hx hb d_M_enter_123 rfl (lv_at hl 0 rfl) ?_
              refine jx_callV [] [] hc hh (m_settle l D aK ad cA (jm_mark (js_up (js_up (js_up x 6 (ix e9) to) 7 (ix e9) state) 8 (ix e9) p9)) (jm_Sh_mark (jm_Sh_8 (jm_Sh_7 (jm_Sh_6 hSx)) hp9)) (by rw [jm_mark_21, js_up_f (by decide), js_up_f (by decide), js_up_f (by decide)]; exact hnx)) wy_M_143 ⟨by decide, rfl, rfl⟩ (by decide) rfl hl.1 rfl (by decide) ⟨Nat.zero_le _, Nat.zero_le _⟩ d_M_enter_124 (fun r u9 H locs hp hh _ _ => ?_)
              rw [hp.2] at hh
              refine W.eq (g2 := F0 m 127 ls []) rfl ?_
              exact jx_vret (r := ()) hc hh hQ hlk hr rfl ⟨rfl, by rw [hx9]; rfl⟩ d_M_enter_127
            refine J93 w (jm_presentOf v n) _ _ _ hSw jm_pr_ex (jm_Nw_k hnw) (by rw [hw]; unfold jm_en2; rw [if_pos h65]) ?_ ?_
            ·
              exact hh
            exact lv_sub hl [0, 2, 4, 5, 6] rfl
          refine lv_aload_n hx hb d_M_enter_68 rfl (lv_at hl 0 rfl) ?_
          refine lv_dup hx hb d_M_enter_69 rfl ?_
          refine jg_M hc hh 21 (by decide) rfl wf_M_130 d_M_enter_70 ?_
          refine lv_iconst (v := 1) hx hb d_M_enter_73 (by decide) ?_
          refine lv_iadd hx hb d_M_enter_74 ?_
          refine jpm_21 hc hh wf_M_130 d_M_enter_75 (fun H locs hh => ?_)
          refine lv_aload_n hx hb d_M_enter_78 rfl (lv_at hl 0 rfl) ?_
          refine lv_iload_n hx hb d_M_enter_79 rfl (lv_at hl 1 rfl) ?_
          refine lv_aload_n hx hb d_M_enter_80 rfl (lv_at hl 0 rfl) ?_
          refine jg_M hc hh 21 (by decide) rfl wf_M_130 d_M_enter_81 ?_
          refine lv_iload hx hb d_M_enter_84 (lv_at hl 4 rfl) ?_
          refine lv_iload hx hb d_M_enter_86 (lv_at hl 6 rfl) ?_
          refine jx_callV [.int n, .int ((js_up w 21 0 ((w 21 0) + 1)) 21 0), .int to, .int p9] [] hc hh (m_write l D aK ad cA (js_up w 21 0 ((w 21 0) + 1)) n ((js_up w 21 0 ((w 21 0) + 1)) 21 0) to p9) wy_M_78 ⟨by decide, rfl, rfl⟩ (by decide) rfl hl.1 rfl (by decide) ⟨Nat.zero_le _, Nat.zero_le _⟩ d_M_enter_88 (fun r u9 H locs hp hh _ _ => ?_)
          rw [hp.2] at hh
          refine W.eq (g2 := F0 m 91 ls [.int (nI (js_free (js_up w 21 0 ((w 21 0) + 1)) 9 47 0))]) (by rw [hp.1]; rfl) ?_
          refine lv_istore (i := 7) (lv' := [(7, .int (nI (js_free (js_up w 21 0 ((w 21 0) + 1)) 9 47 0))), (0, .ref (ad 0)), (1, .int n), (3, .int state), (4, .int push), (6, .int to), (8, .int p9)]) hx hb d_M_enter_91 hl (by decide) rfl (fun ls hl => ?_)
          have J93 : ∀ (x : js_S) (e9 : Int32) (H : Heap) (locs : List Loc) (ls : Array Slot), (jm_Sh x) → (∃ j, j < 48 ∧ e9 = nI j) → (∃ k, k < 2 ^ 31 ∧ x 21 0 = nI k) → (jm_enter u n url state push d = jm_fin x e9 to state p9) → jx_H D 22 ad (jm_cell ad cA x) A s.heap H locs → lv_has ls 9 [(0, .ref (ad 0)), (3, .int state), (6, .int to), (7, .int e9), (8, .int p9)] → W p l e (jr 6) s m args below meth c H locs 0 0 Q (F0 m 93 ls []) := by
            intro x e9 H locs ls hSx he9 hnx hx9 hh hl
            refine lv_aload_n hx hb d_M_enter_93 rfl (lv_at hl 0 rfl) ?_
            refine jg_M hc hh 6 (by decide) rfl wf_M_29 d_M_enter_94 ?_
            refine lv_iload hx hb d_M_enter_97 (lv_at hl 3 rfl) ?_
            refine lv_iload hx hb d_M_enter_99 (lv_at hl 2 rfl) ?_
            refine jm_ist hc hh 6 (by decide) (by decide) he9 d_M_enter_101 (fun H locs hh => ?_)
            refine lv_aload_n hx hb d_M_enter_102 rfl (lv_at hl 0 rfl) ?_
            refine jg_M hc hh 7 (by decide) rfl wf_M_32 d_M_enter_103 ?_
            refine lv_iload hx hb d_M_enter_106 (lv_at hl 3 rfl) ?_
            refine lv_iload_n hx hb d_M_enter_108 rfl (lv_at hl 1 rfl) ?_
            refine jm_ist hc hh 7 (by decide) (by decide) he9 d_M_enter_109 (fun H locs hh => ?_)
            refine lv_aload_n hx hb d_M_enter_110 rfl (lv_at hl 0 rfl) ?_
            refine jg_M hc hh 8 (by decide) rfl wf_M_35 d_M_enter_111 ?_
            refine lv_iload hx hb d_M_enter_114 (lv_at hl 3 rfl) ?_
            refine lv_iload hx hb d_M_enter_116 (lv_at hl 4 rfl) ?_
            refine jm_ist hc hh 8 (by decide) (by decide) he9 d_M_enter_118 (fun H locs hh => ?_)
            refine lv_aload_n hx hb d_M_enter_119 rfl (lv_at hl 0 rfl) ?_
            refine jx_callV [] [] hc hh (m_mark l D aK ad cA (js_up (js_up (js_up x 6 (ix e9) to) 7 (ix e9) state) 8 (ix e9) p9) (jm_Sh_8 (jm_Sh_7 (jm_Sh_6 hSx)) hp9)) wy_M_82 ⟨by decide, rfl, rfl⟩ (by decide) rfl hl.1 rfl (by decide) ⟨Nat.zero_le _, Nat.zero_le _⟩ d_M_enter_120 (fun r u9 H locs hp hh _ _ => ?_)
            rw [hp.2] at hh
            refine W.eq (g2 := F0 m 123 ls []) rfl ?_
            refine lv_aload_n hx hb d_M_enter_123 rfl (lv_at hl 0 rfl) ?_
            refine jx_callV [] [] hc hh (m_settle l D aK ad cA (jm_mark (js_up (js_up (js_up x 6 (ix e9) to) 7 (ix e9) state) 8 (ix e9) p9)) (jm_Sh_mark (jm_Sh_8 (jm_Sh_7 (jm_Sh_6 hSx)) hp9)) (by rw [jm_mark_21, js_up_f (by decide), js_up_f (by decide), js_up_f (by decide)]; exact hnx)) wy_M_143 ⟨by decide, rfl, rfl⟩ (by decide) rfl hl.1 rfl (by decide) ⟨Nat.zero_le _, Nat.zero_le _⟩ d_M_enter_124 (fun r u9 H locs hp hh _ _ => ?_)
            rw [hp.2] at hh
            refine W.eq (g2 := F0 m 127 ls []) rfl ?_
            exact jx_vret (r := ()) hc hh hQ hlk hr rfl ⟨rfl, by rw [hx9]; rfl⟩ d_M_enter_127
          refine J93 (jm_write (js_up w 21 0 ((w 21 0) + 1)) n ((js_up w 21 0 ((w 21 0) + 1)) 21 0) to p9) (nI (js_free (js_up w 21 0 ((w 21 0) + 1)) 9 47 0)) _ _ _ (jm_Sh_wr (jm_Sh_21 hSw) h_n hp9) ⟨_, js_f47, rfl⟩ (by unfold jm_write jm_wr; rw [js_up_f (by decide), js_up_f (by decide), js_up_f (by decide), js_up_f (by decide), js_up_f (by decide), js_up_f (by decide)]; exact jm_Nw_up hnw) (by rw [hw]; unfold jm_en2 jm_en3; rw [if_neg h65]) ?_ ?_
          ·
            exact hh
          exact lv_sub hl [1, 3, 5, 0, 6] rfl
        refine J63 (jm_load v n url (jm_stp v (jm_presentOf v n) push)) ((jm_load v n url (jm_stp v (jm_presentOf v n) push)) 25 0) (nI (js_free v 10 47 0)) _ _ _ (jm_load_ok hSv hu) ⟨_, js_f47, rfl⟩ (jm_Nw_of hnv jm_load_21) (by rw [hv]; unfold jm_en1; rw [if_neg h25]) ?_ ?_
        ·
          exact hh
        exact lv_sub hl [2, 3, 5, 6, 0, 7, 1] rfl
      have e2 : (jm_stp v (jm_presentOf v n) push) = ((v 21 0) + 1) := by simp [jm_stp, h25, h33]
      refine W.eq (g2 := F0 m 52 ls [.int (jm_stp v (jm_presentOf v n) push), .int url, .int n, .ref (ad 0)]) (by first | (rw [e2]; done) | (rw [e2]; rfl)) ?_
      refine J52 _ ?_
      exact lv_sub hl [2, 3, 4, 5, 6, 1] rfl
    refine J12 u _ _ _ hS hn (by unfold jm_enter; rw [if_pos h5]) ?_ ?_
    ·
      exact hh
    exact lv_sub hl [1, 2, 3, 4, 5, 6, 0] rfl
  refine lv_aload_n hx hb d_M_enter_8 rfl (lv_at hl 1 rfl) ?_
  refine jx_callV [] [] hc hh (m_cutOff l D aK ad cA u hS) wy_M_137 ⟨by decide, rfl, rfl⟩ (by decide) rfl hl.1 rfl (by decide) ⟨Nat.zero_le _, Nat.zero_le _⟩ d_M_enter_9 (fun r u9 H locs hp hh _ _ => ?_)
  rw [hp.2] at hh
  refine W.eq (g2 := F0 m 12 ls []) rfl ?_
  have J12 : ∀ (v : js_S) (H : Heap) (locs : List Loc) (ls : Array Slot), (jm_Sh v) → (jm_Nw v) → (jm_enter u n url state push d = jm_en1 v n (jm_presentOf v n) url state push d) → jx_H D 22 ad (jm_cell ad cA v) A s.heap H locs → lv_has ls 9 [(0, .ref (ad 0)), (1, .int n), (2, .int url), (3, .int state), (4, .int push), (5, .int d), (6, .int url)] → W p l e (jr 6) s m args below meth c H locs 0 0 Q (F0 m 12 ls []) := by
    intro v H locs ls hSv hnv hv hh hl
    refine lv_aload_n hx hb d_M_enter_12 rfl (lv_at hl 0 rfl) ?_
    refine lv_iload_n hx hb d_M_enter_13 rfl (lv_at hl 1 rfl) ?_
    refine jx_callV [.int n] [] hc hh (m_presentOf l D aK ad cA v n) wy_M_124 ⟨by decide, rfl, rfl⟩ (by decide) rfl hl.1 rfl (by decide) ⟨Nat.zero_le _, Nat.zero_le _⟩ d_M_enter_14 (fun r u9 H locs hp hh _ _ => ?_)
    rw [hp.2] at hh
    refine W.eq (g2 := F0 m 17 ls [.int (jm_presentOf v n)]) (by rw [hp.1]; rfl) ?_
    refine lv_istore (i := 7) (lv' := [(7, .int (jm_presentOf v n)), (0, .ref (ad 0)), (1, .int n), (2, .int url), (3, .int state), (4, .int push), (5, .int d), (6, .int url)]) hx hb d_M_enter_17 hl (by decide) rfl (fun ls hl => ?_)
    refine lv_iload hx hb d_M_enter_19 (lv_at hl 6 rfl) ?_
    refine lv_istore (i := 8) (lv' := [(8, .int d), (7, .int (jm_presentOf v n)), (0, .ref (ad 0)), (1, .int n), (2, .int url), (3, .int state), (4, .int push), (5, .int d), (6, .int url)]) hx hb d_M_enter_21 hl (by decide) rfl (fun ls hl => ?_)
    refine lv_iload hx hb d_M_enter_23 (lv_at hl 0 rfl) ?_
    refine lv_if_ge (tgt := 63) hx hb d_M_enter_25 rfl (fun h25 => ?_) (fun h25 => ?_)
    ·
      have J63 : ∀ (w : js_S) (to : Int32) (p9 : Int32) (H : Heap) (locs : List Loc) (ls : Array Slot), (jm_Sh w) → (∃ j, j < 48 ∧ p9 = nI j) → (jm_Nw w) → (jm_enter u n url state push d = jm_en2 w n (jm_presentOf v n) to state p9 push) → jx_H D 22 ad (jm_cell ad cA w) A s.heap H locs → lv_has ls 9 [(0, .ref (ad 0)), (1, .int n), (3, .int state), (4, .int push), (6, .int to), (7, .int (jm_presentOf v n)), (8, .int p9)] → W p l e (jr 6) s m args below meth c H locs 0 0 Q (F0 m 63 ls []) := by
        intro w to p9 H locs ls hSw hp9 hnw hw hh hl
        refine lv_iload hx hb d_M_enter_63 (lv_at hl 3 rfl) ?_
        refine lv_if_eq (tgt := 93) hx hb d_M_enter_65 rfl (fun h65 => ?_) (fun h65 => ?_)
        ·
          have J93 : ∀ (x : js_S) (e9 : Int32) (H : Heap) (locs : List Loc) (ls : Array Slot), (jm_Sh x) → (∃ j, j < 48 ∧ e9 = nI j) → (∃ k, k < 2 ^ 31 ∧ x 21 0 = nI k) → (jm_enter u n url state push d = jm_fin x e9 to state p9) → jx_H D 22 ad (jm_cell ad cA x) A s.heap H locs → lv_has ls 9 [(0, .ref (ad 0)), (3, .int state), (6, .int to), (7, .int e9), (8, .int p9)] → W p l e (jr 6) s m args below meth c H locs 0 0 Q (F0 m 93 ls []) := by
            intro x e9 H locs ls hSx he9 hnx hx9 hh hl
            refine lv_aload_n hx hb d_M_enter_93 rfl (lv_at hl 0 rfl) ?_
            refine jg_M hc hh 6 (by decide) rfl wf_M_29 d_M_enter_94 ?_
            refine lv_iload hx hb d_M_enter_97 (lv_at hl 3 rfl) ?_
            refine lv_iload hx hb d_M_enter_99 (lv_at hl 2 rfl) ?_
            refine jm_ist hc hh 6 (by decide) (by decide) he9 d_M_enter_101 (fun H locs hh => ?_)
            refine lv_aload_n hx hb d_M_enter_102 rfl (lv_at hl 0 rfl) ?_
            refine jg_M hc hh 7 (by decide) rfl wf_M_32 d_M_enter_103 ?_
            refine lv_iload hx hb d_M_enter_106 (lv_at hl 3 rfl) ?_
            refine lv_iload_n hx hb d_M_enter_108 rfl (lv_at hl 1 rfl) ?_
            refine jm_ist hc hh 7 (by decide) (by decide) he9 d_M_enter_109 (fun H locs hh => ?_)
            refine lv_aload_n hx hb d_M_enter_110 rfl (lv_at hl 0 rfl) ?_
            refine jg_M hc hh 8 (by decide) rfl wf_M_35 d_M_enter_111 ?_
            refine lv_iload hx hb d_M_enter_114 (lv_at hl 3 rfl) ?_
            refine lv_iload hx hb d_M_enter_116 (lv_at hl 4 rfl) ?_
            refine jm_ist hc hh 8 (by decide) (by decide) he9 d_M_enter_118 (fun H locs hh => ?_)
            refine lv_aload_n hx hb d_M_enter_119 rfl (lv_at hl 0 rfl) ?_
            refine jx_callV [] [] hc hh (m_mark l D aK ad cA (js_up (js_up (js_up x 6 (ix e9) to) 7 (ix e9) state) 8 (ix e9) p9) (jm_Sh_8 (jm_Sh_7 (jm_Sh_6 hSx)) hp9)) wy_M_82 ⟨by decide, rfl, rfl⟩ (by decide) rfl hl.1 rfl (by decide) ⟨Nat.zero_le _, Nat.zero_le _⟩ d_M_enter_120 (fun r u9 H locs hp hh _ _ => ?_)
            rw [hp.2] at hh
            refine W.eq (g2 := F0 m 123 ls []) rfl ?_
            refine lv_aload_n hx hb d_M_enter_123 rfl (lv_at hl 0 rfl) ?_
            refine jx_callV [] [] hc hh (m_settle l D aK ad cA (jm_mark (js_up (js_up (js_up x 6 (ix e9) to) 7 (ix e9) state) 8 (ix e9) p9)) (jm_Sh_mark (jm_Sh_8 (jm_Sh_7 (jm_Sh_6 hSx)) hp9)) (by rw [jm_mark_21, js_up_f (by decide), js_up_f (by decide), js_up_f (by decide)]; exact hnx)) wy_M_143 ⟨by decide, rfl, rfl⟩ (by decide) rfl hl.1 rfl (by decide) ⟨Nat.zero_le _, Nat.zero_le _⟩ d_M_enter_124 (fun r u9 H locs hp hh _ _ => ?_)
            rw [hp.2] at hh
            refine W.eq (g2 := F0 m 127 ls []) rfl ?_
            exact jx_vret (r := ()) hc hh hQ hlk hr rfl ⟨rfl, by rw [hx9]; rfl⟩ d_M_enter_127
          refine J93 w (jm_presentOf v n) _ _ _ hSw jm_pr_ex (jm_Nw_k hnw) (by rw [hw]; unfold jm_en2; rw [if_pos h65]) ?_ ?_
          ·
            exact hh
          exact lv_sub hl [0, 2, 4, 5, 6] rfl
        refine lv_aload_n hx hb d_M_enter_68 rfl (lv_at hl 0 rfl) ?_
        refine lv_dup hx hb d_M_enter_69 rfl ?_
        refine jg_M hc hh 21 (by decide) rfl wf_M_130 d_M_enter_70 ?_
        refine lv_iconst (v := 1) hx hb d_M_enter_73 (by decide) ?_
        refine lv_iadd hx hb d_M_enter_74 ?_
        refine jpm_21 hc hh wf_M_130 d_M_enter_75 (fun H locs hh => ?_)
        refine lv_aload_n hx hb d_M_enter_78 rfl (lv_at hl 0 rfl) ?_
        refine lv_iload_n hx hb d_M_enter_79 rfl (lv_at hl 1 rfl) ?_
        refine lv_aload_n hx hb d_M_enter_80 rfl (lv_at hl 0 rfl) ?_
        refine jg_M hc hh 21 (by decide) rfl wf_M_130 d_M_enter_81 ?_
        refine lv_iload hx hb d_M_enter_84 (lv_at hl 4 rfl) ?_
        refine lv_iload hx hb d_M_enter_86 (lv_at hl 6 rfl) ?_
        refine jx_callV [.int n, .int ((js_up w 21 0 ((w 21 0) + 1)) 21 0), .int to, .int p9] [] hc hh (m_write l D aK ad cA (js_up w 21 0 ((w 21 0) + 1)) n ((js_up w 21 0 ((w 21 0) + 1)) 21 0) to p9) wy_M_78 ⟨by decide, rfl, rfl⟩ (by decide) rfl hl.1 rfl (by decide) ⟨Nat.zero_le _, Nat.zero_le _⟩ d_M_enter_88 (fun r u9 H locs hp hh _ _ => ?_)
        rw [hp.2] at hh
        refine W.eq (g2 := F0 m 91 ls [.int (nI (js_free (js_up w 21 0 ((w 21 0) + 1)) 9 47 0))]) (by rw [hp.1]; rfl) ?_
        refine lv_istore (i := 7) (lv' := [(7, .int (nI (js_free (js_up w 21 0 ((w 21 0) + 1)) 9 47 0))), (0, .ref (ad 0)), (1, .int n), (3, .int state), (4, .int push), (6, .int to), (8, .int p9)]) hx hb d_M_enter_91 hl (by decide) rfl (fun ls hl => ?_)
        have J93 : ∀ (x : js_S) (e9 : Int32) (H : Heap) (locs : List Loc) (ls : Array Slot), (jm_Sh x) → (∃ j, j < 48 ∧ e9 = nI j) → (∃ k, k < 2 ^ 31 ∧ x 21 0 = nI k) → (jm_enter u n url state push d = jm_fin x e9 to state p9) → jx_H D 22 ad (jm_cell ad cA x) A s.heap H locs → lv_has ls 9 [(0, .ref (ad 0)), (3, .int state), (6, .int to), (7, .int e9), (8, .int p9)] → W p l e (jr 6) s m args below meth c H locs 0 0 Q (F0 m 93 ls []) := by
          intro x e9 H locs ls hSx he9 hnx hx9 hh hl
          refine lv_aload_n hx hb d_M_enter_93 rfl (lv_at hl 0 rfl) ?_
          refine jg_M hc hh 6 (by decide) rfl wf_M_29 d_M_enter_94 ?_
          refine lv_iload hx hb d_M_enter_97 (lv_at hl 3 rfl) ?_
          refine lv_iload hx hb d_M_enter_99 (lv_at hl 2 rfl) ?_
          refine jm_ist hc hh 6 (by decide) (by decide) he9 d_M_enter_101 (fun H locs hh => ?_)
          refine lv_aload_n hx hb d_M_enter_102 rfl (lv_at hl 0 rfl) ?_
          refine jg_M hc hh 7 (by decide) rfl wf_M_32 d_M_enter_103 ?_
          refine lv_iload hx hb d_M_enter_106 (lv_at hl 3 rfl) ?_
          refine lv_iload_n hx hb d_M_enter_108 rfl (lv_at hl 1 rfl) ?_
          refine jm_ist hc hh 7 (by decide) (by decide) he9 d_M_enter_109 (fun H locs hh => ?_)
          refine lv_aload_n hx hb d_M_enter_110 rfl (lv_at hl 0 rfl) ?_
          refine jg_M hc hh 8 (by decide) rfl wf_M_35 d_M_enter_111 ?_
          refine lv_iload hx hb d_M_enter_114 (lv_at hl 3 rfl) ?_
          refine lv_iload hx hb d_M_enter_116 (lv_at hl 4 rfl) ?_
          refine jm_ist hc hh 8 (by decide) (by decide) he9 d_M_enter_118 (fun H locs hh => ?_)
          refine lv_aload_n hx hb d_M_enter_119 rfl (lv_at hl 0 rfl) ?_
          refine jx_callV [] [] hc hh (m_mark l D aK ad cA (js_up (js_up (js_up x 6 (ix e9) to) 7 (ix e9) state) 8 (ix e9) p9) (jm_Sh_8 (jm_Sh_7 (jm_Sh_6 hSx)) hp9)) wy_M_82 ⟨by decide, rfl, rfl⟩ (by decide) rfl hl.1 rfl (by decide) ⟨Nat.zero_le _, Nat.zero_le _⟩ d_M_enter_120 (fun r u9 H locs hp hh _ _ => ?_)
          rw [hp.2] at hh
          refine W.eq (g2 := F0 m 123 ls []) rfl ?_
          refine lv_aload_n hx hb d_M_enter_123 rfl (lv_at hl 0 rfl) ?_
          refine jx_callV [] [] hc hh (m_settle l D aK ad cA (jm_mark (js_up (js_up (js_up x 6 (ix e9) to) 7 (ix e9) state) 8 (ix e9) p9)) (jm_Sh_mark (jm_Sh_8 (jm_Sh_7 (jm_Sh_6 hSx)) hp9)) (by rw [jm_mark_21, js_up_f (by decide), js_up_f (by decide), js_up_f (by decide)]; exact hnx)) wy_M_143 ⟨by decide, rfl, rfl⟩ (by decide) rfl hl.1 rfl (by decide) ⟨Nat.zero_le _, Nat.zero_le _⟩ d_M_enter_124 (fun r u9 H locs hp hh _ _ => ?_)
          rw [hp.2] at hh
          refine W.eq (g2 := F0 m 127 ls []) rfl ?_
          exact jx_vret (r := ()) hc hh hQ hlk hr rfl ⟨rfl, by rw [hx9]; rfl⟩ d_M_enter_127
        refine J93 (jm_write (js_up w 21 0 ((w 21 0) + 1)) n ((js_up w 21 0 ((w 21 0) + 1)) 21 0) to p9) (nI (js_free (js_up w 21 0 ((w 21 0) + 1)) 9 47 0)) _ _ _ (jm_Sh_wr (jm_Sh_21 hSw) h_n hp9) ⟨_, js_f47, rfl⟩ (by unfold jm_write jm_wr; rw [js_up_f (by decide), js_up_f (by decide), js_up_f (by decide), js_up_f (by decide), js_up_f (by decide), js_up_f (by decide)]; exact jm_Nw_up hnw) (by rw [hw]; unfold jm_en2 jm_en3; rw [if_neg h65]) ?_ ?_
        ·
          exact hh
        exact lv_sub hl [1, 3, 5, 0, 6] rfl
      refine J63 v url d _ _ _ hSv (jq_ge hd h25) hnv (by rw [hv]; unfold jm_en1; rw [if_pos h25]) ?_ ?_
      ·
        exact hh
      exact lv_sub hl [2, 3, 5, 6, 8, 1, 0] rfl
    refine lv_aload_n hx hb d_M_enter_28 rfl (lv_at hl 2 rfl) ?_
    refine lv_iload_n hx hb d_M_enter_29 rfl (lv_at hl 3 rfl) ?_
    refine lv_iload_n hx hb d_M_enter_30 rfl (lv_at hl 4 rfl) ?_
    refine lv_iload hx hb d_M_enter_31 (lv_at hl 6 rfl) ?_
    refine lv_if_eq (tgt := 45) hx hb d_M_enter_33 rfl (fun h33 => ?_) (fun h33 => ?_)
    ·
      refine lv_aload_n hx hb d_M_enter_45 rfl (lv_at hl 2 rfl) ?_
      refine jg_M hc hh 5 (by decide) rfl wf_M_26 d_M_enter_46 ?_
      refine lv_iload hx hb d_M_enter_49 (lv_at hl 1 rfl) ?_
      refine jm_ild hc hh 5 (by decide) (by decide) jm_pr_ex d_M_enter_51 ?_
      have J52 : ∀  (ls : Array Slot), lv_has ls 9 [(0, .ref (ad 0)), (1, .int n), (2, .int url), (3, .int state), (4, .int push), (7, .int (jm_presentOf v n))] → W p l e (jr 6) s m args below meth c H locs 0 0 Q (F0 m 52 ls [.int (jm_stp v (jm_presentOf v n) push), .int url, .int n, .ref (ad 0)]) := by
        intro  ls hl
        refine jx_callV [.int n, .int url, .int (jm_stp v (jm_presentOf v n) push)] [] hc hh (m_load l D aK ad cA v n url (jm_stp v (jm_presentOf v n) push) hSv h_n hu) wy_M_140 ⟨by decide, rfl, rfl⟩ (by decide) rfl hl.1 rfl (by decide) ⟨Nat.zero_le _, Nat.zero_le _⟩ d_M_enter_52 (fun r u9 H locs hp hh _ _ => ?_)
        rw [hp.2] at hh
        refine W.eq (g2 := F0 m 55 ls [.int (nI (js_free v 10 47 0))]) (by rw [hp.1]; rfl) ?_
        refine lv_istore (i := 8) (lv' := [(8, .int (nI (js_free v 10 47 0))), (0, .ref (ad 0)), (1, .int n), (2, .int url), (3, .int state), (4, .int push), (7, .int (jm_presentOf v n))]) hx hb d_M_enter_55 hl (by decide) rfl (fun ls hl => ?_)
        refine lv_aload_n hx hb d_M_enter_57 rfl (lv_at hl 1 rfl) ?_
        refine jg_M hc hh 25 (by decide) rfl wf_M_93 d_M_enter_58 ?_
        refine lv_istore (i := 6) (lv' := [(6, .int ((jm_load v n url (jm_stp v (jm_presentOf v n) push)) 25 0)), (8, .int (nI (js_free v 10 47 0))), (0, .ref (ad 0)), (1, .int n), (2, .int url), (3, .int state), (4, .int push), (7, .int (jm_presentOf v n))]) hx hb d_M_enter_61 hl (by decide) rfl (fun ls hl => ?_)
        have J63 : ∀ (w : js_S) (to : Int32) (p9 : Int32) (H : Heap) (locs : List Loc) (ls : Array Slot), (jm_Sh w) → (∃ j, j < 48 ∧ p9 = nI j) → (jm_Nw w) → (jm_enter u n url state push d = jm_en2 w n (jm_presentOf v n) to state p9 push) → jx_H D 22 ad (jm_cell ad cA w) A s.heap H locs → lv_has ls 9 [(0, .ref (ad 0)), (1, .int n), (3, .int state), (4, .int push), (6, .int to), (7, .int (jm_presentOf v n)), (8, .int p9)] → W p l e (jr 6) s m args below meth c H locs 0 0 Q (F0 m 63 ls []) := by
          intro w to p9 H locs ls hSw hp9 hnw hw hh hl
          refine lv_iload hx hb d_M_enter_63 (lv_at hl 3 rfl) ?_
          refine lv_if_eq (tgt := 93) hx hb d_M_enter_65 rfl (fun h65 => ?_) (fun h65 => ?_)
          ·
            have J93 : ∀ (x : js_S) (e9 : Int32) (H : Heap) (locs : List Loc) (ls : Array Slot), (jm_Sh x) → (∃ j, j < 48 ∧ e9 = nI j) → (∃ k, k < 2 ^ 31 ∧ x 21 0 = nI k) → (jm_enter u n url state push d = jm_fin x e9 to state p9) → jx_H D 22 ad (jm_cell ad cA x) A s.heap H locs → lv_has ls 9 [(0, .ref (ad 0)), (3, .int state), (6, .int to), (7, .int e9), (8, .int p9)] → W p l e (jr 6) s m args below meth c H locs 0 0 Q (F0 m 93 ls []) := by
              intro x e9 H locs ls hSx he9 hnx hx9 hh hl
              refine lv_aload_n hx hb d_M_enter_93 rfl (lv_at hl 0 rfl) ?_
              refine jg_M hc hh 6 (by decide) rfl wf_M_29 d_M_enter_94 ?_
              refine lv_iload hx hb d_M_enter_97 (lv_at hl 3 rfl) ?_
              refine lv_iload hx hb d_M_enter_99 (lv_at hl 2 rfl) ?_
              refine jm_ist hc hh 6 (by decide) (by decide) he9 d_M_enter_101 (fun H locs hh => ?_)
              refine lv_aload_n hx hb d_M_enter_102 rfl (lv_at hl 0 rfl) ?_
              refine jg_M hc hh 7 (by decide) rfl wf_M_32 d_M_enter_103 ?_
              refine lv_iload hx hb d_M_enter_106 (lv_at hl 3 rfl) ?_
              refine lv_iload_n hx hb d_M_enter_108 rfl (lv_at hl 1 rfl) ?_
              refine jm_ist hc hh 7 (by decide) (by decide) he9 d_M_enter_109 (fun H locs hh => ?_)
              refine lv_aload_n hx hb d_M_enter_110 rfl (lv_at hl 0 rfl) ?_
              refine jg_M hc hh 8 (by decide) rfl wf_M_35 d_M_enter_111 ?_
              refine lv_iload hx hb d_M_enter_114 (lv_at hl 3 rfl) ?_
              refine lv_iload hx hb d_M_enter_116 (lv_at hl 4 rfl) ?_
              refine jm_ist hc hh 8 (by decide) (by decide) he9 d_M_enter_118 (fun H locs hh => ?_)
              refine lv_aload_n hx hb d_M_enter_119 rfl (lv_at hl 0 rfl) ?_
              refine jx_callV [] [] hc hh (m_mark l D aK ad cA (js_up (js_up (js_up x 6 (ix e9) to) 7 (ix e9) state) 8 (ix e9) p9) (jm_Sh_8 (jm_Sh_7 (jm_Sh_6 hSx)) hp9)) wy_M_82 ⟨by decide, rfl, rfl⟩ (by decide) rfl hl.1 rfl (by decide) ⟨Nat.zero_le _, Nat.zero_le _⟩ d_M_enter_120 (fun r u9 H locs hp hh _ _ => ?_)
              rw [hp.2] at hh
              refine W.eq (g2 := F0 m 123 ls []) rfl ?_
              refine lv_aload_n hx hb d_M_enter_123 rfl (lv_at hl 0 rfl) ?_
              refine jx_callV [] [] hc hh (m_settle l D aK ad cA (jm_mark (js_up (js_up (js_up x 6 (ix e9) to) 7 (ix e9) state) 8 (ix e9) p9)) (jm_Sh_mark (jm_Sh_8 (jm_Sh_7 (jm_Sh_6 hSx)) hp9)) (by rw [jm_mark_21, js_up_f (by decide), js_up_f (by decide), js_up_f (by decide)]; exact hnx)) wy_M_143 ⟨by decide, rfl, rfl⟩ (by decide) rfl hl.1 rfl (by decide) ⟨Nat.zero_le _, Nat.zero_le _⟩ d_M_enter_124 (fun r u9 H locs hp hh _ _ => ?_)
              rw [hp.2] at hh
              refine W.eq (g2 := F0 m 127 ls []) rfl ?_
              exact jx_vret (r := ()) hc hh hQ hlk hr rfl ⟨rfl, by rw [hx9]; rfl⟩ d_M_enter_127
            refine J93 w (jm_presentOf v n) _ _ _ hSw jm_pr_ex (jm_Nw_k hnw) (by rw [hw]; unfold jm_en2; rw [if_pos h65]) ?_ ?_
            ·
              exact hh
            exact lv_sub hl [0, 2, 4, 5, 6] rfl
          refine lv_aload_n hx hb d_M_enter_68 rfl (lv_at hl 0 rfl) ?_
          refine lv_dup hx hb d_M_enter_69 rfl ?_
          refine jg_M hc hh 21 (by decide) rfl wf_M_130 d_M_enter_70 ?_
          refine lv_iconst (v := 1) hx hb d_M_enter_73 (by decide) ?_
          refine lv_iadd hx hb d_M_enter_74 ?_
          refine jpm_21 hc hh wf_M_130 d_M_enter_75 (fun H locs hh => ?_)
          refine lv_aload_n hx hb d_M_enter_78 rfl (lv_at hl 0 rfl) ?_
          refine lv_iload_n hx hb d_M_enter_79 rfl (lv_at hl 1 rfl) ?_
          refine lv_aload_n hx hb d_M_enter_80 rfl (lv_at hl 0 rfl) ?_
          refine jg_M hc hh 21 (by decide) rfl wf_M_130 d_M_enter_81 ?_
          refine lv_iload hx hb d_M_enter_84 (lv_at hl 4 rfl) ?_
          refine lv_iload hx hb d_M_enter_86 (lv_at hl 6 rfl) ?_
          refine jx_callV [.int n, .int ((js_up w 21 0 ((w 21 0) + 1)) 21 0), .int to, .int p9] [] hc hh (m_write l D aK ad cA (js_up w 21 0 ((w 21 0) + 1)) n ((js_up w 21 0 ((w 21 0) + 1)) 21 0) to p9) wy_M_78 ⟨by decide, rfl, rfl⟩ (by decide) rfl hl.1 rfl (by decide) ⟨Nat.zero_le _, Nat.zero_le _⟩ d_M_enter_88 (fun r u9 H locs hp hh _ _ => ?_)
          rw [hp.2] at hh
          refine W.eq (g2 := F0 m 91 ls [.int (nI (js_free (js_up w 21 0 ((w 21 0) + 1)) 9 47 0))]) (by rw [hp.1]; rfl) ?_
          refine lv_istore (i := 7) (lv' := [(7, .int (nI (js_free (js_up w 21 0 ((w 21 0) + 1)) 9 47 0))), (0, .ref (ad 0)), (1, .int n), (3, .int state), (4, .int push), (6, .int to), (8, .int p9)]) hx hb d_M_enter_91 hl (by decide) rfl (fun ls hl => ?_)
          have J93 : ∀ (x : js_S) (e9 : Int32) (H : Heap) (locs : List Loc) (ls : Array Slot), (jm_Sh x) → (∃ j, j < 48 ∧ e9 = nI j) → (∃ k, k < 2 ^ 31 ∧ x 21 0 = nI k) → (jm_enter u n url state push d = jm_fin x e9 to state p9) → jx_H D 22 ad (jm_cell ad cA x) A s.heap H locs → lv_has ls 9 [(0, .ref (ad 0)), (3, .int state), (6, .int to), (7, .int e9), (8, .int p9)] → W p l e (jr 6) s m args below meth c H locs 0 0 Q (F0 m 93 ls []) := by
            intro x e9 H locs ls hSx he9 hnx hx9 hh hl
            refine lv_aload_n hx hb d_M_enter_93 rfl (lv_at hl 0 rfl) ?_
            refine jg_M hc hh 6 (by decide) rfl wf_M_29 d_M_enter_94 ?_
            refine lv_iload hx hb d_M_enter_97 (lv_at hl 3 rfl) ?_
            refine lv_iload hx hb d_M_enter_99 (lv_at hl 2 rfl) ?_
            refine jm_ist hc hh 6 (by decide) (by decide) he9 d_M_enter_101 (fun H locs hh => ?_)
            refine lv_aload_n hx hb d_M_enter_102 rfl (lv_at hl 0 rfl) ?_
            refine jg_M hc hh 7 (by decide) rfl wf_M_32 d_M_enter_103 ?_
            refine lv_iload hx hb d_M_enter_106 (lv_at hl 3 rfl) ?_
            refine lv_iload_n hx hb d_M_enter_108 rfl (lv_at hl 1 rfl) ?_
            refine jm_ist hc hh 7 (by decide) (by decide) he9 d_M_enter_109 (fun H locs hh => ?_)
            refine lv_aload_n hx hb d_M_enter_110 rfl (lv_at hl 0 rfl) ?_
            refine jg_M hc hh 8 (by decide) rfl wf_M_35 d_M_enter_111 ?_
            refine lv_iload hx hb d_M_enter_114 (lv_at hl 3 rfl) ?_
            refine lv_iload hx hb d_M_enter_116 (lv_at hl 4 rfl) ?_
            refine jm_ist hc hh 8 (by decide) (by decide) he9 d_M_enter_118 (fun H locs hh => ?_)
            refine lv_aload_n hx hb d_M_enter_119 rfl (lv_at hl 0 rfl) ?_
            refine jx_callV [] [] hc hh (m_mark l D aK ad cA (js_up (js_up (js_up x 6 (ix e9) to) 7 (ix e9) state) 8 (ix e9) p9) (jm_Sh_8 (jm_Sh_7 (jm_Sh_6 hSx)) hp9)) wy_M_82 ⟨by decide, rfl, rfl⟩ (by decide) rfl hl.1 rfl (by decide) ⟨Nat.zero_le _, Nat.zero_le _⟩ d_M_enter_120 (fun r u9 H locs hp hh _ _ => ?_)
            rw [hp.2] at hh
            refine W.eq (g2 := F0 m 123 ls []) rfl ?_
            refine lv_aload_n hx hb d_M_enter_123 rfl (lv_at hl 0 rfl) ?_
            refine jx_callV [] [] hc hh (m_settle l D aK ad cA (jm_mark (js_up (js_up (js_up x 6 (ix e9) to) 7 (ix e9) state) 8 (ix e9) p9)) (jm_Sh_mark (jm_Sh_8 (jm_Sh_7 (jm_Sh_6 hSx)) hp9)) (by rw [jm_mark_21, js_up_f (by decide), js_up_f (by decide), js_up_f (by decide)]; exact hnx)) wy_M_143 ⟨by decide, rfl, rfl⟩ (by decide) rfl hl.1 rfl (by decide) ⟨Nat.zero_le _, Nat.zero_le _⟩ d_M_enter_124 (fun r u9 H locs hp hh _ _ => ?_)
            rw [hp.2] at hh
            refine W.eq (g2 := F0 m 127 ls []) rfl ?_
            exact jx_vret (r := ()) hc hh hQ hlk hr rfl ⟨rfl, by rw [hx9]; rfl⟩ d_M_enter_127
          refine J93 (jm_write (js_up w 21 0 ((w 21 0) + 1)) n ((js_up w 21 0 ((w 21 0) + 1)) 21 0) to p9) (nI (js_free (js_up w 21 0 ((w 21 0) + 1)) 9 47 0)) _ _ _ (jm_Sh_wr (jm_Sh_21 hSw) h_n hp9) ⟨_, js_f47, rfl⟩ (by unfold jm_write jm_wr; rw [js_up_f (by decide), js_up_f (by decide), js_up_f (by decide), js_up_f (by decide), js_up_f (by decide), js_up_f (by decide)]; exact jm_Nw_up hnw) (by rw [hw]; unfold jm_en2 jm_en3; rw [if_neg h65]) ?_ ?_
          ·
            exact hh
          exact lv_sub hl [1, 3, 5, 0, 6] rfl
        refine J63 (jm_load v n url (jm_stp v (jm_presentOf v n) push)) ((jm_load v n url (jm_stp v (jm_presentOf v n) push)) 25 0) (nI (js_free v 10 47 0)) _ _ _ (jm_load_ok hSv hu) ⟨_, js_f47, rfl⟩ (jm_Nw_of hnv jm_load_21) (by rw [hv]; unfold jm_en1; rw [if_neg h25]) ?_ ?_
        ·
          exact hh
        exact lv_sub hl [2, 3, 5, 6, 0, 7, 1] rfl
      have e3 : (jm_stp v (jm_presentOf v n) push) = (v 5 (ix (jm_presentOf v n))) := by first | (simp [jm_stp, h25, h33]; done) | (simp [jm_stp, h25, eq_true h33]; done)
      refine W.eq (g2 := F0 m 52 ls [.int (jm_stp v (jm_presentOf v n) push), .int url, .int n, .ref (ad 0)]) (by first | (rw [e3]; done) | (rw [e3]; rfl)) ?_
      refine J52 _ ?_
      exact lv_sub hl [2, 3, 4, 5, 6, 1] rfl
    refine lv_aload_n hx hb d_M_enter_36 rfl (lv_at hl 2 rfl) ?_
    refine jg_M hc hh 21 (by decide) rfl wf_M_130 d_M_enter_37 ?_
    refine lv_iconst (v := 1) hx hb d_M_enter_40 (by decide) ?_
    refine lv_iadd hx hb d_M_enter_41 ?_
    refine lv_goto (tgt := 52) hx hb d_M_enter_42 rfl ?_
    have J52 : ∀  (ls : Array Slot), lv_has ls 9 [(0, .ref (ad 0)), (1, .int n), (2, .int url), (3, .int state), (4, .int push), (7, .int (jm_presentOf v n))] → W p l e (jr 6) s m args below meth c H locs 0 0 Q (F0 m 52 ls [.int (jm_stp v (jm_presentOf v n) push), .int url, .int n, .ref (ad 0)]) := by
      intro  ls hl
      refine jx_callV [.int n, .int url, .int (jm_stp v (jm_presentOf v n) push)] [] hc hh (m_load l D aK ad cA v n url (jm_stp v (jm_presentOf v n) push) hSv h_n hu) wy_M_140 ⟨by decide, rfl, rfl⟩ (by decide) rfl hl.1 rfl (by decide) ⟨Nat.zero_le _, Nat.zero_le _⟩ d_M_enter_52 (fun r u9 H locs hp hh _ _ => ?_)
      rw [hp.2] at hh
      refine W.eq (g2 := F0 m 55 ls [.int (nI (js_free v 10 47 0))]) (by rw [hp.1]; rfl) ?_
      refine lv_istore (i := 8) (lv' := [(8, .int (nI (js_free v 10 47 0))), (0, .ref (ad 0)), (1, .int n), (2, .int url), (3, .int state), (4, .int push), (7, .int (jm_presentOf v n))]) hx hb d_M_enter_55 hl (by decide) rfl (fun ls hl => ?_)
      refine lv_aload_n hx hb d_M_enter_57 rfl (lv_at hl 1 rfl) ?_
      refine jg_M hc hh 25 (by decide) rfl wf_M_93 d_M_enter_58 ?_
      refine lv_istore (i := 6) (lv' := [(6, .int ((jm_load v n url (jm_stp v (jm_presentOf v n) push)) 25 0)), (8, .int (nI (js_free v 10 47 0))), (0, .ref (ad 0)), (1, .int n), (2, .int url), (3, .int state), (4, .int push), (7, .int (jm_presentOf v n))]) hx hb d_M_enter_61 hl (by decide) rfl (fun ls hl => ?_)
      have J63 : ∀ (w : js_S) (to : Int32) (p9 : Int32) (H : Heap) (locs : List Loc) (ls : Array Slot), (jm_Sh w) → (∃ j, j < 48 ∧ p9 = nI j) → (jm_Nw w) → (jm_enter u n url state push d = jm_en2 w n (jm_presentOf v n) to state p9 push) → jx_H D 22 ad (jm_cell ad cA w) A s.heap H locs → lv_has ls 9 [(0, .ref (ad 0)), (1, .int n), (3, .int state), (4, .int push), (6, .int to), (7, .int (jm_presentOf v n)), (8, .int p9)] → W p l e (jr 6) s m args below meth c H locs 0 0 Q (F0 m 63 ls []) := by
        intro w to p9 H locs ls hSw hp9 hnw hw hh hl
        refine lv_iload hx hb d_M_enter_63 (lv_at hl 3 rfl) ?_
        refine lv_if_eq (tgt := 93) hx hb d_M_enter_65 rfl (fun h65 => ?_) (fun h65 => ?_)
        ·
          have J93 : ∀ (x : js_S) (e9 : Int32) (H : Heap) (locs : List Loc) (ls : Array Slot), (jm_Sh x) → (∃ j, j < 48 ∧ e9 = nI j) → (∃ k, k < 2 ^ 31 ∧ x 21 0 = nI k) → (jm_enter u n url state push d = jm_fin x e9 to state p9) → jx_H D 22 ad (jm_cell ad cA x) A s.heap H locs → lv_has ls 9 [(0, .ref (ad 0)), (3, .int state), (6, .int to), (7, .int e9), (8, .int p9)] → W p l e (jr 6) s m args below meth c H locs 0 0 Q (F0 m 93 ls []) := by
            intro x e9 H locs ls hSx he9 hnx hx9 hh hl
            refine lv_aload_n hx hb d_M_enter_93 rfl (lv_at hl 0 rfl) ?_
            refine jg_M hc hh 6 (by decide) rfl wf_M_29 d_M_enter_94 ?_
            refine lv_iload hx hb d_M_enter_97 (lv_at hl 3 rfl) ?_
            refine lv_iload hx hb d_M_enter_99 (lv_at hl 2 rfl) ?_
            refine jm_ist hc hh 6 (by decide) (by decide) he9 d_M_enter_101 (fun H locs hh => ?_)
            refine lv_aload_n hx hb d_M_enter_102 rfl (lv_at hl 0 rfl) ?_
            refine jg_M hc hh 7 (by decide) rfl wf_M_32 d_M_enter_103 ?_
            refine lv_iload hx hb d_M_enter_106 (lv_at hl 3 rfl) ?_
            refine lv_iload_n hx hb d_M_enter_108 rfl (lv_at hl 1 rfl) ?_
            refine jm_ist hc hh 7 (by decide) (by decide) he9 d_M_enter_109 (fun H locs hh => ?_)
            refine lv_aload_n hx hb d_M_enter_110 rfl (lv_at hl 0 rfl) ?_
            refine jg_M hc hh 8 (by decide) rfl wf_M_35 d_M_enter_111 ?_
            refine lv_iload hx hb d_M_enter_114 (lv_at hl 3 rfl) ?_
            refine lv_iload hx hb d_M_enter_116 (lv_at hl 4 rfl) ?_
            refine jm_ist hc hh 8 (by decide) (by decide) he9 d_M_enter_118 (fun H locs hh => ?_)
            refine lv_aload_n hx hb d_M_enter_119 rfl (lv_at hl 0 rfl) ?_
            refine jx_callV [] [] hc hh (m_mark l D aK ad cA (js_up (js_up (js_up x 6 (ix e9) to) 7 (ix e9) state) 8 (ix e9) p9) (jm_Sh_8 (jm_Sh_7 (jm_Sh_6 hSx)) hp9)) wy_M_82 ⟨by decide, rfl, rfl⟩ (by decide) rfl hl.1 rfl (by decide) ⟨Nat.zero_le _, Nat.zero_le _⟩ d_M_enter_120 (fun r u9 H locs hp hh _ _ => ?_)
            rw [hp.2] at hh
            refine W.eq (g2 := F0 m 123 ls []) rfl ?_
            refine lv_aload_n hx hb d_M_enter_123 rfl (lv_at hl 0 rfl) ?_
            refine jx_callV [] [] hc hh (m_settle l D aK ad cA (jm_mark (js_up (js_up (js_up x 6 (ix e9) to) 7 (ix e9) state) 8 (ix e9) p9)) (jm_Sh_mark (jm_Sh_8 (jm_Sh_7 (jm_Sh_6 hSx)) hp9)) (by rw [jm_mark_21, js_up_f (by decide), js_up_f (by decide), js_up_f (by decide)]; exact hnx)) wy_M_143 ⟨by decide, rfl, rfl⟩ (by decide) rfl hl.1 rfl (by decide) ⟨Nat.zero_le _, Nat.zero_le _⟩ d_M_enter_124 (fun r u9 H locs hp hh _ _ => ?_)
            rw [hp.2] at hh
            refine W.eq (g2 := F0 m 127 ls []) rfl ?_
            exact jx_vret (r := ()) hc hh hQ hlk hr rfl ⟨rfl, by rw [hx9]; rfl⟩ d_M_enter_127
          refine J93 w (jm_presentOf v n) _ _ _ hSw jm_pr_ex (jm_Nw_k hnw) (by rw [hw]; unfold jm_en2; rw [if_pos h65]) ?_ ?_
          ·
            exact hh
          exact lv_sub hl [0, 2, 4, 5, 6] rfl
        refine lv_aload_n hx hb d_M_enter_68 rfl (lv_at hl 0 rfl) ?_
        refine lv_dup hx hb d_M_enter_69 rfl ?_
        refine jg_M hc hh 21 (by decide) rfl wf_M_130 d_M_enter_70 ?_
        refine lv_iconst (v := 1) hx hb d_M_enter_73 (by decide) ?_
        refine lv_iadd hx hb d_M_enter_74 ?_
        refine jpm_21 hc hh wf_M_130 d_M_enter_75 (fun H locs hh => ?_)
        refine lv_aload_n hx hb d_M_enter_78 rfl (lv_at hl 0 rfl) ?_
        refine lv_iload_n hx hb d_M_enter_79 rfl (lv_at hl 1 rfl) ?_
        refine lv_aload_n hx hb d_M_enter_80 rfl (lv_at hl 0 rfl) ?_
        refine jg_M hc hh 21 (by decide) rfl wf_M_130 d_M_enter_81 ?_
        refine lv_iload hx hb d_M_enter_84 (lv_at hl 4 rfl) ?_
        refine lv_iload hx hb d_M_enter_86 (lv_at hl 6 rfl) ?_
        refine jx_callV [.int n, .int ((js_up w 21 0 ((w 21 0) + 1)) 21 0), .int to, .int p9] [] hc hh (m_write l D aK ad cA (js_up w 21 0 ((w 21 0) + 1)) n ((js_up w 21 0 ((w 21 0) + 1)) 21 0) to p9) wy_M_78 ⟨by decide, rfl, rfl⟩ (by decide) rfl hl.1 rfl (by decide) ⟨Nat.zero_le _, Nat.zero_le _⟩ d_M_enter_88 (fun r u9 H locs hp hh _ _ => ?_)
        rw [hp.2] at hh
        refine W.eq (g2 := F0 m 91 ls [.int (nI (js_free (js_up w 21 0 ((w 21 0) + 1)) 9 47 0))]) (by rw [hp.1]; rfl) ?_
        refine lv_istore (i := 7) (lv' := [(7, .int (nI (js_free (js_up w 21 0 ((w 21 0) + 1)) 9 47 0))), (0, .ref (ad 0)), (1, .int n), (3, .int state), (4, .int push), (6, .int to), (8, .int p9)]) hx hb d_M_enter_91 hl (by decide) rfl (fun ls hl => ?_)
        have J93 : ∀ (x : js_S) (e9 : Int32) (H : Heap) (locs : List Loc) (ls : Array Slot), (jm_Sh x) → (∃ j, j < 48 ∧ e9 = nI j) → (∃ k, k < 2 ^ 31 ∧ x 21 0 = nI k) → (jm_enter u n url state push d = jm_fin x e9 to state p9) → jx_H D 22 ad (jm_cell ad cA x) A s.heap H locs → lv_has ls 9 [(0, .ref (ad 0)), (3, .int state), (6, .int to), (7, .int e9), (8, .int p9)] → W p l e (jr 6) s m args below meth c H locs 0 0 Q (F0 m 93 ls []) := by
          intro x e9 H locs ls hSx he9 hnx hx9 hh hl
          refine lv_aload_n hx hb d_M_enter_93 rfl (lv_at hl 0 rfl) ?_
          refine jg_M hc hh 6 (by decide) rfl wf_M_29 d_M_enter_94 ?_
          refine lv_iload hx hb d_M_enter_97 (lv_at hl 3 rfl) ?_
          refine lv_iload hx hb d_M_enter_99 (lv_at hl 2 rfl) ?_
          refine jm_ist hc hh 6 (by decide) (by decide) he9 d_M_enter_101 (fun H locs hh => ?_)
          refine lv_aload_n hx hb d_M_enter_102 rfl (lv_at hl 0 rfl) ?_
          refine jg_M hc hh 7 (by decide) rfl wf_M_32 d_M_enter_103 ?_
          refine lv_iload hx hb d_M_enter_106 (lv_at hl 3 rfl) ?_
          refine lv_iload_n hx hb d_M_enter_108 rfl (lv_at hl 1 rfl) ?_
          refine jm_ist hc hh 7 (by decide) (by decide) he9 d_M_enter_109 (fun H locs hh => ?_)
          refine lv_aload_n hx hb d_M_enter_110 rfl (lv_at hl 0 rfl) ?_
          refine jg_M hc hh 8 (by decide) rfl wf_M_35 d_M_enter_111 ?_
          refine lv_iload hx hb d_M_enter_114 (lv_at hl 3 rfl) ?_
          refine lv_iload hx hb d_M_enter_116 (lv_at hl 4 rfl) ?_
          refine jm_ist hc hh 8 (by decide) (by decide) he9 d_M_enter_118 (fun H locs hh => ?_)
          refine lv_aload_n hx hb d_M_enter_119 rfl (lv_at hl 0 rfl) ?_
          refine jx_callV [] [] hc hh (m_mark l D aK ad cA (js_up (js_up (js_up x 6 (ix e9) to) 7 (ix e9) state) 8 (ix e9) p9) (jm_Sh_8 (jm_Sh_7 (jm_Sh_6 hSx)) hp9)) wy_M_82 ⟨by decide, rfl, rfl⟩ (by decide) rfl hl.1 rfl (by decide) ⟨Nat.zero_le _, Nat.zero_le _⟩ d_M_enter_120 (fun r u9 H locs hp hh _ _ => ?_)
          rw [hp.2] at hh
          refine W.eq (g2 := F0 m 123 ls []) rfl ?_
          refine lv_aload_n hx hb d_M_enter_123 rfl (lv_at hl 0 rfl) ?_
          refine jx_callV [] [] hc hh (m_settle l D aK ad cA (jm_mark (js_up (js_up (js_up x 6 (ix e9) to) 7 (ix e9) state) 8 (ix e9) p9)) (jm_Sh_mark (jm_Sh_8 (jm_Sh_7 (jm_Sh_6 hSx)) hp9)) (by rw [jm_mark_21, js_up_f (by decide), js_up_f (by decide), js_up_f (by decide)]; exact hnx)) wy_M_143 ⟨by decide, rfl, rfl⟩ (by decide) rfl hl.1 rfl (by decide) ⟨Nat.zero_le _, Nat.zero_le _⟩ d_M_enter_124 (fun r u9 H locs hp hh _ _ => ?_)
          rw [hp.2] at hh
          refine W.eq (g2 := F0 m 127 ls []) rfl ?_
          exact jx_vret (r := ()) hc hh hQ hlk hr rfl ⟨rfl, by rw [hx9]; rfl⟩ d_M_enter_127
        refine J93 (jm_write (js_up w 21 0 ((w 21 0) + 1)) n ((js_up w 21 0 ((w 21 0) + 1)) 21 0) to p9) (nI (js_free (js_up w 21 0 ((w 21 0) + 1)) 9 47 0)) _ _ _ (jm_Sh_wr (jm_Sh_21 hSw) h_n hp9) ⟨_, js_f47, rfl⟩ (by unfold jm_write jm_wr; rw [js_up_f (by decide), js_up_f (by decide), js_up_f (by decide), js_up_f (by decide), js_up_f (by decide), js_up_f (by decide)]; exact jm_Nw_up hnw) (by rw [hw]; unfold jm_en2 jm_en3; rw [if_neg h65]) ?_ ?_
        ·
          exact hh
        exact lv_sub hl [1, 3, 5, 0, 6] rfl
      refine J63 (jm_load v n url (jm_stp v (jm_presentOf v n) push)) ((jm_load v n url (jm_stp v (jm_presentOf v n) push)) 25 0) (nI (js_free v 10 47 0)) _ _ _ (jm_load_ok hSv hu) ⟨_, js_f47, rfl⟩ (jm_Nw_of hnv jm_load_21) (by rw [hv]; unfold jm_en1; rw [if_neg h25]) ?_ ?_
      ·
        exact hh
      exact lv_sub hl [2, 3, 5, 6, 0, 7, 1] rfl
    have e4 : (jm_stp v (jm_presentOf v n) push) = ((v 21 0) + 1) := by simp [jm_stp, h25, h33]
    refine W.eq (g2 := F0 m 52 ls [.int (jm_stp v (jm_presentOf v n) push), .int url, .int n, .ref (ad 0)]) (by first | (rw [e4]; done) | (rw [e4]; rfl)) ?_
    refine J52 _ ?_
    exact lv_sub hl [2, 3, 4, 5, 6, 1] rfl
  refine J12 (jm_cutOff u) _ _ _ (jm_Sh_cut hS) (jm_Nw_of hn jm_cut_21) (by unfold jm_enter; rw [if_neg h5]) ?_ ?_
  ·
    exact hh
  exact lv_sub hl [1, 2, 3, 4, 5, 6, 0] rfl
set_option maxHeartbeats 4000000 in
set_option maxRecDepth 100000 in
theorem m_navigate (l : Launch) (D : va_G) (aK ad : Nat → Nat) (cA : Nat → ClassId) (u : js_S) (n : Int32) (url : Int32) (rep : Int32) (hS : jm_Sh u) (hn : jm_Nw u) : jx_M l y_M_navigate b_M_navigate 8 (some .int) (jr 7) D (jc_tys cA) aK 22 ad (jm_cell ad cA) [.ref (ad 0), .int n, .int url, .int rep] u (fun r : Int32 => some (.int r)) (fun r u' => r = (jm_navigate u n url rep).1 ∧ u' = (jm_navigate u n url rep).2) := by
  refine jx_enter "JointHistoryModel" (by decide) rfl (by simp [lg_sl, vc_int, vc_ref, vc_long, jv_cat]) ?_
  intro p e s m args below meth c A Q H locs ls hQ hc hh hr hlk hl
  have hx := hc.1
  have hb := hc.2.1
  have hl : lv_has ls 8 [(0, .ref (ad 0)), (1, .int n), (2, .int url), (3, .int rep)] := by simpa [lv_args, vc_int, vc_ref, vc_long, jv_cat] using hl
  refine lv_iload_n hx hb d_M_navigate_0 rfl (lv_at hl 2 rfl) ?_
  refine lv_iconst (v := -1) hx hb d_M_navigate_1 (by decide) ?_
  refine lv_sipush (v := 255) hx hb d_M_navigate_2 (by decide) ?_
  refine jx_callS [.int url, .int (-1), .int 255] [] hc hh (m_between l D aK ad cA u url (-1) 255) wy_M_85 (by decide) rfl hl.1 rfl (by decide) ⟨Nat.zero_le _, Nat.zero_le _⟩ d_M_navigate_5 (fun r u9 H locs hp hh _ _ => ?_)
  rw [hp.2] at hh
  refine W.eq (g2 := F0 m 8 ls [.int (jm_btw url (-1) 255)]) (by rw [hp.1]; rfl) ?_
  refine lv_if_ne (tgt := 14) hx hb d_M_navigate_8 rfl (fun h8 => ?_) (fun h8 => ?_)
  ·
    refine lv_aload_n hx hb d_M_navigate_14 rfl (lv_at hl 0 rfl) ?_
    refine lv_iload_n hx hb d_M_navigate_15 rfl (lv_at hl 1 rfl) ?_
    refine jx_callV [.int n] [] hc hh (m_isShown l D aK ad cA u n) wy_M_146 ⟨by decide, rfl, rfl⟩ (by decide) rfl hl.1 rfl (by decide) ⟨Nat.zero_le _, Nat.zero_le _⟩ d_M_navigate_16 (fun r u9 H locs hp hh _ _ => ?_)
    rw [hp.2] at hh
    refine W.eq (g2 := F0 m 19 ls [.int (jm_isShown u n)]) (by rw [hp.1]; rfl) ?_
    refine lv_if_ne (tgt := 25) hx hb d_M_navigate_19 rfl (fun h19 => ?_) (fun h19 => ?_)
    ·
      refine lv_aload_n hx hb d_M_navigate_25 rfl (lv_at hl 0 rfl) ?_
      refine lv_iload_n hx hb d_M_navigate_26 rfl (lv_at hl 1 rfl) ?_
      refine jx_callV [.int n] [] hc hh (m_presentOf l D aK ad cA u n) wy_M_124 ⟨by decide, rfl, rfl⟩ (by decide) rfl hl.1 rfl (by decide) ⟨Nat.zero_le _, Nat.zero_le _⟩ d_M_navigate_27 (fun r u9 H locs hp hh _ _ => ?_)
      rw [hp.2] at hh
      refine W.eq (g2 := F0 m 30 ls [.int (jm_presentOf u n)]) (by rw [hp.1]; rfl) ?_
      refine lv_istore (i := 4) (lv' := [(4, .int (jm_presentOf u n)), (0, .ref (ad 0)), (1, .int n), (2, .int url), (3, .int rep)]) hx hb d_M_navigate_30 hl (by decide) rfl (fun ls hl => ?_)
      refine lv_aload_n hx hb d_M_navigate_32 rfl (lv_at hl 1 rfl) ?_
      refine jg_M hc hh 6 (by decide) rfl wf_M_29 d_M_navigate_33 ?_
      refine lv_iload hx hb d_M_navigate_36 (lv_at hl 0 rfl) ?_
      refine jm_ild hc hh 6 (by decide) (by decide) jm_pr_ex d_M_navigate_38 ?_
      refine lv_istore (i := 5) (lv' := [(5, .int (u 6 (ix (jm_presentOf u n)))), (4, .int (jm_presentOf u n)), (0, .ref (ad 0)), (1, .int n), (2, .int url), (3, .int rep)]) hx hb d_M_navigate_39 hl (by decide) rfl (fun ls hl => ?_)
      refine lv_iload_n hx hb d_M_navigate_41 rfl (lv_at hl 5 rfl) ?_
      refine lv_if_ne (tgt := 55) hx hb d_M_navigate_42 rfl (fun h42 => ?_) (fun h42 => ?_)
      ·
        refine lv_iconst (v := 0) hx hb d_M_navigate_55 (by decide) ?_
        have J56 : ∀  (H : Heap) (locs : List Loc) (ls : Array Slot), jx_H D 22 ad (jm_cell ad cA u) A s.heap H locs → lv_has ls 8 [(0, .ref (ad 0)), (1, .int n), (2, .int url), (4, .int (jm_presentOf u n)), (5, .int (u 6 (ix (jm_presentOf u n))))] → W p l e (jr 7) s m args below meth c H locs 0 0 Q (F0 m 56 ls [.int (jm_push rep url (u 6 (ix (jm_presentOf u n))))]) := by
          intro  H locs ls hh hl
          refine lv_istore (i := 6) (lv' := [(6, .int (jm_push rep url (u 6 (ix (jm_presentOf u n))))), (0, .ref (ad 0)), (1, .int n), (2, .int url), (4, .int (jm_presentOf u n)), (5, .int (u 6 (ix (jm_presentOf u n))))]) hx hb d_M_navigate_56 hl (by decide) rfl (fun ls hl => ?_)
          refine lv_aload_n hx hb d_M_navigate_58 rfl (lv_at hl 1 rfl) ?_
          refine lv_iload hx hb d_M_navigate_59 (lv_at hl 0 rfl) ?_
          refine jx_callV [.int (jm_push rep url (u 6 (ix (jm_presentOf u n))))] [] hc hh (m_full l D aK ad cA u (jm_push rep url (u 6 (ix (jm_presentOf u n))))) wy_M_149 ⟨by decide, rfl, rfl⟩ (by decide) rfl hl.1 rfl (by decide) ⟨Nat.zero_le _, Nat.zero_le _⟩ d_M_navigate_61 (fun r u9 H locs hp hh _ _ => ?_)
          rw [hp.2] at hh
          refine W.eq (g2 := F0 m 64 ls [.int (jm_full u (jm_push rep url (u 6 (ix (jm_presentOf u n)))))]) (by rw [hp.1]; rfl) ?_
          refine lv_if_eq (tgt := 70) hx hb d_M_navigate_64 rfl (fun h64 => ?_) (fun h64 => ?_)
          ·
            refine lv_iload_n hx hb d_M_navigate_70 rfl (lv_at hl 3 rfl) ?_
            refine lv_iconst (v := -1) hx hb d_M_navigate_71 (by decide) ?_
            refine lv_icmp_eq (tgt := 104) hx hb d_M_navigate_72 rfl (fun h72 => ?_) (fun h72 => ?_)
            ·
              refine lv_iconst (v := 0) hx hb d_M_navigate_104 (by decide) ?_
              have J105 : ∀  (H : Heap) (locs : List Loc) (ls : Array Slot), jx_H D 22 ad (jm_cell ad cA u) A s.heap H locs → lv_has ls 8 [(0, .ref (ad 0)), (1, .int n), (2, .int url), (4, .int (jm_presentOf u n)), (5, .int (u 6 (ix (jm_presentOf u n)))), (6, .int (jm_push rep url (u 6 (ix (jm_presentOf u n)))))] → W p l e (jr 7) s m args below meth c H locs 0 0 Q (F0 m 105 ls [.int (jm_within (u 6 (ix (jm_presentOf u n))) url)]) := by
                intro  H locs ls hh hl
                refine lv_istore (i := 7) (lv' := [(7, .int (jm_within (u 6 (ix (jm_presentOf u n))) url)), (0, .ref (ad 0)), (1, .int n), (2, .int url), (4, .int (jm_presentOf u n)), (5, .int (u 6 (ix (jm_presentOf u n)))), (6, .int (jm_push rep url (u 6 (ix (jm_presentOf u n)))))]) hx hb d_M_navigate_105 hl (by decide) rfl (fun ls hl => ?_)
                refine lv_iload hx hb d_M_navigate_107 (lv_at hl 0 rfl) ?_
                refine lv_if_eq (tgt := 128) hx hb d_M_navigate_109 rfl (fun h109 => ?_) (fun h109 => ?_)
                ·
                  have J128 : ∀  (H : Heap) (locs : List Loc) (ls : Array Slot), jx_H D 22 ad (jm_cell ad cA (jm_nh u url (u 6 (ix (jm_presentOf u n))) (jm_within (u 6 (ix (jm_presentOf u n))) url))) A s.heap H locs → lv_has ls 8 [(0, .ref (ad 0)), (1, .int n), (2, .int url), (4, .int (jm_presentOf u n)), (6, .int (jm_push rep url (u 6 (ix (jm_presentOf u n))))), (7, .int (jm_within (u 6 (ix (jm_presentOf u n))) url))] → W p l e (jr 7) s m args below meth c H locs 0 0 Q (F0 m 128 ls []) := by
                    intro  H locs ls hh hl
                    refine lv_aload_n hx hb d_M_navigate_128 rfl (lv_at hl 0 rfl) ?_
                    refine lv_iload_n hx hb d_M_navigate_129 rfl (lv_at hl 1 rfl) ?_
                    refine lv_iload_n hx hb d_M_navigate_130 rfl (lv_at hl 2 rfl) ?_
                    refine lv_iconst (v := 0) hx hb d_M_navigate_131 (by decide) ?_
                    refine lv_iload hx hb d_M_navigate_132 (lv_at hl 4 rfl) ?_
                    refine lv_iload hx hb d_M_navigate_134 (lv_at hl 5 rfl) ?_
                    refine lv_if_eq (tgt := 149) hx hb d_M_navigate_136 rfl (fun h136 => ?_) (fun h136 => ?_)
                    ·
                      refine lv_iconst (v := -1) hx hb d_M_navigate_149 (by decide) ?_
                      have J150 : ∀  (ls : Array Slot), lv_has ls 8 [(0, .ref (ad 0))] → W p l e (jr 7) s m args below meth c H locs 0 0 Q (F0 m 150 ls [.int (jm_nd (jm_nh u url (u 6 (ix (jm_presentOf u n))) (jm_within (u 6 (ix (jm_presentOf u n))) url)) (jm_presentOf u n) (jm_within (u 6 (ix (jm_presentOf u n))) url)), .int (jm_push rep url (u 6 (ix (jm_presentOf u n)))), .int 0, .int url, .int n, .ref (ad 0)]) := by
                        intro  ls hl
                        refine jx_callV [.int n, .int url, .int 0, .int (jm_push rep url (u 6 (ix (jm_presentOf u n)))), .int (jm_nd (jm_nh u url (u 6 (ix (jm_presentOf u n))) (jm_within (u 6 (ix (jm_presentOf u n))) url)) (jm_presentOf u n) (jm_within (u 6 (ix (jm_presentOf u n))) url))] [] hc hh (m_enter l D aK ad cA (jm_nh u url (u 6 (ix (jm_presentOf u n))) (jm_within (u 6 (ix (jm_presentOf u n))) url)) n url 0 (jm_push rep url (u 6 (ix (jm_presentOf u n)))) (jm_nd (jm_nh u url (u 6 (ix (jm_presentOf u n))) (jm_within (u 6 (ix (jm_presentOf u n))) url)) (jm_presentOf u n) (jm_within (u 6 (ix (jm_presentOf u n))) url)) (jm_nh_Sh hS) (jm_shown_ex h19) (jm_btw_ub h8) (jm_nd_jq (jm_nh_Sh hS) jm_pr_ex) (jm_Nw_of hn jm_nh_21)) wy_M_159 ⟨by decide, rfl, rfl⟩ (by decide) rfl hl.1 rfl (by decide) ⟨Nat.zero_le _, Nat.zero_le _⟩ d_M_navigate_150 (fun r u9 H locs hp hh _ _ => ?_)
                        rw [hp.2] at hh
                        refine W.eq (g2 := F0 m 153 ls []) rfl ?_
                        refine lv_aload_n hx hb d_M_navigate_153 rfl (lv_at hl 0 rfl) ?_
                        refine jg_M hc hh 21 (by decide) rfl wf_M_130 d_M_navigate_154 ?_
                        exact jx_iret (r := ((jm_enter (jm_nh u url (u 6 (ix (jm_presentOf u n))) (jm_within (u 6 (ix (jm_presentOf u n))) url)) n url 0 (jm_push rep url (u 6 (ix (jm_presentOf u n)))) (jm_nd (jm_nh u url (u 6 (ix (jm_presentOf u n))) (jm_within (u 6 (ix (jm_presentOf u n))) url)) (jm_presentOf u n) (jm_within (u 6 (ix (jm_presentOf u n))) url))) 21 0)) hc hh hQ hlk hr rfl rfl ⟨by unfold jm_navigate jm_navF; rw [if_neg h8, if_neg h19, if_pos h64]; rfl, by unfold jm_navigate jm_navF; rw [if_neg h8, if_neg h19, if_pos h64]; rfl⟩ d_M_navigate_157
                      have e1 : (jm_nd (jm_nh u url (u 6 (ix (jm_presentOf u n))) (jm_within (u 6 (ix (jm_presentOf u n))) url)) (jm_presentOf u n) (jm_within (u 6 (ix (jm_presentOf u n))) url)) = (-1) := by first | (simp [jm_nd, h136]; done) | (simp [jm_nd, eq_true h136]; done)
                      refine W.eq (g2 := F0 m 150 ls [.int (jm_nd (jm_nh u url (u 6 (ix (jm_presentOf u n))) (jm_within (u 6 (ix (jm_presentOf u n))) url)) (jm_presentOf u n) (jm_within (u 6 (ix (jm_presentOf u n))) url)), .int (jm_push rep url (u 6 (ix (jm_presentOf u n)))), .int 0, .int url, .int n, .ref (ad 0)]) (by first | (rw [e1]; done) | (rw [e1]; rfl)) ?_
                      refine J150 _ ?_
                      exact lv_sub hl [0] rfl
                    refine lv_aload_n hx hb d_M_navigate_139 rfl (lv_at hl 0 rfl) ?_
                    refine jg_M hc hh 8 (by decide) rfl wf_M_35 d_M_navigate_140 ?_
                    refine lv_iload hx hb d_M_navigate_143 (lv_at hl 3 rfl) ?_
                    refine jm_ild hc hh 8 (by decide) (by decide) jm_pr_ex d_M_navigate_145 ?_
                    refine lv_goto (tgt := 150) hx hb d_M_navigate_146 rfl ?_
                    have J150 : ∀  (ls : Array Slot), lv_has ls 8 [(0, .ref (ad 0))] → W p l e (jr 7) s m args below meth c H locs 0 0 Q (F0 m 150 ls [.int (jm_nd (jm_nh u url (u 6 (ix (jm_presentOf u n))) (jm_within (u 6 (ix (jm_presentOf u n))) url)) (jm_presentOf u n) (jm_within (u 6 (ix (jm_presentOf u n))) url)), .int (jm_push rep url (u 6 (ix (jm_presentOf u n)))), .int 0, .int url, .int n, .ref (ad 0)]) := by
                      intro  ls hl
                      refine jx_callV [.int n, .int url, .int 0, .int (jm_push rep url (u 6 (ix (jm_presentOf u n)))), .int (jm_nd (jm_nh u url (u 6 (ix (jm_presentOf u n))) (jm_within (u 6 (ix (jm_presentOf u n))) url)) (jm_presentOf u n) (jm_within (u 6 (ix (jm_presentOf u n))) url))] [] hc hh (m_enter l D aK ad cA (jm_nh u url (u 6 (ix (jm_presentOf u n))) (jm_within (u 6 (ix (jm_presentOf u n))) url)) n url 0 (jm_push rep url (u 6 (ix (jm_presentOf u n)))) (jm_nd (jm_nh u url (u 6 (ix (jm_presentOf u n))) (jm_within (u 6 (ix (jm_presentOf u n))) url)) (jm_presentOf u n) (jm_within (u 6 (ix (jm_presentOf u n))) url)) (jm_nh_Sh hS) (jm_shown_ex h19) (jm_btw_ub h8) (jm_nd_jq (jm_nh_Sh hS) jm_pr_ex) (jm_Nw_of hn jm_nh_21)) wy_M_159 ⟨by decide, rfl, rfl⟩ (by decide) rfl hl.1 rfl (by decide) ⟨Nat.zero_le _, Nat.zero_le _⟩ d_M_navigate_150 (fun r u9 H locs hp hh _ _ => ?_)
                      rw [hp.2] at hh
                      refine W.eq (g2 := F0 m 153 ls []) rfl ?_
                      refine lv_aload_n hx hb d_M_navigate_153 rfl (lv_at hl 0 rfl) ?_
                      refine jg_M hc hh 21 (by decide) rfl wf_M_130 d_M_navigate_154 ?_
                      exact jx_iret (r := ((jm_enter (jm_nh u url (u 6 (ix (jm_presentOf u n))) (jm_within (u 6 (ix (jm_presentOf u n))) url)) n url 0 (jm_push rep url (u 6 (ix (jm_presentOf u n)))) (jm_nd (jm_nh u url (u 6 (ix (jm_presentOf u n))) (jm_within (u 6 (ix (jm_presentOf u n))) url)) (jm_presentOf u n) (jm_within (u 6 (ix (jm_presentOf u n))) url))) 21 0)) hc hh hQ hlk hr rfl rfl ⟨by unfold jm_navigate jm_navF; rw [if_neg h8, if_neg h19, if_pos h64]; rfl, by unfold jm_navigate jm_navF; rw [if_neg h8, if_neg h19, if_pos h64]; rfl⟩ d_M_navigate_157
                    have e2 : (jm_nd (jm_nh u url (u 6 (ix (jm_presentOf u n))) (jm_within (u 6 (ix (jm_presentOf u n))) url)) (jm_presentOf u n) (jm_within (u 6 (ix (jm_presentOf u n))) url)) = ((jm_nh u url (u 6 (ix (jm_presentOf u n))) (jm_within (u 6 (ix (jm_presentOf u n))) url)) 8 (ix (jm_presentOf u n))) := by simp [jm_nd, h136]
                    refine W.eq (g2 := F0 m 150 ls [.int (jm_nd (jm_nh u url (u 6 (ix (jm_presentOf u n))) (jm_within (u 6 (ix (jm_presentOf u n))) url)) (jm_presentOf u n) (jm_within (u 6 (ix (jm_presentOf u n))) url)), .int (jm_push rep url (u 6 (ix (jm_presentOf u n)))), .int 0, .int url, .int n, .ref (ad 0)]) (by first | (rw [e2]; done) | (rw [e2]; rfl)) ?_
                    refine J150 _ ?_
                    exact lv_sub hl [0] rfl
                  have e3 : (jm_nh u url (u 6 (ix (jm_presentOf u n))) (jm_within (u 6 (ix (jm_presentOf u n))) url)) = u := by first | (simp [jm_nh, h109]; done) | (simp [jm_nh, eq_true h109]; done)
                  refine J128 _ _ _ ?_ ?_
                  ·
                    try rw [e3]
                    exact hh
                  try rw [e3]
                  exact lv_sub hl [1, 2, 3, 4, 6, 0] rfl
                refine lv_iload_n hx hb d_M_navigate_112 rfl (lv_at hl 3 rfl) ?_
                refine lv_iload hx hb d_M_navigate_113 (lv_at hl 5 rfl) ?_
                refine lv_icmp_eq (tgt := 128) hx hb d_M_navigate_115 rfl (fun h115 => ?_) (fun h115 => ?_)
                ·
                  have J128 : ∀  (H : Heap) (locs : List Loc) (ls : Array Slot), jx_H D 22 ad (jm_cell ad cA (jm_nh u url (u 6 (ix (jm_presentOf u n))) (jm_within (u 6 (ix (jm_presentOf u n))) url))) A s.heap H locs → lv_has ls 8 [(0, .ref (ad 0)), (1, .int n), (2, .int url), (4, .int (jm_presentOf u n)), (6, .int (jm_push rep url (u 6 (ix (jm_presentOf u n))))), (7, .int (jm_within (u 6 (ix (jm_presentOf u n))) url))] → W p l e (jr 7) s m args below meth c H locs 0 0 Q (F0 m 128 ls []) := by
                    intro  H locs ls hh hl
                    refine lv_aload_n hx hb d_M_navigate_128 rfl (lv_at hl 0 rfl) ?_
                    refine lv_iload_n hx hb d_M_navigate_129 rfl (lv_at hl 1 rfl) ?_
                    refine lv_iload_n hx hb d_M_navigate_130 rfl (lv_at hl 2 rfl) ?_
                    refine lv_iconst (v := 0) hx hb d_M_navigate_131 (by decide) ?_
                    refine lv_iload hx hb d_M_navigate_132 (lv_at hl 4 rfl) ?_
                    refine lv_iload hx hb d_M_navigate_134 (lv_at hl 5 rfl) ?_
                    refine lv_if_eq (tgt := 149) hx hb d_M_navigate_136 rfl (fun h136 => ?_) (fun h136 => ?_)
                    ·
                      refine lv_iconst (v := -1) hx hb d_M_navigate_149 (by decide) ?_
                      have J150 : ∀  (ls : Array Slot), lv_has ls 8 [(0, .ref (ad 0))] → W p l e (jr 7) s m args below meth c H locs 0 0 Q (F0 m 150 ls [.int (jm_nd (jm_nh u url (u 6 (ix (jm_presentOf u n))) (jm_within (u 6 (ix (jm_presentOf u n))) url)) (jm_presentOf u n) (jm_within (u 6 (ix (jm_presentOf u n))) url)), .int (jm_push rep url (u 6 (ix (jm_presentOf u n)))), .int 0, .int url, .int n, .ref (ad 0)]) := by
                        intro  ls hl
                        refine jx_callV [.int n, .int url, .int 0, .int (jm_push rep url (u 6 (ix (jm_presentOf u n)))), .int (jm_nd (jm_nh u url (u 6 (ix (jm_presentOf u n))) (jm_within (u 6 (ix (jm_presentOf u n))) url)) (jm_presentOf u n) (jm_within (u 6 (ix (jm_presentOf u n))) url))] [] hc hh (m_enter l D aK ad cA (jm_nh u url (u 6 (ix (jm_presentOf u n))) (jm_within (u 6 (ix (jm_presentOf u n))) url)) n url 0 (jm_push rep url (u 6 (ix (jm_presentOf u n)))) (jm_nd (jm_nh u url (u 6 (ix (jm_presentOf u n))) (jm_within (u 6 (ix (jm_presentOf u n))) url)) (jm_presentOf u n) (jm_within (u 6 (ix (jm_presentOf u n))) url)) (jm_nh_Sh hS) (jm_shown_ex h19) (jm_btw_ub h8) (jm_nd_jq (jm_nh_Sh hS) jm_pr_ex) (jm_Nw_of hn jm_nh_21)) wy_M_159 ⟨by decide, rfl, rfl⟩ (by decide) rfl hl.1 rfl (by decide) ⟨Nat.zero_le _, Nat.zero_le _⟩ d_M_navigate_150 (fun r u9 H locs hp hh _ _ => ?_)
                        rw [hp.2] at hh
                        refine W.eq (g2 := F0 m 153 ls []) rfl ?_
                        refine lv_aload_n hx hb d_M_navigate_153 rfl (lv_at hl 0 rfl) ?_
                        refine jg_M hc hh 21 (by decide) rfl wf_M_130 d_M_navigate_154 ?_
                        exact jx_iret (r := ((jm_enter (jm_nh u url (u 6 (ix (jm_presentOf u n))) (jm_within (u 6 (ix (jm_presentOf u n))) url)) n url 0 (jm_push rep url (u 6 (ix (jm_presentOf u n)))) (jm_nd (jm_nh u url (u 6 (ix (jm_presentOf u n))) (jm_within (u 6 (ix (jm_presentOf u n))) url)) (jm_presentOf u n) (jm_within (u 6 (ix (jm_presentOf u n))) url))) 21 0)) hc hh hQ hlk hr rfl rfl ⟨by unfold jm_navigate jm_navF; rw [if_neg h8, if_neg h19, if_pos h64]; rfl, by unfold jm_navigate jm_navF; rw [if_neg h8, if_neg h19, if_pos h64]; rfl⟩ d_M_navigate_157
                      have e4 : (jm_nd (jm_nh u url (u 6 (ix (jm_presentOf u n))) (jm_within (u 6 (ix (jm_presentOf u n))) url)) (jm_presentOf u n) (jm_within (u 6 (ix (jm_presentOf u n))) url)) = (-1) := by first | (simp [jm_nd, h136]; done) | (simp [jm_nd, eq_true h136]; done)
                      refine W.eq (g2 := F0 m 150 ls [.int (jm_nd (jm_nh u url (u 6 (ix (jm_presentOf u n))) (jm_within (u 6 (ix (jm_presentOf u n))) url)) (jm_presentOf u n) (jm_within (u 6 (ix (jm_presentOf u n))) url)), .int (jm_push rep url (u 6 (ix (jm_presentOf u n)))), .int 0, .int url, .int n, .ref (ad 0)]) (by first | (rw [e4]; done) | (rw [e4]; rfl)) ?_
                      refine J150 _ ?_
                      exact lv_sub hl [0] rfl
                    refine lv_aload_n hx hb d_M_navigate_139 rfl (lv_at hl 0 rfl) ?_
                    refine jg_M hc hh 8 (by decide) rfl wf_M_35 d_M_navigate_140 ?_
                    refine lv_iload hx hb d_M_navigate_143 (lv_at hl 3 rfl) ?_
                    refine jm_ild hc hh 8 (by decide) (by decide) jm_pr_ex d_M_navigate_145 ?_
                    refine lv_goto (tgt := 150) hx hb d_M_navigate_146 rfl ?_
                    have J150 : ∀  (ls : Array Slot), lv_has ls 8 [(0, .ref (ad 0))] → W p l e (jr 7) s m args below meth c H locs 0 0 Q (F0 m 150 ls [.int (jm_nd (jm_nh u url (u 6 (ix (jm_presentOf u n))) (jm_within (u 6 (ix (jm_presentOf u n))) url)) (jm_presentOf u n) (jm_within (u 6 (ix (jm_presentOf u n))) url)), .int (jm_push rep url (u 6 (ix (jm_presentOf u n)))), .int 0, .int url, .int n, .ref (ad 0)]) := by
                      intro  ls hl
                      refine jx_callV [.int n, .int url, .int 0, .int (jm_push rep url (u 6 (ix (jm_presentOf u n)))), .int (jm_nd (jm_nh u url (u 6 (ix (jm_presentOf u n))) (jm_within (u 6 (ix (jm_presentOf u n))) url)) (jm_presentOf u n) (jm_within (u 6 (ix (jm_presentOf u n))) url))] [] hc hh (m_enter l D aK ad cA (jm_nh u url (u 6 (ix (jm_presentOf u n))) (jm_within (u 6 (ix (jm_presentOf u n))) url)) n url 0 (jm_push rep url (u 6 (ix (jm_presentOf u n)))) (jm_nd (jm_nh u url (u 6 (ix (jm_presentOf u n))) (jm_within (u 6 (ix (jm_presentOf u n))) url)) (jm_presentOf u n) (jm_within (u 6 (ix (jm_presentOf u n))) url)) (jm_nh_Sh hS) (jm_shown_ex h19) (jm_btw_ub h8) (jm_nd_jq (jm_nh_Sh hS) jm_pr_ex) (jm_Nw_of hn jm_nh_21)) wy_M_159 ⟨by decide, rfl, rfl⟩ (by decide) rfl hl.1 rfl (by decide) ⟨Nat.zero_le _, Nat.zero_le _⟩ d_M_navigate_150 (fun r u9 H locs hp hh _ _ => ?_)
                      rw [hp.2] at hh
                      refine W.eq (g2 := F0 m 153 ls []) rfl ?_
                      refine lv_aload_n hx hb d_M_navigate_153 rfl (lv_at hl 0 rfl) ?_
                      refine jg_M hc hh 21 (by decide) rfl wf_M_130 d_M_navigate_154 ?_
                      exact jx_iret (r := ((jm_enter (jm_nh u url (u 6 (ix (jm_presentOf u n))) (jm_within (u 6 (ix (jm_presentOf u n))) url)) n url 0 (jm_push rep url (u 6 (ix (jm_presentOf u n)))) (jm_nd (jm_nh u url (u 6 (ix (jm_presentOf u n))) (jm_within (u 6 (ix (jm_presentOf u n))) url)) (jm_presentOf u n) (jm_within (u 6 (ix (jm_presentOf u n))) url))) 21 0)) hc hh hQ hlk hr rfl rfl ⟨by unfold jm_navigate jm_navF; rw [if_neg h8, if_neg h19, if_pos h64]; rfl, by unfold jm_navigate jm_navF; rw [if_neg h8, if_neg h19, if_pos h64]; rfl⟩ d_M_navigate_157
                    have e5 : (jm_nd (jm_nh u url (u 6 (ix (jm_presentOf u n))) (jm_within (u 6 (ix (jm_presentOf u n))) url)) (jm_presentOf u n) (jm_within (u 6 (ix (jm_presentOf u n))) url)) = ((jm_nh u url (u 6 (ix (jm_presentOf u n))) (jm_within (u 6 (ix (jm_presentOf u n))) url)) 8 (ix (jm_presentOf u n))) := by simp [jm_nd, h136]
                    refine W.eq (g2 := F0 m 150 ls [.int (jm_nd (jm_nh u url (u 6 (ix (jm_presentOf u n))) (jm_within (u 6 (ix (jm_presentOf u n))) url)) (jm_presentOf u n) (jm_within (u 6 (ix (jm_presentOf u n))) url)), .int (jm_push rep url (u 6 (ix (jm_presentOf u n)))), .int 0, .int url, .int n, .ref (ad 0)]) (by first | (rw [e5]; done) | (rw [e5]; rfl)) ?_
                    refine J150 _ ?_
                    exact lv_sub hl [0] rfl
                  have e6 : (jm_nh u url (u 6 (ix (jm_presentOf u n))) (jm_within (u 6 (ix (jm_presentOf u n))) url)) = u := by first | (simp [jm_nh, h109, h115]; done) | (simp [jm_nh, h109, eq_true h115]; done)
                  refine J128 _ _ _ ?_ ?_
                  ·
                    try rw [e6]
                    exact hh
                  try rw [e6]
                  exact lv_sub hl [1, 2, 3, 4, 6, 0] rfl
                refine lv_aload_n hx hb d_M_navigate_118 rfl (lv_at hl 1 rfl) ?_
                refine lv_dup hx hb d_M_navigate_119 rfl ?_
                refine jg_M hc hh 24 (by decide) rfl wf_M_156 d_M_navigate_120 ?_
                refine lv_iconst (v := 1) hx hb d_M_navigate_123 (by decide) ?_
                refine lv_iadd hx hb d_M_navigate_124 ?_
                refine jpm_24 hc hh wf_M_156 d_M_navigate_125 (fun H locs hh => ?_)
                have J128 : ∀  (H : Heap) (locs : List Loc) (ls : Array Slot), jx_H D 22 ad (jm_cell ad cA (jm_nh u url (u 6 (ix (jm_presentOf u n))) (jm_within (u 6 (ix (jm_presentOf u n))) url))) A s.heap H locs → lv_has ls 8 [(0, .ref (ad 0)), (1, .int n), (2, .int url), (4, .int (jm_presentOf u n)), (6, .int (jm_push rep url (u 6 (ix (jm_presentOf u n))))), (7, .int (jm_within (u 6 (ix (jm_presentOf u n))) url))] → W p l e (jr 7) s m args below meth c H locs 0 0 Q (F0 m 128 ls []) := by
                  intro  H locs ls hh hl
                  refine lv_aload_n hx hb d_M_navigate_128 rfl (lv_at hl 0 rfl) ?_
                  refine lv_iload_n hx hb d_M_navigate_129 rfl (lv_at hl 1 rfl) ?_
                  refine lv_iload_n hx hb d_M_navigate_130 rfl (lv_at hl 2 rfl) ?_
                  refine lv_iconst (v := 0) hx hb d_M_navigate_131 (by decide) ?_
                  refine lv_iload hx hb d_M_navigate_132 (lv_at hl 4 rfl) ?_
                  refine lv_iload hx hb d_M_navigate_134 (lv_at hl 5 rfl) ?_
                  refine lv_if_eq (tgt := 149) hx hb d_M_navigate_136 rfl (fun h136 => ?_) (fun h136 => ?_)
                  ·
                    refine lv_iconst (v := -1) hx hb d_M_navigate_149 (by decide) ?_
                    have J150 : ∀  (ls : Array Slot), lv_has ls 8 [(0, .ref (ad 0))] → W p l e (jr 7) s m args below meth c H locs 0 0 Q (F0 m 150 ls [.int (jm_nd (jm_nh u url (u 6 (ix (jm_presentOf u n))) (jm_within (u 6 (ix (jm_presentOf u n))) url)) (jm_presentOf u n) (jm_within (u 6 (ix (jm_presentOf u n))) url)), .int (jm_push rep url (u 6 (ix (jm_presentOf u n)))), .int 0, .int url, .int n, .ref (ad 0)]) := by
                      intro  ls hl
                      refine jx_callV [.int n, .int url, .int 0, .int (jm_push rep url (u 6 (ix (jm_presentOf u n)))), .int (jm_nd (jm_nh u url (u 6 (ix (jm_presentOf u n))) (jm_within (u 6 (ix (jm_presentOf u n))) url)) (jm_presentOf u n) (jm_within (u 6 (ix (jm_presentOf u n))) url))] [] hc hh (m_enter l D aK ad cA (jm_nh u url (u 6 (ix (jm_presentOf u n))) (jm_within (u 6 (ix (jm_presentOf u n))) url)) n url 0 (jm_push rep url (u 6 (ix (jm_presentOf u n)))) (jm_nd (jm_nh u url (u 6 (ix (jm_presentOf u n))) (jm_within (u 6 (ix (jm_presentOf u n))) url)) (jm_presentOf u n) (jm_within (u 6 (ix (jm_presentOf u n))) url)) (jm_nh_Sh hS) (jm_shown_ex h19) (jm_btw_ub h8) (jm_nd_jq (jm_nh_Sh hS) jm_pr_ex) (jm_Nw_of hn jm_nh_21)) wy_M_159 ⟨by decide, rfl, rfl⟩ (by decide) rfl hl.1 rfl (by decide) ⟨Nat.zero_le _, Nat.zero_le _⟩ d_M_navigate_150 (fun r u9 H locs hp hh _ _ => ?_)
                      rw [hp.2] at hh
                      refine W.eq (g2 := F0 m 153 ls []) rfl ?_
                      refine lv_aload_n hx hb d_M_navigate_153 rfl (lv_at hl 0 rfl) ?_
                      refine jg_M hc hh 21 (by decide) rfl wf_M_130 d_M_navigate_154 ?_
                      exact jx_iret (r := ((jm_enter (jm_nh u url (u 6 (ix (jm_presentOf u n))) (jm_within (u 6 (ix (jm_presentOf u n))) url)) n url 0 (jm_push rep url (u 6 (ix (jm_presentOf u n)))) (jm_nd (jm_nh u url (u 6 (ix (jm_presentOf u n))) (jm_within (u 6 (ix (jm_presentOf u n))) url)) (jm_presentOf u n) (jm_within (u 6 (ix (jm_presentOf u n))) url))) 21 0)) hc hh hQ hlk hr rfl rfl ⟨by unfold jm_navigate jm_navF; rw [if_neg h8, if_neg h19, if_pos h64]; rfl, by unfold jm_navigate jm_navF; rw [if_neg h8, if_neg h19, if_pos h64]; rfl⟩ d_M_navigate_157
                    have e7 : (jm_nd (jm_nh u url (u 6 (ix (jm_presentOf u n))) (jm_within (u 6 (ix (jm_presentOf u n))) url)) (jm_presentOf u n) (jm_within (u 6 (ix (jm_presentOf u n))) url)) = (-1) := by first | (simp [jm_nd, h136]; done) | (simp [jm_nd, eq_true h136]; done)
                    refine W.eq (g2 := F0 m 150 ls [.int (jm_nd (jm_nh u url (u 6 (ix (jm_presentOf u n))) (jm_within (u 6 (ix (jm_presentOf u n))) url)) (jm_presentOf u n) (jm_within (u 6 (ix (jm_presentOf u n))) url)), .int (jm_push rep url (u 6 (ix (jm_presentOf u n)))), .int 0, .int url, .int n, .ref (ad 0)]) (by first | (rw [e7]; done) | (rw [e7]; rfl)) ?_
                    refine J150 _ ?_
                    exact lv_sub hl [0] rfl
                  refine lv_aload_n hx hb d_M_navigate_139 rfl (lv_at hl 0 rfl) ?_
                  refine jg_M hc hh 8 (by decide) rfl wf_M_35 d_M_navigate_140 ?_
                  refine lv_iload hx hb d_M_navigate_143 (lv_at hl 3 rfl) ?_
                  refine jm_ild hc hh 8 (by decide) (by decide) jm_pr_ex d_M_navigate_145 ?_
                  refine lv_goto (tgt := 150) hx hb d_M_navigate_146 rfl ?_
                  have J150 : ∀  (ls : Array Slot), lv_has ls 8 [(0, .ref (ad 0))] → W p l e (jr 7) s m args below meth c H locs 0 0 Q (F0 m 150 ls [.int (jm_nd (jm_nh u url (u 6 (ix (jm_presentOf u n))) (jm_within (u 6 (ix (jm_presentOf u n))) url)) (jm_presentOf u n) (jm_within (u 6 (ix (jm_presentOf u n))) url)), .int (jm_push rep url (u 6 (ix (jm_presentOf u n)))), .int 0, .int url, .int n, .ref (ad 0)]) := by
                    intro  ls hl
                    refine jx_callV [.int n, .int url, .int 0, .int (jm_push rep url (u 6 (ix (jm_presentOf u n)))), .int (jm_nd (jm_nh u url (u 6 (ix (jm_presentOf u n))) (jm_within (u 6 (ix (jm_presentOf u n))) url)) (jm_presentOf u n) (jm_within (u 6 (ix (jm_presentOf u n))) url))] [] hc hh (m_enter l D aK ad cA (jm_nh u url (u 6 (ix (jm_presentOf u n))) (jm_within (u 6 (ix (jm_presentOf u n))) url)) n url 0 (jm_push rep url (u 6 (ix (jm_presentOf u n)))) (jm_nd (jm_nh u url (u 6 (ix (jm_presentOf u n))) (jm_within (u 6 (ix (jm_presentOf u n))) url)) (jm_presentOf u n) (jm_within (u 6 (ix (jm_presentOf u n))) url)) (jm_nh_Sh hS) (jm_shown_ex h19) (jm_btw_ub h8) (jm_nd_jq (jm_nh_Sh hS) jm_pr_ex) (jm_Nw_of hn jm_nh_21)) wy_M_159 ⟨by decide, rfl, rfl⟩ (by decide) rfl hl.1 rfl (by decide) ⟨Nat.zero_le _, Nat.zero_le _⟩ d_M_navigate_150 (fun r u9 H locs hp hh _ _ => ?_)
                    rw [hp.2] at hh
                    refine W.eq (g2 := F0 m 153 ls []) rfl ?_
                    refine lv_aload_n hx hb d_M_navigate_153 rfl (lv_at hl 0 rfl) ?_
                    refine jg_M hc hh 21 (by decide) rfl wf_M_130 d_M_navigate_154 ?_
                    exact jx_iret (r := ((jm_enter (jm_nh u url (u 6 (ix (jm_presentOf u n))) (jm_within (u 6 (ix (jm_presentOf u n))) url)) n url 0 (jm_push rep url (u 6 (ix (jm_presentOf u n)))) (jm_nd (jm_nh u url (u 6 (ix (jm_presentOf u n))) (jm_within (u 6 (ix (jm_presentOf u n))) url)) (jm_presentOf u n) (jm_within (u 6 (ix (jm_presentOf u n))) url))) 21 0)) hc hh hQ hlk hr rfl rfl ⟨by unfold jm_navigate jm_navF; rw [if_neg h8, if_neg h19, if_pos h64]; rfl, by unfold jm_navigate jm_navF; rw [if_neg h8, if_neg h19, if_pos h64]; rfl⟩ d_M_navigate_157
                  have e8 : (jm_nd (jm_nh u url (u 6 (ix (jm_presentOf u n))) (jm_within (u 6 (ix (jm_presentOf u n))) url)) (jm_presentOf u n) (jm_within (u 6 (ix (jm_presentOf u n))) url)) = ((jm_nh u url (u 6 (ix (jm_presentOf u n))) (jm_within (u 6 (ix (jm_presentOf u n))) url)) 8 (ix (jm_presentOf u n))) := by simp [jm_nd, h136]
                  refine W.eq (g2 := F0 m 150 ls [.int (jm_nd (jm_nh u url (u 6 (ix (jm_presentOf u n))) (jm_within (u 6 (ix (jm_presentOf u n))) url)) (jm_presentOf u n) (jm_within (u 6 (ix (jm_presentOf u n))) url)), .int (jm_push rep url (u 6 (ix (jm_presentOf u n)))), .int 0, .int url, .int n, .ref (ad 0)]) (by first | (rw [e8]; done) | (rw [e8]; rfl)) ?_
                  refine J150 _ ?_
                  exact lv_sub hl [0] rfl
                have e9 : (jm_nh u url (u 6 (ix (jm_presentOf u n))) (jm_within (u 6 (ix (jm_presentOf u n))) url)) = (js_up u 24 0 ((u 24 0) + 1)) := by simp [jm_nh, h109, h115]
                refine J128 _ _ _ ?_ ?_
                ·
                  try rw [e9]
                  exact hh
                try rw [e9]
                exact lv_sub hl [1, 2, 3, 4, 6, 0] rfl
              have e10 : (jm_within (u 6 (ix (jm_presentOf u n))) url) = 0 := by first | (simp [jm_within, h64, h72]; done) | (simp [jm_within, eq_true h64, eq_true h72]; done)
              refine W.eq (g2 := F0 m 105 ls [.int (jm_within (u 6 (ix (jm_presentOf u n))) url)]) (by first | (rw [e10]; done) | (rw [e10]; rfl)) ?_
              refine J105 _ _ _ ?_ ?_
              ·
                exact hh
              exact lv_sub hl [1, 2, 3, 4, 5, 0] rfl
            refine lv_iload_n hx hb d_M_navigate_75 rfl (lv_at hl 3 rfl) ?_
            refine jx_callS [.int url] [] hc hh (m_fragment l D aK ad cA u url) wy_M_153 (by decide) rfl hl.1 rfl (by decide) ⟨Nat.zero_le _, Nat.zero_le _⟩ d_M_navigate_76 (fun r u9 H locs hp hh _ _ => ?_)
            rw [hp.2] at hh
            refine W.eq (g2 := F0 m 79 ls [.int (jm_frag url)]) (by rw [hp.1]; rfl) ?_
            refine lv_if_eq (tgt := 104) hx hb d_M_navigate_79 rfl (fun h79 => ?_) (fun h79 => ?_)
            ·
              refine lv_iconst (v := 0) hx hb d_M_navigate_104 (by decide) ?_
              have J105 : ∀  (H : Heap) (locs : List Loc) (ls : Array Slot), jx_H D 22 ad (jm_cell ad cA u) A s.heap H locs → lv_has ls 8 [(0, .ref (ad 0)), (1, .int n), (2, .int url), (4, .int (jm_presentOf u n)), (5, .int (u 6 (ix (jm_presentOf u n)))), (6, .int (jm_push rep url (u 6 (ix (jm_presentOf u n)))))] → W p l e (jr 7) s m args below meth c H locs 0 0 Q (F0 m 105 ls [.int (jm_within (u 6 (ix (jm_presentOf u n))) url)]) := by
                intro  H locs ls hh hl
                refine lv_istore (i := 7) (lv' := [(7, .int (jm_within (u 6 (ix (jm_presentOf u n))) url)), (0, .ref (ad 0)), (1, .int n), (2, .int url), (4, .int (jm_presentOf u n)), (5, .int (u 6 (ix (jm_presentOf u n)))), (6, .int (jm_push rep url (u 6 (ix (jm_presentOf u n)))))]) hx hb d_M_navigate_105 hl (by decide) rfl (fun ls hl => ?_)
                refine lv_iload hx hb d_M_navigate_107 (lv_at hl 0 rfl) ?_
                refine lv_if_eq (tgt := 128) hx hb d_M_navigate_109 rfl (fun h109 => ?_) (fun h109 => ?_)
                ·
                  have J128 : ∀  (H : Heap) (locs : List Loc) (ls : Array Slot), jx_H D 22 ad (jm_cell ad cA (jm_nh u url (u 6 (ix (jm_presentOf u n))) (jm_within (u 6 (ix (jm_presentOf u n))) url))) A s.heap H locs → lv_has ls 8 [(0, .ref (ad 0)), (1, .int n), (2, .int url), (4, .int (jm_presentOf u n)), (6, .int (jm_push rep url (u 6 (ix (jm_presentOf u n))))), (7, .int (jm_within (u 6 (ix (jm_presentOf u n))) url))] → W p l e (jr 7) s m args below meth c H locs 0 0 Q (F0 m 128 ls []) := by
                    intro  H locs ls hh hl
                    refine lv_aload_n hx hb d_M_navigate_128 rfl (lv_at hl 0 rfl) ?_
                    refine lv_iload_n hx hb d_M_navigate_129 rfl (lv_at hl 1 rfl) ?_
                    refine lv_iload_n hx hb d_M_navigate_130 rfl (lv_at hl 2 rfl) ?_
                    refine lv_iconst (v := 0) hx hb d_M_navigate_131 (by decide) ?_
                    refine lv_iload hx hb d_M_navigate_132 (lv_at hl 4 rfl) ?_
                    refine lv_iload hx hb d_M_navigate_134 (lv_at hl 5 rfl) ?_
                    refine lv_if_eq (tgt := 149) hx hb d_M_navigate_136 rfl (fun h136 => ?_) (fun h136 => ?_)
                    ·
                      refine lv_iconst (v := -1) hx hb d_M_navigate_149 (by decide) ?_
                      have J150 : ∀  (ls : Array Slot), lv_has ls 8 [(0, .ref (ad 0))] → W p l e (jr 7) s m args below meth c H locs 0 0 Q (F0 m 150 ls [.int (jm_nd (jm_nh u url (u 6 (ix (jm_presentOf u n))) (jm_within (u 6 (ix (jm_presentOf u n))) url)) (jm_presentOf u n) (jm_within (u 6 (ix (jm_presentOf u n))) url)), .int (jm_push rep url (u 6 (ix (jm_presentOf u n)))), .int 0, .int url, .int n, .ref (ad 0)]) := by
                        intro  ls hl
                        refine jx_callV [.int n, .int url, .int 0, .int (jm_push rep url (u 6 (ix (jm_presentOf u n)))), .int (jm_nd (jm_nh u url (u 6 (ix (jm_presentOf u n))) (jm_within (u 6 (ix (jm_presentOf u n))) url)) (jm_presentOf u n) (jm_within (u 6 (ix (jm_presentOf u n))) url))] [] hc hh (m_enter l D aK ad cA (jm_nh u url (u 6 (ix (jm_presentOf u n))) (jm_within (u 6 (ix (jm_presentOf u n))) url)) n url 0 (jm_push rep url (u 6 (ix (jm_presentOf u n)))) (jm_nd (jm_nh u url (u 6 (ix (jm_presentOf u n))) (jm_within (u 6 (ix (jm_presentOf u n))) url)) (jm_presentOf u n) (jm_within (u 6 (ix (jm_presentOf u n))) url)) (jm_nh_Sh hS) (jm_shown_ex h19) (jm_btw_ub h8) (jm_nd_jq (jm_nh_Sh hS) jm_pr_ex) (jm_Nw_of hn jm_nh_21)) wy_M_159 ⟨by decide, rfl, rfl⟩ (by decide) rfl hl.1 rfl (by decide) ⟨Nat.zero_le _, Nat.zero_le _⟩ d_M_navigate_150 (fun r u9 H locs hp hh _ _ => ?_)
                        rw [hp.2] at hh
                        refine W.eq (g2 := F0 m 153 ls []) rfl ?_
                        refine lv_aload_n hx hb d_M_navigate_153 rfl (lv_at hl 0 rfl) ?_
                        refine jg_M hc hh 21 (by decide) rfl wf_M_130 d_M_navigate_154 ?_
                        exact jx_iret (r := ((jm_enter (jm_nh u url (u 6 (ix (jm_presentOf u n))) (jm_within (u 6 (ix (jm_presentOf u n))) url)) n url 0 (jm_push rep url (u 6 (ix (jm_presentOf u n)))) (jm_nd (jm_nh u url (u 6 (ix (jm_presentOf u n))) (jm_within (u 6 (ix (jm_presentOf u n))) url)) (jm_presentOf u n) (jm_within (u 6 (ix (jm_presentOf u n))) url))) 21 0)) hc hh hQ hlk hr rfl rfl ⟨by unfold jm_navigate jm_navF; rw [if_neg h8, if_neg h19, if_pos h64]; rfl, by unfold jm_navigate jm_navF; rw [if_neg h8, if_neg h19, if_pos h64]; rfl⟩ d_M_navigate_157
                      have e11 : (jm_nd (jm_nh u url (u 6 (ix (jm_presentOf u n))) (jm_within (u 6 (ix (jm_presentOf u n))) url)) (jm_presentOf u n) (jm_within (u 6 (ix (jm_presentOf u n))) url)) = (-1) := by first | (simp [jm_nd, h136]; done) | (simp [jm_nd, eq_true h136]; done)
                      refine W.eq (g2 := F0 m 150 ls [.int (jm_nd (jm_nh u url (u 6 (ix (jm_presentOf u n))) (jm_within (u 6 (ix (jm_presentOf u n))) url)) (jm_presentOf u n) (jm_within (u 6 (ix (jm_presentOf u n))) url)), .int (jm_push rep url (u 6 (ix (jm_presentOf u n)))), .int 0, .int url, .int n, .ref (ad 0)]) (by first | (rw [e11]; done) | (rw [e11]; rfl)) ?_
                      refine J150 _ ?_
                      exact lv_sub hl [0] rfl
                    refine lv_aload_n hx hb d_M_navigate_139 rfl (lv_at hl 0 rfl) ?_
                    refine jg_M hc hh 8 (by decide) rfl wf_M_35 d_M_navigate_140 ?_
                    refine lv_iload hx hb d_M_navigate_143 (lv_at hl 3 rfl) ?_
                    refine jm_ild hc hh 8 (by decide) (by decide) jm_pr_ex d_M_navigate_145 ?_
                    refine lv_goto (tgt := 150) hx hb d_M_navigate_146 rfl ?_
                    have J150 : ∀  (ls : Array Slot), lv_has ls 8 [(0, .ref (ad 0))] → W p l e (jr 7) s m args below meth c H locs 0 0 Q (F0 m 150 ls [.int (jm_nd (jm_nh u url (u 6 (ix (jm_presentOf u n))) (jm_within (u 6 (ix (jm_presentOf u n))) url)) (jm_presentOf u n) (jm_within (u 6 (ix (jm_presentOf u n))) url)), .int (jm_push rep url (u 6 (ix (jm_presentOf u n)))), .int 0, .int url, .int n, .ref (ad 0)]) := by
                      intro  ls hl
                      refine jx_callV [.int n, .int url, .int 0, .int (jm_push rep url (u 6 (ix (jm_presentOf u n)))), .int (jm_nd (jm_nh u url (u 6 (ix (jm_presentOf u n))) (jm_within (u 6 (ix (jm_presentOf u n))) url)) (jm_presentOf u n) (jm_within (u 6 (ix (jm_presentOf u n))) url))] [] hc hh (m_enter l D aK ad cA (jm_nh u url (u 6 (ix (jm_presentOf u n))) (jm_within (u 6 (ix (jm_presentOf u n))) url)) n url 0 (jm_push rep url (u 6 (ix (jm_presentOf u n)))) (jm_nd (jm_nh u url (u 6 (ix (jm_presentOf u n))) (jm_within (u 6 (ix (jm_presentOf u n))) url)) (jm_presentOf u n) (jm_within (u 6 (ix (jm_presentOf u n))) url)) (jm_nh_Sh hS) (jm_shown_ex h19) (jm_btw_ub h8) (jm_nd_jq (jm_nh_Sh hS) jm_pr_ex) (jm_Nw_of hn jm_nh_21)) wy_M_159 ⟨by decide, rfl, rfl⟩ (by decide) rfl hl.1 rfl (by decide) ⟨Nat.zero_le _, Nat.zero_le _⟩ d_M_navigate_150 (fun r u9 H locs hp hh _ _ => ?_)
                      rw [hp.2] at hh
                      refine W.eq (g2 := F0 m 153 ls []) rfl ?_
                      refine lv_aload_n hx hb d_M_navigate_153 rfl (lv_at hl 0 rfl) ?_
                      refine jg_M hc hh 21 (by decide) rfl wf_M_130 d_M_navigate_154 ?_
                      exact jx_iret (r := ((jm_enter (jm_nh u url (u 6 (ix (jm_presentOf u n))) (jm_within (u 6 (ix (jm_presentOf u n))) url)) n url 0 (jm_push rep url (u 6 (ix (jm_presentOf u n)))) (jm_nd (jm_nh u url (u 6 (ix (jm_presentOf u n))) (jm_within (u 6 (ix (jm_presentOf u n))) url)) (jm_presentOf u n) (jm_within (u 6 (ix (jm_presentOf u n))) url))) 21 0)) hc hh hQ hlk hr rfl rfl ⟨by unfold jm_navigate jm_navF; rw [if_neg h8, if_neg h19, if_pos h64]; rfl, by unfold jm_navigate jm_navF; rw [if_neg h8, if_neg h19, if_pos h64]; rfl⟩ d_M_navigate_157
                    have e12 : (jm_nd (jm_nh u url (u 6 (ix (jm_presentOf u n))) (jm_within (u 6 (ix (jm_presentOf u n))) url)) (jm_presentOf u n) (jm_within (u 6 (ix (jm_presentOf u n))) url)) = ((jm_nh u url (u 6 (ix (jm_presentOf u n))) (jm_within (u 6 (ix (jm_presentOf u n))) url)) 8 (ix (jm_presentOf u n))) := by simp [jm_nd, h136]
                    refine W.eq (g2 := F0 m 150 ls [.int (jm_nd (jm_nh u url (u 6 (ix (jm_presentOf u n))) (jm_within (u 6 (ix (jm_presentOf u n))) url)) (jm_presentOf u n) (jm_within (u 6 (ix (jm_presentOf u n))) url)), .int (jm_push rep url (u 6 (ix (jm_presentOf u n)))), .int 0, .int url, .int n, .ref (ad 0)]) (by first | (rw [e12]; done) | (rw [e12]; rfl)) ?_
                    refine J150 _ ?_
                    exact lv_sub hl [0] rfl
                  have e13 : (jm_nh u url (u 6 (ix (jm_presentOf u n))) (jm_within (u 6 (ix (jm_presentOf u n))) url)) = u := by first | (simp [jm_nh, h109]; done) | (simp [jm_nh, eq_true h109]; done)
                  refine J128 _ _ _ ?_ ?_
                  ·
                    try rw [e13]
                    exact hh
                  try rw [e13]
                  exact lv_sub hl [1, 2, 3, 4, 6, 0] rfl
                refine lv_iload_n hx hb d_M_navigate_112 rfl (lv_at hl 3 rfl) ?_
                refine lv_iload hx hb d_M_navigate_113 (lv_at hl 5 rfl) ?_
                refine lv_icmp_eq (tgt := 128) hx hb d_M_navigate_115 rfl (fun h115 => ?_) (fun h115 => ?_)
                ·
                  have J128 : ∀  (H : Heap) (locs : List Loc) (ls : Array Slot), jx_H D 22 ad (jm_cell ad cA (jm_nh u url (u 6 (ix (jm_presentOf u n))) (jm_within (u 6 (ix (jm_presentOf u n))) url))) A s.heap H locs → lv_has ls 8 [(0, .ref (ad 0)), (1, .int n), (2, .int url), (4, .int (jm_presentOf u n)), (6, .int (jm_push rep url (u 6 (ix (jm_presentOf u n))))), (7, .int (jm_within (u 6 (ix (jm_presentOf u n))) url))] → W p l e (jr 7) s m args below meth c H locs 0 0 Q (F0 m 128 ls []) := by
                    intro  H locs ls hh hl
                    refine lv_aload_n hx hb d_M_navigate_128 rfl (lv_at hl 0 rfl) ?_
                    refine lv_iload_n hx hb d_M_navigate_129 rfl (lv_at hl 1 rfl) ?_
                    refine lv_iload_n hx hb d_M_navigate_130 rfl (lv_at hl 2 rfl) ?_
                    refine lv_iconst (v := 0) hx hb d_M_navigate_131 (by decide) ?_
                    refine lv_iload hx hb d_M_navigate_132 (lv_at hl 4 rfl) ?_
                    refine lv_iload hx hb d_M_navigate_134 (lv_at hl 5 rfl) ?_
                    refine lv_if_eq (tgt := 149) hx hb d_M_navigate_136 rfl (fun h136 => ?_) (fun h136 => ?_)
                    ·
                      refine lv_iconst (v := -1) hx hb d_M_navigate_149 (by decide) ?_
                      have J150 : ∀  (ls : Array Slot), lv_has ls 8 [(0, .ref (ad 0))] → W p l e (jr 7) s m args below meth c H locs 0 0 Q (F0 m 150 ls [.int (jm_nd (jm_nh u url (u 6 (ix (jm_presentOf u n))) (jm_within (u 6 (ix (jm_presentOf u n))) url)) (jm_presentOf u n) (jm_within (u 6 (ix (jm_presentOf u n))) url)), .int (jm_push rep url (u 6 (ix (jm_presentOf u n)))), .int 0, .int url, .int n, .ref (ad 0)]) := by
                        intro  ls hl
                        refine jx_callV [.int n, .int url, .int 0, .int (jm_push rep url (u 6 (ix (jm_presentOf u n)))), .int (jm_nd (jm_nh u url (u 6 (ix (jm_presentOf u n))) (jm_within (u 6 (ix (jm_presentOf u n))) url)) (jm_presentOf u n) (jm_within (u 6 (ix (jm_presentOf u n))) url))] [] hc hh (m_enter l D aK ad cA (jm_nh u url (u 6 (ix (jm_presentOf u n))) (jm_within (u 6 (ix (jm_presentOf u n))) url)) n url 0 (jm_push rep url (u 6 (ix (jm_presentOf u n)))) (jm_nd (jm_nh u url (u 6 (ix (jm_presentOf u n))) (jm_within (u 6 (ix (jm_presentOf u n))) url)) (jm_presentOf u n) (jm_within (u 6 (ix (jm_presentOf u n))) url)) (jm_nh_Sh hS) (jm_shown_ex h19) (jm_btw_ub h8) (jm_nd_jq (jm_nh_Sh hS) jm_pr_ex) (jm_Nw_of hn jm_nh_21)) wy_M_159 ⟨by decide, rfl, rfl⟩ (by decide) rfl hl.1 rfl (by decide) ⟨Nat.zero_le _, Nat.zero_le _⟩ d_M_navigate_150 (fun r u9 H locs hp hh _ _ => ?_)
                        rw [hp.2] at hh
                        refine W.eq (g2 := F0 m 153 ls []) rfl ?_
                        refine lv_aload_n hx hb d_M_navigate_153 rfl (lv_at hl 0 rfl) ?_
                        refine jg_M hc hh 21 (by decide) rfl wf_M_130 d_M_navigate_154 ?_
                        exact jx_iret (r := ((jm_enter (jm_nh u url (u 6 (ix (jm_presentOf u n))) (jm_within (u 6 (ix (jm_presentOf u n))) url)) n url 0 (jm_push rep url (u 6 (ix (jm_presentOf u n)))) (jm_nd (jm_nh u url (u 6 (ix (jm_presentOf u n))) (jm_within (u 6 (ix (jm_presentOf u n))) url)) (jm_presentOf u n) (jm_within (u 6 (ix (jm_presentOf u n))) url))) 21 0)) hc hh hQ hlk hr rfl rfl ⟨by unfold jm_navigate jm_navF; rw [if_neg h8, if_neg h19, if_pos h64]; rfl, by unfold jm_navigate jm_navF; rw [if_neg h8, if_neg h19, if_pos h64]; rfl⟩ d_M_navigate_157
                      have e14 : (jm_nd (jm_nh u url (u 6 (ix (jm_presentOf u n))) (jm_within (u 6 (ix (jm_presentOf u n))) url)) (jm_presentOf u n) (jm_within (u 6 (ix (jm_presentOf u n))) url)) = (-1) := by first | (simp [jm_nd, h136]; done) | (simp [jm_nd, eq_true h136]; done)
                      refine W.eq (g2 := F0 m 150 ls [.int (jm_nd (jm_nh u url (u 6 (ix (jm_presentOf u n))) (jm_within (u 6 (ix (jm_presentOf u n))) url)) (jm_presentOf u n) (jm_within (u 6 (ix (jm_presentOf u n))) url)), .int (jm_push rep url (u 6 (ix (jm_presentOf u n)))), .int 0, .int url, .int n, .ref (ad 0)]) (by first | (rw [e14]; done) | (rw [e14]; rfl)) ?_
                      refine J150 _ ?_
                      exact lv_sub hl [0] rfl
                    refine lv_aload_n hx hb d_M_navigate_139 rfl (lv_at hl 0 rfl) ?_
                    refine jg_M hc hh 8 (by decide) rfl wf_M_35 d_M_navigate_140 ?_
                    refine lv_iload hx hb d_M_navigate_143 (lv_at hl 3 rfl) ?_
                    refine jm_ild hc hh 8 (by decide) (by decide) jm_pr_ex d_M_navigate_145 ?_
                    refine lv_goto (tgt := 150) hx hb d_M_navigate_146 rfl ?_
                    have J150 : ∀  (ls : Array Slot), lv_has ls 8 [(0, .ref (ad 0))] → W p l e (jr 7) s m args below meth c H locs 0 0 Q (F0 m 150 ls [.int (jm_nd (jm_nh u url (u 6 (ix (jm_presentOf u n))) (jm_within (u 6 (ix (jm_presentOf u n))) url)) (jm_presentOf u n) (jm_within (u 6 (ix (jm_presentOf u n))) url)), .int (jm_push rep url (u 6 (ix (jm_presentOf u n)))), .int 0, .int url, .int n, .ref (ad 0)]) := by
                      intro  ls hl
                      refine jx_callV [.int n, .int url, .int 0, .int (jm_push rep url (u 6 (ix (jm_presentOf u n)))), .int (jm_nd (jm_nh u url (u 6 (ix (jm_presentOf u n))) (jm_within (u 6 (ix (jm_presentOf u n))) url)) (jm_presentOf u n) (jm_within (u 6 (ix (jm_presentOf u n))) url))] [] hc hh (m_enter l D aK ad cA (jm_nh u url (u 6 (ix (jm_presentOf u n))) (jm_within (u 6 (ix (jm_presentOf u n))) url)) n url 0 (jm_push rep url (u 6 (ix (jm_presentOf u n)))) (jm_nd (jm_nh u url (u 6 (ix (jm_presentOf u n))) (jm_within (u 6 (ix (jm_presentOf u n))) url)) (jm_presentOf u n) (jm_within (u 6 (ix (jm_presentOf u n))) url)) (jm_nh_Sh hS) (jm_shown_ex h19) (jm_btw_ub h8) (jm_nd_jq (jm_nh_Sh hS) jm_pr_ex) (jm_Nw_of hn jm_nh_21)) wy_M_159 ⟨by decide, rfl, rfl⟩ (by decide) rfl hl.1 rfl (by decide) ⟨Nat.zero_le _, Nat.zero_le _⟩ d_M_navigate_150 (fun r u9 H locs hp hh _ _ => ?_)
                      rw [hp.2] at hh
                      refine W.eq (g2 := F0 m 153 ls []) rfl ?_
                      refine lv_aload_n hx hb d_M_navigate_153 rfl (lv_at hl 0 rfl) ?_
                      refine jg_M hc hh 21 (by decide) rfl wf_M_130 d_M_navigate_154 ?_
                      exact jx_iret (r := ((jm_enter (jm_nh u url (u 6 (ix (jm_presentOf u n))) (jm_within (u 6 (ix (jm_presentOf u n))) url)) n url 0 (jm_push rep url (u 6 (ix (jm_presentOf u n)))) (jm_nd (jm_nh u url (u 6 (ix (jm_presentOf u n))) (jm_within (u 6 (ix (jm_presentOf u n))) url)) (jm_presentOf u n) (jm_within (u 6 (ix (jm_presentOf u n))) url))) 21 0)) hc hh hQ hlk hr rfl rfl ⟨by unfold jm_navigate jm_navF; rw [if_neg h8, if_neg h19, if_pos h64]; rfl, by unfold jm_navigate jm_navF; rw [if_neg h8, if_neg h19, if_pos h64]; rfl⟩ d_M_navigate_157
                    have e15 : (jm_nd (jm_nh u url (u 6 (ix (jm_presentOf u n))) (jm_within (u 6 (ix (jm_presentOf u n))) url)) (jm_presentOf u n) (jm_within (u 6 (ix (jm_presentOf u n))) url)) = ((jm_nh u url (u 6 (ix (jm_presentOf u n))) (jm_within (u 6 (ix (jm_presentOf u n))) url)) 8 (ix (jm_presentOf u n))) := by simp [jm_nd, h136]
                    refine W.eq (g2 := F0 m 150 ls [.int (jm_nd (jm_nh u url (u 6 (ix (jm_presentOf u n))) (jm_within (u 6 (ix (jm_presentOf u n))) url)) (jm_presentOf u n) (jm_within (u 6 (ix (jm_presentOf u n))) url)), .int (jm_push rep url (u 6 (ix (jm_presentOf u n)))), .int 0, .int url, .int n, .ref (ad 0)]) (by first | (rw [e15]; done) | (rw [e15]; rfl)) ?_
                    refine J150 _ ?_
                    exact lv_sub hl [0] rfl
                  have e16 : (jm_nh u url (u 6 (ix (jm_presentOf u n))) (jm_within (u 6 (ix (jm_presentOf u n))) url)) = u := by first | (simp [jm_nh, h109, h115]; done) | (simp [jm_nh, h109, eq_true h115]; done)
                  refine J128 _ _ _ ?_ ?_
                  ·
                    try rw [e16]
                    exact hh
                  try rw [e16]
                  exact lv_sub hl [1, 2, 3, 4, 6, 0] rfl
                refine lv_aload_n hx hb d_M_navigate_118 rfl (lv_at hl 1 rfl) ?_
                refine lv_dup hx hb d_M_navigate_119 rfl ?_
                refine jg_M hc hh 24 (by decide) rfl wf_M_156 d_M_navigate_120 ?_
                refine lv_iconst (v := 1) hx hb d_M_navigate_123 (by decide) ?_
                refine lv_iadd hx hb d_M_navigate_124 ?_
                refine jpm_24 hc hh wf_M_156 d_M_navigate_125 (fun H locs hh => ?_)
                have J128 : ∀  (H : Heap) (locs : List Loc) (ls : Array Slot), jx_H D 22 ad (jm_cell ad cA (jm_nh u url (u 6 (ix (jm_presentOf u n))) (jm_within (u 6 (ix (jm_presentOf u n))) url))) A s.heap H locs → lv_has ls 8 [(0, .ref (ad 0)), (1, .int n), (2, .int url), (4, .int (jm_presentOf u n)), (6, .int (jm_push rep url (u 6 (ix (jm_presentOf u n))))), (7, .int (jm_within (u 6 (ix (jm_presentOf u n))) url))] → W p l e (jr 7) s m args below meth c H locs 0 0 Q (F0 m 128 ls []) := by
                  intro  H locs ls hh hl
                  refine lv_aload_n hx hb d_M_navigate_128 rfl (lv_at hl 0 rfl) ?_
                  refine lv_iload_n hx hb d_M_navigate_129 rfl (lv_at hl 1 rfl) ?_
                  refine lv_iload_n hx hb d_M_navigate_130 rfl (lv_at hl 2 rfl) ?_
                  refine lv_iconst (v := 0) hx hb d_M_navigate_131 (by decide) ?_
                  refine lv_iload hx hb d_M_navigate_132 (lv_at hl 4 rfl) ?_
                  refine lv_iload hx hb d_M_navigate_134 (lv_at hl 5 rfl) ?_
                  refine lv_if_eq (tgt := 149) hx hb d_M_navigate_136 rfl (fun h136 => ?_) (fun h136 => ?_)
                  ·
                    refine lv_iconst (v := -1) hx hb d_M_navigate_149 (by decide) ?_
                    have J150 : ∀  (ls : Array Slot), lv_has ls 8 [(0, .ref (ad 0))] → W p l e (jr 7) s m args below meth c H locs 0 0 Q (F0 m 150 ls [.int (jm_nd (jm_nh u url (u 6 (ix (jm_presentOf u n))) (jm_within (u 6 (ix (jm_presentOf u n))) url)) (jm_presentOf u n) (jm_within (u 6 (ix (jm_presentOf u n))) url)), .int (jm_push rep url (u 6 (ix (jm_presentOf u n)))), .int 0, .int url, .int n, .ref (ad 0)]) := by
                      intro  ls hl
                      refine jx_callV [.int n, .int url, .int 0, .int (jm_push rep url (u 6 (ix (jm_presentOf u n)))), .int (jm_nd (jm_nh u url (u 6 (ix (jm_presentOf u n))) (jm_within (u 6 (ix (jm_presentOf u n))) url)) (jm_presentOf u n) (jm_within (u 6 (ix (jm_presentOf u n))) url))] [] hc hh (m_enter l D aK ad cA (jm_nh u url (u 6 (ix (jm_presentOf u n))) (jm_within (u 6 (ix (jm_presentOf u n))) url)) n url 0 (jm_push rep url (u 6 (ix (jm_presentOf u n)))) (jm_nd (jm_nh u url (u 6 (ix (jm_presentOf u n))) (jm_within (u 6 (ix (jm_presentOf u n))) url)) (jm_presentOf u n) (jm_within (u 6 (ix (jm_presentOf u n))) url)) (jm_nh_Sh hS) (jm_shown_ex h19) (jm_btw_ub h8) (jm_nd_jq (jm_nh_Sh hS) jm_pr_ex) (jm_Nw_of hn jm_nh_21)) wy_M_159 ⟨by decide, rfl, rfl⟩ (by decide) rfl hl.1 rfl (by decide) ⟨Nat.zero_le _, Nat.zero_le _⟩ d_M_navigate_150 (fun r u9 H locs hp hh _ _ => ?_)
                      rw [hp.2] at hh
                      refine W.eq (g2 := F0 m 153 ls []) rfl ?_
                      refine lv_aload_n hx hb d_M_navigate_153 rfl (lv_at hl 0 rfl) ?_
                      refine jg_M hc hh 21 (by decide) rfl wf_M_130 d_M_navigate_154 ?_
                      exact jx_iret (r := ((jm_enter (jm_nh u url (u 6 (ix (jm_presentOf u n))) (jm_within (u 6 (ix (jm_presentOf u n))) url)) n url 0 (jm_push rep url (u 6 (ix (jm_presentOf u n)))) (jm_nd (jm_nh u url (u 6 (ix (jm_presentOf u n))) (jm_within (u 6 (ix (jm_presentOf u n))) url)) (jm_presentOf u n) (jm_within (u 6 (ix (jm_presentOf u n))) url))) 21 0)) hc hh hQ hlk hr rfl rfl ⟨by unfold jm_navigate jm_navF; rw [if_neg h8, if_neg h19, if_pos h64]; rfl, by unfold jm_navigate jm_navF; rw [if_neg h8, if_neg h19, if_pos h64]; rfl⟩ d_M_navigate_157
                    have e17 : (jm_nd (jm_nh u url (u 6 (ix (jm_presentOf u n))) (jm_within (u 6 (ix (jm_presentOf u n))) url)) (jm_presentOf u n) (jm_within (u 6 (ix (jm_presentOf u n))) url)) = (-1) := by first | (simp [jm_nd, h136]; done) | (simp [jm_nd, eq_true h136]; done)
                    refine W.eq (g2 := F0 m 150 ls [.int (jm_nd (jm_nh u url (u 6 (ix (jm_presentOf u n))) (jm_within (u 6 (ix (jm_presentOf u n))) url)) (jm_presentOf u n) (jm_within (u 6 (ix (jm_presentOf u n))) url)), .int (jm_push rep url (u 6 (ix (jm_presentOf u n)))), .int 0, .int url, .int n, .ref (ad 0)]) (by first | (rw [e17]; done) | (rw [e17]; rfl)) ?_
                    refine J150 _ ?_
                    exact lv_sub hl [0] rfl
                  refine lv_aload_n hx hb d_M_navigate_139 rfl (lv_at hl 0 rfl) ?_
                  refine jg_M hc hh 8 (by decide) rfl wf_M_35 d_M_navigate_140 ?_
                  refine lv_iload hx hb d_M_navigate_143 (lv_at hl 3 rfl) ?_
                  refine jm_ild hc hh 8 (by decide) (by decide) jm_pr_ex d_M_navigate_145 ?_
                  refine lv_goto (tgt := 150) hx hb d_M_navigate_146 rfl ?_
                  have J150 : ∀  (ls : Array Slot), lv_has ls 8 [(0, .ref (ad 0))] → W p l e (jr 7) s m args below meth c H locs 0 0 Q (F0 m 150 ls [.int (jm_nd (jm_nh u url (u 6 (ix (jm_presentOf u n))) (jm_within (u 6 (ix (jm_presentOf u n))) url)) (jm_presentOf u n) (jm_within (u 6 (ix (jm_presentOf u n))) url)), .int (jm_push rep url (u 6 (ix (jm_presentOf u n)))), .int 0, .int url, .int n, .ref (ad 0)]) := by
                    intro  ls hl
                    refine jx_callV [.int n, .int url, .int 0, .int (jm_push rep url (u 6 (ix (jm_presentOf u n)))), .int (jm_nd (jm_nh u url (u 6 (ix (jm_presentOf u n))) (jm_within (u 6 (ix (jm_presentOf u n))) url)) (jm_presentOf u n) (jm_within (u 6 (ix (jm_presentOf u n))) url))] [] hc hh (m_enter l D aK ad cA (jm_nh u url (u 6 (ix (jm_presentOf u n))) (jm_within (u 6 (ix (jm_presentOf u n))) url)) n url 0 (jm_push rep url (u 6 (ix (jm_presentOf u n)))) (jm_nd (jm_nh u url (u 6 (ix (jm_presentOf u n))) (jm_within (u 6 (ix (jm_presentOf u n))) url)) (jm_presentOf u n) (jm_within (u 6 (ix (jm_presentOf u n))) url)) (jm_nh_Sh hS) (jm_shown_ex h19) (jm_btw_ub h8) (jm_nd_jq (jm_nh_Sh hS) jm_pr_ex) (jm_Nw_of hn jm_nh_21)) wy_M_159 ⟨by decide, rfl, rfl⟩ (by decide) rfl hl.1 rfl (by decide) ⟨Nat.zero_le _, Nat.zero_le _⟩ d_M_navigate_150 (fun r u9 H locs hp hh _ _ => ?_)
                    rw [hp.2] at hh
                    refine W.eq (g2 := F0 m 153 ls []) rfl ?_
                    refine lv_aload_n hx hb d_M_navigate_153 rfl (lv_at hl 0 rfl) ?_
                    refine jg_M hc hh 21 (by decide) rfl wf_M_130 d_M_navigate_154 ?_
                    exact jx_iret (r := ((jm_enter (jm_nh u url (u 6 (ix (jm_presentOf u n))) (jm_within (u 6 (ix (jm_presentOf u n))) url)) n url 0 (jm_push rep url (u 6 (ix (jm_presentOf u n)))) (jm_nd (jm_nh u url (u 6 (ix (jm_presentOf u n))) (jm_within (u 6 (ix (jm_presentOf u n))) url)) (jm_presentOf u n) (jm_within (u 6 (ix (jm_presentOf u n))) url))) 21 0)) hc hh hQ hlk hr rfl rfl ⟨by unfold jm_navigate jm_navF; rw [if_neg h8, if_neg h19, if_pos h64]; rfl, by unfold jm_navigate jm_navF; rw [if_neg h8, if_neg h19, if_pos h64]; rfl⟩ d_M_navigate_157
                  have e18 : (jm_nd (jm_nh u url (u 6 (ix (jm_presentOf u n))) (jm_within (u 6 (ix (jm_presentOf u n))) url)) (jm_presentOf u n) (jm_within (u 6 (ix (jm_presentOf u n))) url)) = ((jm_nh u url (u 6 (ix (jm_presentOf u n))) (jm_within (u 6 (ix (jm_presentOf u n))) url)) 8 (ix (jm_presentOf u n))) := by simp [jm_nd, h136]
                  refine W.eq (g2 := F0 m 150 ls [.int (jm_nd (jm_nh u url (u 6 (ix (jm_presentOf u n))) (jm_within (u 6 (ix (jm_presentOf u n))) url)) (jm_presentOf u n) (jm_within (u 6 (ix (jm_presentOf u n))) url)), .int (jm_push rep url (u 6 (ix (jm_presentOf u n)))), .int 0, .int url, .int n, .ref (ad 0)]) (by first | (rw [e18]; done) | (rw [e18]; rfl)) ?_
                  refine J150 _ ?_
                  exact lv_sub hl [0] rfl
                have e19 : (jm_nh u url (u 6 (ix (jm_presentOf u n))) (jm_within (u 6 (ix (jm_presentOf u n))) url)) = (js_up u 24 0 ((u 24 0) + 1)) := by simp [jm_nh, h109, h115]
                refine J128 _ _ _ ?_ ?_
                ·
                  try rw [e19]
                  exact hh
                try rw [e19]
                exact lv_sub hl [1, 2, 3, 4, 6, 0] rfl
              have e20 : (jm_within (u 6 (ix (jm_presentOf u n))) url) = 0 := by first | (simp [jm_within, h64, h72, h79]; done) | (simp [jm_within, eq_true h64, h72, eq_true h79]; done)
              refine W.eq (g2 := F0 m 105 ls [.int (jm_within (u 6 (ix (jm_presentOf u n))) url)]) (by first | (rw [e20]; done) | (rw [e20]; rfl)) ?_
              refine J105 _ _ _ ?_ ?_
              ·
                exact hh
              exact lv_sub hl [1, 2, 3, 4, 5, 0] rfl
            refine lv_iload hx hb d_M_navigate_82 (lv_at hl 5 rfl) ?_
            refine lv_iconst (v := -1) hx hb d_M_navigate_84 (by decide) ?_
            refine lv_icmp_eq (tgt := 104) hx hb d_M_navigate_85 rfl (fun h85 => ?_) (fun h85 => ?_)
            ·
              refine lv_iconst (v := 0) hx hb d_M_navigate_104 (by decide) ?_
              have J105 : ∀  (H : Heap) (locs : List Loc) (ls : Array Slot), jx_H D 22 ad (jm_cell ad cA u) A s.heap H locs → lv_has ls 8 [(0, .ref (ad 0)), (1, .int n), (2, .int url), (4, .int (jm_presentOf u n)), (5, .int (u 6 (ix (jm_presentOf u n)))), (6, .int (jm_push rep url (u 6 (ix (jm_presentOf u n)))))] → W p l e (jr 7) s m args below meth c H locs 0 0 Q (F0 m 105 ls [.int (jm_within (u 6 (ix (jm_presentOf u n))) url)]) := by
                intro  H locs ls hh hl
                refine lv_istore (i := 7) (lv' := [(7, .int (jm_within (u 6 (ix (jm_presentOf u n))) url)), (0, .ref (ad 0)), (1, .int n), (2, .int url), (4, .int (jm_presentOf u n)), (5, .int (u 6 (ix (jm_presentOf u n)))), (6, .int (jm_push rep url (u 6 (ix (jm_presentOf u n)))))]) hx hb d_M_navigate_105 hl (by decide) rfl (fun ls hl => ?_)
                refine lv_iload hx hb d_M_navigate_107 (lv_at hl 0 rfl) ?_
                refine lv_if_eq (tgt := 128) hx hb d_M_navigate_109 rfl (fun h109 => ?_) (fun h109 => ?_)
                ·
                  have J128 : ∀  (H : Heap) (locs : List Loc) (ls : Array Slot), jx_H D 22 ad (jm_cell ad cA (jm_nh u url (u 6 (ix (jm_presentOf u n))) (jm_within (u 6 (ix (jm_presentOf u n))) url))) A s.heap H locs → lv_has ls 8 [(0, .ref (ad 0)), (1, .int n), (2, .int url), (4, .int (jm_presentOf u n)), (6, .int (jm_push rep url (u 6 (ix (jm_presentOf u n))))), (7, .int (jm_within (u 6 (ix (jm_presentOf u n))) url))] → W p l e (jr 7) s m args below meth c H locs 0 0 Q (F0 m 128 ls []) := by
                    intro  H locs ls hh hl
                    refine lv_aload_n hx hb d_M_navigate_128 rfl (lv_at hl 0 rfl) ?_
                    refine lv_iload_n hx hb d_M_navigate_129 rfl (lv_at hl 1 rfl) ?_
                    refine lv_iload_n hx hb d_M_navigate_130 rfl (lv_at hl 2 rfl) ?_
                    refine lv_iconst (v := 0) hx hb d_M_navigate_131 (by decide) ?_
                    refine lv_iload hx hb d_M_navigate_132 (lv_at hl 4 rfl) ?_
                    refine lv_iload hx hb d_M_navigate_134 (lv_at hl 5 rfl) ?_
                    refine lv_if_eq (tgt := 149) hx hb d_M_navigate_136 rfl (fun h136 => ?_) (fun h136 => ?_)
                    ·
                      refine lv_iconst (v := -1) hx hb d_M_navigate_149 (by decide) ?_
                      have J150 : ∀  (ls : Array Slot), lv_has ls 8 [(0, .ref (ad 0))] → W p l e (jr 7) s m args below meth c H locs 0 0 Q (F0 m 150 ls [.int (jm_nd (jm_nh u url (u 6 (ix (jm_presentOf u n))) (jm_within (u 6 (ix (jm_presentOf u n))) url)) (jm_presentOf u n) (jm_within (u 6 (ix (jm_presentOf u n))) url)), .int (jm_push rep url (u 6 (ix (jm_presentOf u n)))), .int 0, .int url, .int n, .ref (ad 0)]) := by
                        intro  ls hl
                        refine jx_callV [.int n, .int url, .int 0, .int (jm_push rep url (u 6 (ix (jm_presentOf u n)))), .int (jm_nd (jm_nh u url (u 6 (ix (jm_presentOf u n))) (jm_within (u 6 (ix (jm_presentOf u n))) url)) (jm_presentOf u n) (jm_within (u 6 (ix (jm_presentOf u n))) url))] [] hc hh (m_enter l D aK ad cA (jm_nh u url (u 6 (ix (jm_presentOf u n))) (jm_within (u 6 (ix (jm_presentOf u n))) url)) n url 0 (jm_push rep url (u 6 (ix (jm_presentOf u n)))) (jm_nd (jm_nh u url (u 6 (ix (jm_presentOf u n))) (jm_within (u 6 (ix (jm_presentOf u n))) url)) (jm_presentOf u n) (jm_within (u 6 (ix (jm_presentOf u n))) url)) (jm_nh_Sh hS) (jm_shown_ex h19) (jm_btw_ub h8) (jm_nd_jq (jm_nh_Sh hS) jm_pr_ex) (jm_Nw_of hn jm_nh_21)) wy_M_159 ⟨by decide, rfl, rfl⟩ (by decide) rfl hl.1 rfl (by decide) ⟨Nat.zero_le _, Nat.zero_le _⟩ d_M_navigate_150 (fun r u9 H locs hp hh _ _ => ?_)
                        rw [hp.2] at hh
                        refine W.eq (g2 := F0 m 153 ls []) rfl ?_
                        refine lv_aload_n hx hb d_M_navigate_153 rfl (lv_at hl 0 rfl) ?_
                        refine jg_M hc hh 21 (by decide) rfl wf_M_130 d_M_navigate_154 ?_
                        exact jx_iret (r := ((jm_enter (jm_nh u url (u 6 (ix (jm_presentOf u n))) (jm_within (u 6 (ix (jm_presentOf u n))) url)) n url 0 (jm_push rep url (u 6 (ix (jm_presentOf u n)))) (jm_nd (jm_nh u url (u 6 (ix (jm_presentOf u n))) (jm_within (u 6 (ix (jm_presentOf u n))) url)) (jm_presentOf u n) (jm_within (u 6 (ix (jm_presentOf u n))) url))) 21 0)) hc hh hQ hlk hr rfl rfl ⟨by unfold jm_navigate jm_navF; rw [if_neg h8, if_neg h19, if_pos h64]; rfl, by unfold jm_navigate jm_navF; rw [if_neg h8, if_neg h19, if_pos h64]; rfl⟩ d_M_navigate_157
                      have e21 : (jm_nd (jm_nh u url (u 6 (ix (jm_presentOf u n))) (jm_within (u 6 (ix (jm_presentOf u n))) url)) (jm_presentOf u n) (jm_within (u 6 (ix (jm_presentOf u n))) url)) = (-1) := by first | (simp [jm_nd, h136]; done) | (simp [jm_nd, eq_true h136]; done)
                      refine W.eq (g2 := F0 m 150 ls [.int (jm_nd (jm_nh u url (u 6 (ix (jm_presentOf u n))) (jm_within (u 6 (ix (jm_presentOf u n))) url)) (jm_presentOf u n) (jm_within (u 6 (ix (jm_presentOf u n))) url)), .int (jm_push rep url (u 6 (ix (jm_presentOf u n)))), .int 0, .int url, .int n, .ref (ad 0)]) (by first | (rw [e21]; done) | (rw [e21]; rfl)) ?_
                      refine J150 _ ?_
                      exact lv_sub hl [0] rfl
                    refine lv_aload_n hx hb d_M_navigate_139 rfl (lv_at hl 0 rfl) ?_
                    refine jg_M hc hh 8 (by decide) rfl wf_M_35 d_M_navigate_140 ?_
                    refine lv_iload hx hb d_M_navigate_143 (lv_at hl 3 rfl) ?_
                    refine jm_ild hc hh 8 (by decide) (by decide) jm_pr_ex d_M_navigate_145 ?_
                    refine lv_goto (tgt := 150) hx hb d_M_navigate_146 rfl ?_
                    have J150 : ∀  (ls : Array Slot), lv_has ls 8 [(0, .ref (ad 0))] → W p l e (jr 7) s m args below meth c H locs 0 0 Q (F0 m 150 ls [.int (jm_nd (jm_nh u url (u 6 (ix (jm_presentOf u n))) (jm_within (u 6 (ix (jm_presentOf u n))) url)) (jm_presentOf u n) (jm_within (u 6 (ix (jm_presentOf u n))) url)), .int (jm_push rep url (u 6 (ix (jm_presentOf u n)))), .int 0, .int url, .int n, .ref (ad 0)]) := by
                      intro  ls hl
                      refine jx_callV [.int n, .int url, .int 0, .int (jm_push rep url (u 6 (ix (jm_presentOf u n)))), .int (jm_nd (jm_nh u url (u 6 (ix (jm_presentOf u n))) (jm_within (u 6 (ix (jm_presentOf u n))) url)) (jm_presentOf u n) (jm_within (u 6 (ix (jm_presentOf u n))) url))] [] hc hh (m_enter l D aK ad cA (jm_nh u url (u 6 (ix (jm_presentOf u n))) (jm_within (u 6 (ix (jm_presentOf u n))) url)) n url 0 (jm_push rep url (u 6 (ix (jm_presentOf u n)))) (jm_nd (jm_nh u url (u 6 (ix (jm_presentOf u n))) (jm_within (u 6 (ix (jm_presentOf u n))) url)) (jm_presentOf u n) (jm_within (u 6 (ix (jm_presentOf u n))) url)) (jm_nh_Sh hS) (jm_shown_ex h19) (jm_btw_ub h8) (jm_nd_jq (jm_nh_Sh hS) jm_pr_ex) (jm_Nw_of hn jm_nh_21)) wy_M_159 ⟨by decide, rfl, rfl⟩ (by decide) rfl hl.1 rfl (by decide) ⟨Nat.zero_le _, Nat.zero_le _⟩ d_M_navigate_150 (fun r u9 H locs hp hh _ _ => ?_)
                      rw [hp.2] at hh
                      refine W.eq (g2 := F0 m 153 ls []) rfl ?_
                      refine lv_aload_n hx hb d_M_navigate_153 rfl (lv_at hl 0 rfl) ?_
                      refine jg_M hc hh 21 (by decide) rfl wf_M_130 d_M_navigate_154 ?_
                      exact jx_iret (r := ((jm_enter (jm_nh u url (u 6 (ix (jm_presentOf u n))) (jm_within (u 6 (ix (jm_presentOf u n))) url)) n url 0 (jm_push rep url (u 6 (ix (jm_presentOf u n)))) (jm_nd (jm_nh u url (u 6 (ix (jm_presentOf u n))) (jm_within (u 6 (ix (jm_presentOf u n))) url)) (jm_presentOf u n) (jm_within (u 6 (ix (jm_presentOf u n))) url))) 21 0)) hc hh hQ hlk hr rfl rfl ⟨by unfold jm_navigate jm_navF; rw [if_neg h8, if_neg h19, if_pos h64]; rfl, by unfold jm_navigate jm_navF; rw [if_neg h8, if_neg h19, if_pos h64]; rfl⟩ d_M_navigate_157
                    have e22 : (jm_nd (jm_nh u url (u 6 (ix (jm_presentOf u n))) (jm_within (u 6 (ix (jm_presentOf u n))) url)) (jm_presentOf u n) (jm_within (u 6 (ix (jm_presentOf u n))) url)) = ((jm_nh u url (u 6 (ix (jm_presentOf u n))) (jm_within (u 6 (ix (jm_presentOf u n))) url)) 8 (ix (jm_presentOf u n))) := by simp [jm_nd, h136]
                    refine W.eq (g2 := F0 m 150 ls [.int (jm_nd (jm_nh u url (u 6 (ix (jm_presentOf u n))) (jm_within (u 6 (ix (jm_presentOf u n))) url)) (jm_presentOf u n) (jm_within (u 6 (ix (jm_presentOf u n))) url)), .int (jm_push rep url (u 6 (ix (jm_presentOf u n)))), .int 0, .int url, .int n, .ref (ad 0)]) (by first | (rw [e22]; done) | (rw [e22]; rfl)) ?_
                    refine J150 _ ?_
                    exact lv_sub hl [0] rfl
                  have e23 : (jm_nh u url (u 6 (ix (jm_presentOf u n))) (jm_within (u 6 (ix (jm_presentOf u n))) url)) = u := by first | (simp [jm_nh, h109]; done) | (simp [jm_nh, eq_true h109]; done)
                  refine J128 _ _ _ ?_ ?_
                  ·
                    try rw [e23]
                    exact hh
                  try rw [e23]
                  exact lv_sub hl [1, 2, 3, 4, 6, 0] rfl
                refine lv_iload_n hx hb d_M_navigate_112 rfl (lv_at hl 3 rfl) ?_
                refine lv_iload hx hb d_M_navigate_113 (lv_at hl 5 rfl) ?_
                refine lv_icmp_eq (tgt := 128) hx hb d_M_navigate_115 rfl (fun h115 => ?_) (fun h115 => ?_)
                ·
                  have J128 : ∀  (H : Heap) (locs : List Loc) (ls : Array Slot), jx_H D 22 ad (jm_cell ad cA (jm_nh u url (u 6 (ix (jm_presentOf u n))) (jm_within (u 6 (ix (jm_presentOf u n))) url))) A s.heap H locs → lv_has ls 8 [(0, .ref (ad 0)), (1, .int n), (2, .int url), (4, .int (jm_presentOf u n)), (6, .int (jm_push rep url (u 6 (ix (jm_presentOf u n))))), (7, .int (jm_within (u 6 (ix (jm_presentOf u n))) url))] → W p l e (jr 7) s m args below meth c H locs 0 0 Q (F0 m 128 ls []) := by
                    intro  H locs ls hh hl
                    refine lv_aload_n hx hb d_M_navigate_128 rfl (lv_at hl 0 rfl) ?_
                    refine lv_iload_n hx hb d_M_navigate_129 rfl (lv_at hl 1 rfl) ?_
                    refine lv_iload_n hx hb d_M_navigate_130 rfl (lv_at hl 2 rfl) ?_
                    refine lv_iconst (v := 0) hx hb d_M_navigate_131 (by decide) ?_
                    refine lv_iload hx hb d_M_navigate_132 (lv_at hl 4 rfl) ?_
                    refine lv_iload hx hb d_M_navigate_134 (lv_at hl 5 rfl) ?_
                    refine lv_if_eq (tgt := 149) hx hb d_M_navigate_136 rfl (fun h136 => ?_) (fun h136 => ?_)
                    ·
                      refine lv_iconst (v := -1) hx hb d_M_navigate_149 (by decide) ?_
                      have J150 : ∀  (ls : Array Slot), lv_has ls 8 [(0, .ref (ad 0))] → W p l e (jr 7) s m args below meth c H locs 0 0 Q (F0 m 150 ls [.int (jm_nd (jm_nh u url (u 6 (ix (jm_presentOf u n))) (jm_within (u 6 (ix (jm_presentOf u n))) url)) (jm_presentOf u n) (jm_within (u 6 (ix (jm_presentOf u n))) url)), .int (jm_push rep url (u 6 (ix (jm_presentOf u n)))), .int 0, .int url, .int n, .ref (ad 0)]) := by
                        intro  ls hl
                        refine jx_callV [.int n, .int url, .int 0, .int (jm_push rep url (u 6 (ix (jm_presentOf u n)))), .int (jm_nd (jm_nh u url (u 6 (ix (jm_presentOf u n))) (jm_within (u 6 (ix (jm_presentOf u n))) url)) (jm_presentOf u n) (jm_within (u 6 (ix (jm_presentOf u n))) url))] [] hc hh (m_enter l D aK ad cA (jm_nh u url (u 6 (ix (jm_presentOf u n))) (jm_within (u 6 (ix (jm_presentOf u n))) url)) n url 0 (jm_push rep url (u 6 (ix (jm_presentOf u n)))) (jm_nd (jm_nh u url (u 6 (ix (jm_presentOf u n))) (jm_within (u 6 (ix (jm_presentOf u n))) url)) (jm_presentOf u n) (jm_within (u 6 (ix (jm_presentOf u n))) url)) (jm_nh_Sh hS) (jm_shown_ex h19) (jm_btw_ub h8) (jm_nd_jq (jm_nh_Sh hS) jm_pr_ex) (jm_Nw_of hn jm_nh_21)) wy_M_159 ⟨by decide, rfl, rfl⟩ (by decide) rfl hl.1 rfl (by decide) ⟨Nat.zero_le _, Nat.zero_le _⟩ d_M_navigate_150 (fun r u9 H locs hp hh _ _ => ?_)
                        rw [hp.2] at hh
                        refine W.eq (g2 := F0 m 153 ls []) rfl ?_
                        refine lv_aload_n hx hb d_M_navigate_153 rfl (lv_at hl 0 rfl) ?_
                        refine jg_M hc hh 21 (by decide) rfl wf_M_130 d_M_navigate_154 ?_
                        exact jx_iret (r := ((jm_enter (jm_nh u url (u 6 (ix (jm_presentOf u n))) (jm_within (u 6 (ix (jm_presentOf u n))) url)) n url 0 (jm_push rep url (u 6 (ix (jm_presentOf u n)))) (jm_nd (jm_nh u url (u 6 (ix (jm_presentOf u n))) (jm_within (u 6 (ix (jm_presentOf u n))) url)) (jm_presentOf u n) (jm_within (u 6 (ix (jm_presentOf u n))) url))) 21 0)) hc hh hQ hlk hr rfl rfl ⟨by unfold jm_navigate jm_navF; rw [if_neg h8, if_neg h19, if_pos h64]; rfl, by unfold jm_navigate jm_navF; rw [if_neg h8, if_neg h19, if_pos h64]; rfl⟩ d_M_navigate_157
                      have e24 : (jm_nd (jm_nh u url (u 6 (ix (jm_presentOf u n))) (jm_within (u 6 (ix (jm_presentOf u n))) url)) (jm_presentOf u n) (jm_within (u 6 (ix (jm_presentOf u n))) url)) = (-1) := by first | (simp [jm_nd, h136]; done) | (simp [jm_nd, eq_true h136]; done)
                      refine W.eq (g2 := F0 m 150 ls [.int (jm_nd (jm_nh u url (u 6 (ix (jm_presentOf u n))) (jm_within (u 6 (ix (jm_presentOf u n))) url)) (jm_presentOf u n) (jm_within (u 6 (ix (jm_presentOf u n))) url)), .int (jm_push rep url (u 6 (ix (jm_presentOf u n)))), .int 0, .int url, .int n, .ref (ad 0)]) (by first | (rw [e24]; done) | (rw [e24]; rfl)) ?_
                      refine J150 _ ?_
                      exact lv_sub hl [0] rfl
                    refine lv_aload_n hx hb d_M_navigate_139 rfl (lv_at hl 0 rfl) ?_
                    refine jg_M hc hh 8 (by decide) rfl wf_M_35 d_M_navigate_140 ?_
                    refine lv_iload hx hb d_M_navigate_143 (lv_at hl 3 rfl) ?_
                    refine jm_ild hc hh 8 (by decide) (by decide) jm_pr_ex d_M_navigate_145 ?_
                    refine lv_goto (tgt := 150) hx hb d_M_navigate_146 rfl ?_
                    have J150 : ∀  (ls : Array Slot), lv_has ls 8 [(0, .ref (ad 0))] → W p l e (jr 7) s m args below meth c H locs 0 0 Q (F0 m 150 ls [.int (jm_nd (jm_nh u url (u 6 (ix (jm_presentOf u n))) (jm_within (u 6 (ix (jm_presentOf u n))) url)) (jm_presentOf u n) (jm_within (u 6 (ix (jm_presentOf u n))) url)), .int (jm_push rep url (u 6 (ix (jm_presentOf u n)))), .int 0, .int url, .int n, .ref (ad 0)]) := by
                      intro  ls hl
                      refine jx_callV [.int n, .int url, .int 0, .int (jm_push rep url (u 6 (ix (jm_presentOf u n)))), .int (jm_nd (jm_nh u url (u 6 (ix (jm_presentOf u n))) (jm_within (u 6 (ix (jm_presentOf u n))) url)) (jm_presentOf u n) (jm_within (u 6 (ix (jm_presentOf u n))) url))] [] hc hh (m_enter l D aK ad cA (jm_nh u url (u 6 (ix (jm_presentOf u n))) (jm_within (u 6 (ix (jm_presentOf u n))) url)) n url 0 (jm_push rep url (u 6 (ix (jm_presentOf u n)))) (jm_nd (jm_nh u url (u 6 (ix (jm_presentOf u n))) (jm_within (u 6 (ix (jm_presentOf u n))) url)) (jm_presentOf u n) (jm_within (u 6 (ix (jm_presentOf u n))) url)) (jm_nh_Sh hS) (jm_shown_ex h19) (jm_btw_ub h8) (jm_nd_jq (jm_nh_Sh hS) jm_pr_ex) (jm_Nw_of hn jm_nh_21)) wy_M_159 ⟨by decide, rfl, rfl⟩ (by decide) rfl hl.1 rfl (by decide) ⟨Nat.zero_le _, Nat.zero_le _⟩ d_M_navigate_150 (fun r u9 H locs hp hh _ _ => ?_)
                      rw [hp.2] at hh
                      refine W.eq (g2 := F0 m 153 ls []) rfl ?_
                      refine lv_aload_n hx hb d_M_navigate_153 rfl (lv_at hl 0 rfl) ?_
                      refine jg_M hc hh 21 (by decide) rfl wf_M_130 d_M_navigate_154 ?_
                      exact jx_iret (r := ((jm_enter (jm_nh u url (u 6 (ix (jm_presentOf u n))) (jm_within (u 6 (ix (jm_presentOf u n))) url)) n url 0 (jm_push rep url (u 6 (ix (jm_presentOf u n)))) (jm_nd (jm_nh u url (u 6 (ix (jm_presentOf u n))) (jm_within (u 6 (ix (jm_presentOf u n))) url)) (jm_presentOf u n) (jm_within (u 6 (ix (jm_presentOf u n))) url))) 21 0)) hc hh hQ hlk hr rfl rfl ⟨by unfold jm_navigate jm_navF; rw [if_neg h8, if_neg h19, if_pos h64]; rfl, by unfold jm_navigate jm_navF; rw [if_neg h8, if_neg h19, if_pos h64]; rfl⟩ d_M_navigate_157
                    have e25 : (jm_nd (jm_nh u url (u 6 (ix (jm_presentOf u n))) (jm_within (u 6 (ix (jm_presentOf u n))) url)) (jm_presentOf u n) (jm_within (u 6 (ix (jm_presentOf u n))) url)) = ((jm_nh u url (u 6 (ix (jm_presentOf u n))) (jm_within (u 6 (ix (jm_presentOf u n))) url)) 8 (ix (jm_presentOf u n))) := by simp [jm_nd, h136]
                    refine W.eq (g2 := F0 m 150 ls [.int (jm_nd (jm_nh u url (u 6 (ix (jm_presentOf u n))) (jm_within (u 6 (ix (jm_presentOf u n))) url)) (jm_presentOf u n) (jm_within (u 6 (ix (jm_presentOf u n))) url)), .int (jm_push rep url (u 6 (ix (jm_presentOf u n)))), .int 0, .int url, .int n, .ref (ad 0)]) (by first | (rw [e25]; done) | (rw [e25]; rfl)) ?_
                    refine J150 _ ?_
                    exact lv_sub hl [0] rfl
                  have e26 : (jm_nh u url (u 6 (ix (jm_presentOf u n))) (jm_within (u 6 (ix (jm_presentOf u n))) url)) = u := by first | (simp [jm_nh, h109, h115]; done) | (simp [jm_nh, h109, eq_true h115]; done)
                  refine J128 _ _ _ ?_ ?_
                  ·
                    try rw [e26]
                    exact hh
                  try rw [e26]
                  exact lv_sub hl [1, 2, 3, 4, 6, 0] rfl
                refine lv_aload_n hx hb d_M_navigate_118 rfl (lv_at hl 1 rfl) ?_
                refine lv_dup hx hb d_M_navigate_119 rfl ?_
                refine jg_M hc hh 24 (by decide) rfl wf_M_156 d_M_navigate_120 ?_
                refine lv_iconst (v := 1) hx hb d_M_navigate_123 (by decide) ?_
                refine lv_iadd hx hb d_M_navigate_124 ?_
                refine jpm_24 hc hh wf_M_156 d_M_navigate_125 (fun H locs hh => ?_)
                have J128 : ∀  (H : Heap) (locs : List Loc) (ls : Array Slot), jx_H D 22 ad (jm_cell ad cA (jm_nh u url (u 6 (ix (jm_presentOf u n))) (jm_within (u 6 (ix (jm_presentOf u n))) url))) A s.heap H locs → lv_has ls 8 [(0, .ref (ad 0)), (1, .int n), (2, .int url), (4, .int (jm_presentOf u n)), (6, .int (jm_push rep url (u 6 (ix (jm_presentOf u n))))), (7, .int (jm_within (u 6 (ix (jm_presentOf u n))) url))] → W p l e (jr 7) s m args below meth c H locs 0 0 Q (F0 m 128 ls []) := by
                  intro  H locs ls hh hl
                  refine lv_aload_n hx hb d_M_navigate_128 rfl (lv_at hl 0 rfl) ?_
                  refine lv_iload_n hx hb d_M_navigate_129 rfl (lv_at hl 1 rfl) ?_
                  refine lv_iload_n hx hb d_M_navigate_130 rfl (lv_at hl 2 rfl) ?_
                  refine lv_iconst (v := 0) hx hb d_M_navigate_131 (by decide) ?_
                  refine lv_iload hx hb d_M_navigate_132 (lv_at hl 4 rfl) ?_
                  refine lv_iload hx hb d_M_navigate_134 (lv_at hl 5 rfl) ?_
                  refine lv_if_eq (tgt := 149) hx hb d_M_navigate_136 rfl (fun h136 => ?_) (fun h136 => ?_)
                  ·
                    refine lv_iconst (v := -1) hx hb d_M_navigate_149 (by decide) ?_
                    have J150 : ∀  (ls : Array Slot), lv_has ls 8 [(0, .ref (ad 0))] → W p l e (jr 7) s m args below meth c H locs 0 0 Q (F0 m 150 ls [.int (jm_nd (jm_nh u url (u 6 (ix (jm_presentOf u n))) (jm_within (u 6 (ix (jm_presentOf u n))) url)) (jm_presentOf u n) (jm_within (u 6 (ix (jm_presentOf u n))) url)), .int (jm_push rep url (u 6 (ix (jm_presentOf u n)))), .int 0, .int url, .int n, .ref (ad 0)]) := by
                      intro  ls hl
                      refine jx_callV [.int n, .int url, .int 0, .int (jm_push rep url (u 6 (ix (jm_presentOf u n)))), .int (jm_nd (jm_nh u url (u 6 (ix (jm_presentOf u n))) (jm_within (u 6 (ix (jm_presentOf u n))) url)) (jm_presentOf u n) (jm_within (u 6 (ix (jm_presentOf u n))) url))] [] hc hh (m_enter l D aK ad cA (jm_nh u url (u 6 (ix (jm_presentOf u n))) (jm_within (u 6 (ix (jm_presentOf u n))) url)) n url 0 (jm_push rep url (u 6 (ix (jm_presentOf u n)))) (jm_nd (jm_nh u url (u 6 (ix (jm_presentOf u n))) (jm_within (u 6 (ix (jm_presentOf u n))) url)) (jm_presentOf u n) (jm_within (u 6 (ix (jm_presentOf u n))) url)) (jm_nh_Sh hS) (jm_shown_ex h19) (jm_btw_ub h8) (jm_nd_jq (jm_nh_Sh hS) jm_pr_ex) (jm_Nw_of hn jm_nh_21)) wy_M_159 ⟨by decide, rfl, rfl⟩ (by decide) rfl hl.1 rfl (by decide) ⟨Nat.zero_le _, Nat.zero_le _⟩ d_M_navigate_150 (fun r u9 H locs hp hh _ _ => ?_)
                      rw [hp.2] at hh
                      refine W.eq (g2 := F0 m 153 ls []) rfl ?_
                      refine lv_aload_n hx hb d_M_navigate_153 rfl (lv_at hl 0 rfl) ?_
                      refine jg_M hc hh 21 (by decide) rfl wf_M_130 d_M_navigate_154 ?_
                      exact jx_iret (r := ((jm_enter (jm_nh u url (u 6 (ix (jm_presentOf u n))) (jm_within (u 6 (ix (jm_presentOf u n))) url)) n url 0 (jm_push rep url (u 6 (ix (jm_presentOf u n)))) (jm_nd (jm_nh u url (u 6 (ix (jm_presentOf u n))) (jm_within (u 6 (ix (jm_presentOf u n))) url)) (jm_presentOf u n) (jm_within (u 6 (ix (jm_presentOf u n))) url))) 21 0)) hc hh hQ hlk hr rfl rfl ⟨by unfold jm_navigate jm_navF; rw [if_neg h8, if_neg h19, if_pos h64]; rfl, by unfold jm_navigate jm_navF; rw [if_neg h8, if_neg h19, if_pos h64]; rfl⟩ d_M_navigate_157
                    have e27 : (jm_nd (jm_nh u url (u 6 (ix (jm_presentOf u n))) (jm_within (u 6 (ix (jm_presentOf u n))) url)) (jm_presentOf u n) (jm_within (u 6 (ix (jm_presentOf u n))) url)) = (-1) := by first | (simp [jm_nd, h136]; done) | (simp [jm_nd, eq_true h136]; done)
                    refine W.eq (g2 := F0 m 150 ls [.int (jm_nd (jm_nh u url (u 6 (ix (jm_presentOf u n))) (jm_within (u 6 (ix (jm_presentOf u n))) url)) (jm_presentOf u n) (jm_within (u 6 (ix (jm_presentOf u n))) url)), .int (jm_push rep url (u 6 (ix (jm_presentOf u n)))), .int 0, .int url, .int n, .ref (ad 0)]) (by first | (rw [e27]; done) | (rw [e27]; rfl)) ?_
                    refine J150 _ ?_
                    exact lv_sub hl [0] rfl
                  refine lv_aload_n hx hb d_M_navigate_139 rfl (lv_at hl 0 rfl) ?_
                  refine jg_M hc hh 8 (by decide) rfl wf_M_35 d_M_navigate_140 ?_
                  refine lv_iload hx hb d_M_navigate_143 (lv_at hl 3 rfl) ?_
                  refine jm_ild hc hh 8 (by decide) (by decide) jm_pr_ex d_M_navigate_145 ?_
                  refine lv_goto (tgt := 150) hx hb d_M_navigate_146 rfl ?_
                  have J150 : ∀  (ls : Array Slot), lv_has ls 8 [(0, .ref (ad 0))] → W p l e (jr 7) s m args below meth c H locs 0 0 Q (F0 m 150 ls [.int (jm_nd (jm_nh u url (u 6 (ix (jm_presentOf u n))) (jm_within (u 6 (ix (jm_presentOf u n))) url)) (jm_presentOf u n) (jm_within (u 6 (ix (jm_presentOf u n))) url)), .int (jm_push rep url (u 6 (ix (jm_presentOf u n)))), .int 0, .int url, .int n, .ref (ad 0)]) := by
                    intro  ls hl
                    refine jx_callV [.int n, .int url, .int 0, .int (jm_push rep url (u 6 (ix (jm_presentOf u n)))), .int (jm_nd (jm_nh u url (u 6 (ix (jm_presentOf u n))) (jm_within (u 6 (ix (jm_presentOf u n))) url)) (jm_presentOf u n) (jm_within (u 6 (ix (jm_presentOf u n))) url))] [] hc hh (m_enter l D aK ad cA (jm_nh u url (u 6 (ix (jm_presentOf u n))) (jm_within (u 6 (ix (jm_presentOf u n))) url)) n url 0 (jm_push rep url (u 6 (ix (jm_presentOf u n)))) (jm_nd (jm_nh u url (u 6 (ix (jm_presentOf u n))) (jm_within (u 6 (ix (jm_presentOf u n))) url)) (jm_presentOf u n) (jm_within (u 6 (ix (jm_presentOf u n))) url)) (jm_nh_Sh hS) (jm_shown_ex h19) (jm_btw_ub h8) (jm_nd_jq (jm_nh_Sh hS) jm_pr_ex) (jm_Nw_of hn jm_nh_21)) wy_M_159 ⟨by decide, rfl, rfl⟩ (by decide) rfl hl.1 rfl (by decide) ⟨Nat.zero_le _, Nat.zero_le _⟩ d_M_navigate_150 (fun r u9 H locs hp hh _ _ => ?_)
                    rw [hp.2] at hh
                    refine W.eq (g2 := F0 m 153 ls []) rfl ?_
                    refine lv_aload_n hx hb d_M_navigate_153 rfl (lv_at hl 0 rfl) ?_
                    refine jg_M hc hh 21 (by decide) rfl wf_M_130 d_M_navigate_154 ?_
                    exact jx_iret (r := ((jm_enter (jm_nh u url (u 6 (ix (jm_presentOf u n))) (jm_within (u 6 (ix (jm_presentOf u n))) url)) n url 0 (jm_push rep url (u 6 (ix (jm_presentOf u n)))) (jm_nd (jm_nh u url (u 6 (ix (jm_presentOf u n))) (jm_within (u 6 (ix (jm_presentOf u n))) url)) (jm_presentOf u n) (jm_within (u 6 (ix (jm_presentOf u n))) url))) 21 0)) hc hh hQ hlk hr rfl rfl ⟨by unfold jm_navigate jm_navF; rw [if_neg h8, if_neg h19, if_pos h64]; rfl, by unfold jm_navigate jm_navF; rw [if_neg h8, if_neg h19, if_pos h64]; rfl⟩ d_M_navigate_157
                  have e28 : (jm_nd (jm_nh u url (u 6 (ix (jm_presentOf u n))) (jm_within (u 6 (ix (jm_presentOf u n))) url)) (jm_presentOf u n) (jm_within (u 6 (ix (jm_presentOf u n))) url)) = ((jm_nh u url (u 6 (ix (jm_presentOf u n))) (jm_within (u 6 (ix (jm_presentOf u n))) url)) 8 (ix (jm_presentOf u n))) := by simp [jm_nd, h136]
                  refine W.eq (g2 := F0 m 150 ls [.int (jm_nd (jm_nh u url (u 6 (ix (jm_presentOf u n))) (jm_within (u 6 (ix (jm_presentOf u n))) url)) (jm_presentOf u n) (jm_within (u 6 (ix (jm_presentOf u n))) url)), .int (jm_push rep url (u 6 (ix (jm_presentOf u n)))), .int 0, .int url, .int n, .ref (ad 0)]) (by first | (rw [e28]; done) | (rw [e28]; rfl)) ?_
                  refine J150 _ ?_
                  exact lv_sub hl [0] rfl
                have e29 : (jm_nh u url (u 6 (ix (jm_presentOf u n))) (jm_within (u 6 (ix (jm_presentOf u n))) url)) = (js_up u 24 0 ((u 24 0) + 1)) := by simp [jm_nh, h109, h115]
                refine J128 _ _ _ ?_ ?_
                ·
                  try rw [e29]
                  exact hh
                try rw [e29]
                exact lv_sub hl [1, 2, 3, 4, 6, 0] rfl
              have e30 : (jm_within (u 6 (ix (jm_presentOf u n))) url) = 0 := by first | (simp [jm_within, h64, h72, h79, h85]; done) | (simp [jm_within, eq_true h64, h72, h79, eq_true h85]; done)
              refine W.eq (g2 := F0 m 105 ls [.int (jm_within (u 6 (ix (jm_presentOf u n))) url)]) (by first | (rw [e30]; done) | (rw [e30]; rfl)) ?_
              refine J105 _ _ _ ?_ ?_
              ·
                exact hh
              exact lv_sub hl [1, 2, 3, 4, 5, 0] rfl
            refine lv_iload hx hb d_M_navigate_88 (lv_at hl 5 rfl) ?_
            refine lv_bipush (v := 8) hx hb d_M_navigate_90 (by decide) ?_
            refine lv_idiv hx hb d_M_navigate_92 (by decide) ?_
            refine lv_iload_n hx hb d_M_navigate_93 rfl (lv_at hl 3 rfl) ?_
            refine lv_bipush (v := 8) hx hb d_M_navigate_94 (by decide) ?_
            refine lv_idiv hx hb d_M_navigate_96 (by decide) ?_
            refine lv_icmp_ne (tgt := 104) hx hb d_M_navigate_97 rfl (fun h97 => ?_) (fun h97 => ?_)
            ·
              refine lv_iconst (v := 0) hx hb d_M_navigate_104 (by decide) ?_
              have J105 : ∀  (H : Heap) (locs : List Loc) (ls : Array Slot), jx_H D 22 ad (jm_cell ad cA u) A s.heap H locs → lv_has ls 8 [(0, .ref (ad 0)), (1, .int n), (2, .int url), (4, .int (jm_presentOf u n)), (5, .int (u 6 (ix (jm_presentOf u n)))), (6, .int (jm_push rep url (u 6 (ix (jm_presentOf u n)))))] → W p l e (jr 7) s m args below meth c H locs 0 0 Q (F0 m 105 ls [.int (jm_within (u 6 (ix (jm_presentOf u n))) url)]) := by
                intro  H locs ls hh hl
                refine lv_istore (i := 7) (lv' := [(7, .int (jm_within (u 6 (ix (jm_presentOf u n))) url)), (0, .ref (ad 0)), (1, .int n), (2, .int url), (4, .int (jm_presentOf u n)), (5, .int (u 6 (ix (jm_presentOf u n)))), (6, .int (jm_push rep url (u 6 (ix (jm_presentOf u n)))))]) hx hb d_M_navigate_105 hl (by decide) rfl (fun ls hl => ?_)
                refine lv_iload hx hb d_M_navigate_107 (lv_at hl 0 rfl) ?_
                refine lv_if_eq (tgt := 128) hx hb d_M_navigate_109 rfl (fun h109 => ?_) (fun h109 => ?_)
                ·
                  have J128 : ∀  (H : Heap) (locs : List Loc) (ls : Array Slot), jx_H D 22 ad (jm_cell ad cA (jm_nh u url (u 6 (ix (jm_presentOf u n))) (jm_within (u 6 (ix (jm_presentOf u n))) url))) A s.heap H locs → lv_has ls 8 [(0, .ref (ad 0)), (1, .int n), (2, .int url), (4, .int (jm_presentOf u n)), (6, .int (jm_push rep url (u 6 (ix (jm_presentOf u n))))), (7, .int (jm_within (u 6 (ix (jm_presentOf u n))) url))] → W p l e (jr 7) s m args below meth c H locs 0 0 Q (F0 m 128 ls []) := by
                    intro  H locs ls hh hl
                    refine lv_aload_n hx hb d_M_navigate_128 rfl (lv_at hl 0 rfl) ?_
                    refine lv_iload_n hx hb d_M_navigate_129 rfl (lv_at hl 1 rfl) ?_
                    refine lv_iload_n hx hb d_M_navigate_130 rfl (lv_at hl 2 rfl) ?_
                    refine lv_iconst (v := 0) hx hb d_M_navigate_131 (by decide) ?_
                    refine lv_iload hx hb d_M_navigate_132 (lv_at hl 4 rfl) ?_
                    refine lv_iload hx hb d_M_navigate_134 (lv_at hl 5 rfl) ?_
                    refine lv_if_eq (tgt := 149) hx hb d_M_navigate_136 rfl (fun h136 => ?_) (fun h136 => ?_)
                    ·
                      refine lv_iconst (v := -1) hx hb d_M_navigate_149 (by decide) ?_
                      have J150 : ∀  (ls : Array Slot), lv_has ls 8 [(0, .ref (ad 0))] → W p l e (jr 7) s m args below meth c H locs 0 0 Q (F0 m 150 ls [.int (jm_nd (jm_nh u url (u 6 (ix (jm_presentOf u n))) (jm_within (u 6 (ix (jm_presentOf u n))) url)) (jm_presentOf u n) (jm_within (u 6 (ix (jm_presentOf u n))) url)), .int (jm_push rep url (u 6 (ix (jm_presentOf u n)))), .int 0, .int url, .int n, .ref (ad 0)]) := by
                        intro  ls hl
                        refine jx_callV [.int n, .int url, .int 0, .int (jm_push rep url (u 6 (ix (jm_presentOf u n)))), .int (jm_nd (jm_nh u url (u 6 (ix (jm_presentOf u n))) (jm_within (u 6 (ix (jm_presentOf u n))) url)) (jm_presentOf u n) (jm_within (u 6 (ix (jm_presentOf u n))) url))] [] hc hh (m_enter l D aK ad cA (jm_nh u url (u 6 (ix (jm_presentOf u n))) (jm_within (u 6 (ix (jm_presentOf u n))) url)) n url 0 (jm_push rep url (u 6 (ix (jm_presentOf u n)))) (jm_nd (jm_nh u url (u 6 (ix (jm_presentOf u n))) (jm_within (u 6 (ix (jm_presentOf u n))) url)) (jm_presentOf u n) (jm_within (u 6 (ix (jm_presentOf u n))) url)) (jm_nh_Sh hS) (jm_shown_ex h19) (jm_btw_ub h8) (jm_nd_jq (jm_nh_Sh hS) jm_pr_ex) (jm_Nw_of hn jm_nh_21)) wy_M_159 ⟨by decide, rfl, rfl⟩ (by decide) rfl hl.1 rfl (by decide) ⟨Nat.zero_le _, Nat.zero_le _⟩ d_M_navigate_150 (fun r u9 H locs hp hh _ _ => ?_)
                        rw [hp.2] at hh
                        refine W.eq (g2 := F0 m 153 ls []) rfl ?_
                        refine lv_aload_n hx hb d_M_navigate_153 rfl (lv_at hl 0 rfl) ?_
                        refine jg_M hc hh 21 (by decide) rfl wf_M_130 d_M_navigate_154 ?_
                        exact jx_iret (r := ((jm_enter (jm_nh u url (u 6 (ix (jm_presentOf u n))) (jm_within (u 6 (ix (jm_presentOf u n))) url)) n url 0 (jm_push rep url (u 6 (ix (jm_presentOf u n)))) (jm_nd (jm_nh u url (u 6 (ix (jm_presentOf u n))) (jm_within (u 6 (ix (jm_presentOf u n))) url)) (jm_presentOf u n) (jm_within (u 6 (ix (jm_presentOf u n))) url))) 21 0)) hc hh hQ hlk hr rfl rfl ⟨by unfold jm_navigate jm_navF; rw [if_neg h8, if_neg h19, if_pos h64]; rfl, by unfold jm_navigate jm_navF; rw [if_neg h8, if_neg h19, if_pos h64]; rfl⟩ d_M_navigate_157
                      have e31 : (jm_nd (jm_nh u url (u 6 (ix (jm_presentOf u n))) (jm_within (u 6 (ix (jm_presentOf u n))) url)) (jm_presentOf u n) (jm_within (u 6 (ix (jm_presentOf u n))) url)) = (-1) := by first | (simp [jm_nd, h136]; done) | (simp [jm_nd, eq_true h136]; done)
                      refine W.eq (g2 := F0 m 150 ls [.int (jm_nd (jm_nh u url (u 6 (ix (jm_presentOf u n))) (jm_within (u 6 (ix (jm_presentOf u n))) url)) (jm_presentOf u n) (jm_within (u 6 (ix (jm_presentOf u n))) url)), .int (jm_push rep url (u 6 (ix (jm_presentOf u n)))), .int 0, .int url, .int n, .ref (ad 0)]) (by first | (rw [e31]; done) | (rw [e31]; rfl)) ?_
                      refine J150 _ ?_
                      exact lv_sub hl [0] rfl
                    refine lv_aload_n hx hb d_M_navigate_139 rfl (lv_at hl 0 rfl) ?_
                    refine jg_M hc hh 8 (by decide) rfl wf_M_35 d_M_navigate_140 ?_
                    refine lv_iload hx hb d_M_navigate_143 (lv_at hl 3 rfl) ?_
                    refine jm_ild hc hh 8 (by decide) (by decide) jm_pr_ex d_M_navigate_145 ?_
                    refine lv_goto (tgt := 150) hx hb d_M_navigate_146 rfl ?_
                    have J150 : ∀  (ls : Array Slot), lv_has ls 8 [(0, .ref (ad 0))] → W p l e (jr 7) s m args below meth c H locs 0 0 Q (F0 m 150 ls [.int (jm_nd (jm_nh u url (u 6 (ix (jm_presentOf u n))) (jm_within (u 6 (ix (jm_presentOf u n))) url)) (jm_presentOf u n) (jm_within (u 6 (ix (jm_presentOf u n))) url)), .int (jm_push rep url (u 6 (ix (jm_presentOf u n)))), .int 0, .int url, .int n, .ref (ad 0)]) := by
                      intro  ls hl
                      refine jx_callV [.int n, .int url, .int 0, .int (jm_push rep url (u 6 (ix (jm_presentOf u n)))), .int (jm_nd (jm_nh u url (u 6 (ix (jm_presentOf u n))) (jm_within (u 6 (ix (jm_presentOf u n))) url)) (jm_presentOf u n) (jm_within (u 6 (ix (jm_presentOf u n))) url))] [] hc hh (m_enter l D aK ad cA (jm_nh u url (u 6 (ix (jm_presentOf u n))) (jm_within (u 6 (ix (jm_presentOf u n))) url)) n url 0 (jm_push rep url (u 6 (ix (jm_presentOf u n)))) (jm_nd (jm_nh u url (u 6 (ix (jm_presentOf u n))) (jm_within (u 6 (ix (jm_presentOf u n))) url)) (jm_presentOf u n) (jm_within (u 6 (ix (jm_presentOf u n))) url)) (jm_nh_Sh hS) (jm_shown_ex h19) (jm_btw_ub h8) (jm_nd_jq (jm_nh_Sh hS) jm_pr_ex) (jm_Nw_of hn jm_nh_21)) wy_M_159 ⟨by decide, rfl, rfl⟩ (by decide) rfl hl.1 rfl (by decide) ⟨Nat.zero_le _, Nat.zero_le _⟩ d_M_navigate_150 (fun r u9 H locs hp hh _ _ => ?_)
                      rw [hp.2] at hh
                      refine W.eq (g2 := F0 m 153 ls []) rfl ?_
                      refine lv_aload_n hx hb d_M_navigate_153 rfl (lv_at hl 0 rfl) ?_
                      refine jg_M hc hh 21 (by decide) rfl wf_M_130 d_M_navigate_154 ?_
                      exact jx_iret (r := ((jm_enter (jm_nh u url (u 6 (ix (jm_presentOf u n))) (jm_within (u 6 (ix (jm_presentOf u n))) url)) n url 0 (jm_push rep url (u 6 (ix (jm_presentOf u n)))) (jm_nd (jm_nh u url (u 6 (ix (jm_presentOf u n))) (jm_within (u 6 (ix (jm_presentOf u n))) url)) (jm_presentOf u n) (jm_within (u 6 (ix (jm_presentOf u n))) url))) 21 0)) hc hh hQ hlk hr rfl rfl ⟨by unfold jm_navigate jm_navF; rw [if_neg h8, if_neg h19, if_pos h64]; rfl, by unfold jm_navigate jm_navF; rw [if_neg h8, if_neg h19, if_pos h64]; rfl⟩ d_M_navigate_157
                    have e32 : (jm_nd (jm_nh u url (u 6 (ix (jm_presentOf u n))) (jm_within (u 6 (ix (jm_presentOf u n))) url)) (jm_presentOf u n) (jm_within (u 6 (ix (jm_presentOf u n))) url)) = ((jm_nh u url (u 6 (ix (jm_presentOf u n))) (jm_within (u 6 (ix (jm_presentOf u n))) url)) 8 (ix (jm_presentOf u n))) := by simp [jm_nd, h136]
                    refine W.eq (g2 := F0 m 150 ls [.int (jm_nd (jm_nh u url (u 6 (ix (jm_presentOf u n))) (jm_within (u 6 (ix (jm_presentOf u n))) url)) (jm_presentOf u n) (jm_within (u 6 (ix (jm_presentOf u n))) url)), .int (jm_push rep url (u 6 (ix (jm_presentOf u n)))), .int 0, .int url, .int n, .ref (ad 0)]) (by first | (rw [e32]; done) | (rw [e32]; rfl)) ?_
                    refine J150 _ ?_
                    exact lv_sub hl [0] rfl
                  have e33 : (jm_nh u url (u 6 (ix (jm_presentOf u n))) (jm_within (u 6 (ix (jm_presentOf u n))) url)) = u := by first | (simp [jm_nh, h109]; done) | (simp [jm_nh, eq_true h109]; done)
                  refine J128 _ _ _ ?_ ?_
                  ·
                    try rw [e33]
                    exact hh
                  try rw [e33]
                  exact lv_sub hl [1, 2, 3, 4, 6, 0] rfl
                refine lv_iload_n hx hb d_M_navigate_112 rfl (lv_at hl 3 rfl) ?_
                refine lv_iload hx hb d_M_navigate_113 (lv_at hl 5 rfl) ?_
                refine lv_icmp_eq (tgt := 128) hx hb d_M_navigate_115 rfl (fun h115 => ?_) (fun h115 => ?_)
                ·
                  have J128 : ∀  (H : Heap) (locs : List Loc) (ls : Array Slot), jx_H D 22 ad (jm_cell ad cA (jm_nh u url (u 6 (ix (jm_presentOf u n))) (jm_within (u 6 (ix (jm_presentOf u n))) url))) A s.heap H locs → lv_has ls 8 [(0, .ref (ad 0)), (1, .int n), (2, .int url), (4, .int (jm_presentOf u n)), (6, .int (jm_push rep url (u 6 (ix (jm_presentOf u n))))), (7, .int (jm_within (u 6 (ix (jm_presentOf u n))) url))] → W p l e (jr 7) s m args below meth c H locs 0 0 Q (F0 m 128 ls []) := by
                    intro  H locs ls hh hl
                    refine lv_aload_n hx hb d_M_navigate_128 rfl (lv_at hl 0 rfl) ?_
                    refine lv_iload_n hx hb d_M_navigate_129 rfl (lv_at hl 1 rfl) ?_
                    refine lv_iload_n hx hb d_M_navigate_130 rfl (lv_at hl 2 rfl) ?_
                    refine lv_iconst (v := 0) hx hb d_M_navigate_131 (by decide) ?_
                    refine lv_iload hx hb d_M_navigate_132 (lv_at hl 4 rfl) ?_
                    refine lv_iload hx hb d_M_navigate_134 (lv_at hl 5 rfl) ?_
                    refine lv_if_eq (tgt := 149) hx hb d_M_navigate_136 rfl (fun h136 => ?_) (fun h136 => ?_)
                    ·
                      refine lv_iconst (v := -1) hx hb d_M_navigate_149 (by decide) ?_
                      have J150 : ∀  (ls : Array Slot), lv_has ls 8 [(0, .ref (ad 0))] → W p l e (jr 7) s m args below meth c H locs 0 0 Q (F0 m 150 ls [.int (jm_nd (jm_nh u url (u 6 (ix (jm_presentOf u n))) (jm_within (u 6 (ix (jm_presentOf u n))) url)) (jm_presentOf u n) (jm_within (u 6 (ix (jm_presentOf u n))) url)), .int (jm_push rep url (u 6 (ix (jm_presentOf u n)))), .int 0, .int url, .int n, .ref (ad 0)]) := by
                        intro  ls hl
                        refine jx_callV [.int n, .int url, .int 0, .int (jm_push rep url (u 6 (ix (jm_presentOf u n)))), .int (jm_nd (jm_nh u url (u 6 (ix (jm_presentOf u n))) (jm_within (u 6 (ix (jm_presentOf u n))) url)) (jm_presentOf u n) (jm_within (u 6 (ix (jm_presentOf u n))) url))] [] hc hh (m_enter l D aK ad cA (jm_nh u url (u 6 (ix (jm_presentOf u n))) (jm_within (u 6 (ix (jm_presentOf u n))) url)) n url 0 (jm_push rep url (u 6 (ix (jm_presentOf u n)))) (jm_nd (jm_nh u url (u 6 (ix (jm_presentOf u n))) (jm_within (u 6 (ix (jm_presentOf u n))) url)) (jm_presentOf u n) (jm_within (u 6 (ix (jm_presentOf u n))) url)) (jm_nh_Sh hS) (jm_shown_ex h19) (jm_btw_ub h8) (jm_nd_jq (jm_nh_Sh hS) jm_pr_ex) (jm_Nw_of hn jm_nh_21)) wy_M_159 ⟨by decide, rfl, rfl⟩ (by decide) rfl hl.1 rfl (by decide) ⟨Nat.zero_le _, Nat.zero_le _⟩ d_M_navigate_150 (fun r u9 H locs hp hh _ _ => ?_)
                        rw [hp.2] at hh
                        refine W.eq (g2 := F0 m 153 ls []) rfl ?_
                        refine lv_aload_n hx hb d_M_navigate_153 rfl (lv_at hl 0 rfl) ?_
                        refine jg_M hc hh 21 (by decide) rfl wf_M_130 d_M_navigate_154 ?_
                        exact jx_iret (r := ((jm_enter (jm_nh u url (u 6 (ix (jm_presentOf u n))) (jm_within (u 6 (ix (jm_presentOf u n))) url)) n url 0 (jm_push rep url (u 6 (ix (jm_presentOf u n)))) (jm_nd (jm_nh u url (u 6 (ix (jm_presentOf u n))) (jm_within (u 6 (ix (jm_presentOf u n))) url)) (jm_presentOf u n) (jm_within (u 6 (ix (jm_presentOf u n))) url))) 21 0)) hc hh hQ hlk hr rfl rfl ⟨by unfold jm_navigate jm_navF; rw [if_neg h8, if_neg h19, if_pos h64]; rfl, by unfold jm_navigate jm_navF; rw [if_neg h8, if_neg h19, if_pos h64]; rfl⟩ d_M_navigate_157
                      have e34 : (jm_nd (jm_nh u url (u 6 (ix (jm_presentOf u n))) (jm_within (u 6 (ix (jm_presentOf u n))) url)) (jm_presentOf u n) (jm_within (u 6 (ix (jm_presentOf u n))) url)) = (-1) := by first | (simp [jm_nd, h136]; done) | (simp [jm_nd, eq_true h136]; done)
                      refine W.eq (g2 := F0 m 150 ls [.int (jm_nd (jm_nh u url (u 6 (ix (jm_presentOf u n))) (jm_within (u 6 (ix (jm_presentOf u n))) url)) (jm_presentOf u n) (jm_within (u 6 (ix (jm_presentOf u n))) url)), .int (jm_push rep url (u 6 (ix (jm_presentOf u n)))), .int 0, .int url, .int n, .ref (ad 0)]) (by first | (rw [e34]; done) | (rw [e34]; rfl)) ?_
                      refine J150 _ ?_
                      exact lv_sub hl [0] rfl
                    refine lv_aload_n hx hb d_M_navigate_139 rfl (lv_at hl 0 rfl) ?_
                    refine jg_M hc hh 8 (by decide) rfl wf_M_35 d_M_navigate_140 ?_
                    refine lv_iload hx hb d_M_navigate_143 (lv_at hl 3 rfl) ?_
                    refine jm_ild hc hh 8 (by decide) (by decide) jm_pr_ex d_M_navigate_145 ?_
                    refine lv_goto (tgt := 150) hx hb d_M_navigate_146 rfl ?_
                    have J150 : ∀  (ls : Array Slot), lv_has ls 8 [(0, .ref (ad 0))] → W p l e (jr 7) s m args below meth c H locs 0 0 Q (F0 m 150 ls [.int (jm_nd (jm_nh u url (u 6 (ix (jm_presentOf u n))) (jm_within (u 6 (ix (jm_presentOf u n))) url)) (jm_presentOf u n) (jm_within (u 6 (ix (jm_presentOf u n))) url)), .int (jm_push rep url (u 6 (ix (jm_presentOf u n)))), .int 0, .int url, .int n, .ref (ad 0)]) := by
                      intro  ls hl
                      refine jx_callV [.int n, .int url, .int 0, .int (jm_push rep url (u 6 (ix (jm_presentOf u n)))), .int (jm_nd (jm_nh u url (u 6 (ix (jm_presentOf u n))) (jm_within (u 6 (ix (jm_presentOf u n))) url)) (jm_presentOf u n) (jm_within (u 6 (ix (jm_presentOf u n))) url))] [] hc hh (m_enter l D aK ad cA (jm_nh u url (u 6 (ix (jm_presentOf u n))) (jm_within (u 6 (ix (jm_presentOf u n))) url)) n url 0 (jm_push rep url (u 6 (ix (jm_presentOf u n)))) (jm_nd (jm_nh u url (u 6 (ix (jm_presentOf u n))) (jm_within (u 6 (ix (jm_presentOf u n))) url)) (jm_presentOf u n) (jm_within (u 6 (ix (jm_presentOf u n))) url)) (jm_nh_Sh hS) (jm_shown_ex h19) (jm_btw_ub h8) (jm_nd_jq (jm_nh_Sh hS) jm_pr_ex) (jm_Nw_of hn jm_nh_21)) wy_M_159 ⟨by decide, rfl, rfl⟩ (by decide) rfl hl.1 rfl (by decide) ⟨Nat.zero_le _, Nat.zero_le _⟩ d_M_navigate_150 (fun r u9 H locs hp hh _ _ => ?_)
                      rw [hp.2] at hh
                      refine W.eq (g2 := F0 m 153 ls []) rfl ?_
                      refine lv_aload_n hx hb d_M_navigate_153 rfl (lv_at hl 0 rfl) ?_
                      refine jg_M hc hh 21 (by decide) rfl wf_M_130 d_M_navigate_154 ?_
                      exact jx_iret (r := ((jm_enter (jm_nh u url (u 6 (ix (jm_presentOf u n))) (jm_within (u 6 (ix (jm_presentOf u n))) url)) n url 0 (jm_push rep url (u 6 (ix (jm_presentOf u n)))) (jm_nd (jm_nh u url (u 6 (ix (jm_presentOf u n))) (jm_within (u 6 (ix (jm_presentOf u n))) url)) (jm_presentOf u n) (jm_within (u 6 (ix (jm_presentOf u n))) url))) 21 0)) hc hh hQ hlk hr rfl rfl ⟨by unfold jm_navigate jm_navF; rw [if_neg h8, if_neg h19, if_pos h64]; rfl, by unfold jm_navigate jm_navF; rw [if_neg h8, if_neg h19, if_pos h64]; rfl⟩ d_M_navigate_157
                    have e35 : (jm_nd (jm_nh u url (u 6 (ix (jm_presentOf u n))) (jm_within (u 6 (ix (jm_presentOf u n))) url)) (jm_presentOf u n) (jm_within (u 6 (ix (jm_presentOf u n))) url)) = ((jm_nh u url (u 6 (ix (jm_presentOf u n))) (jm_within (u 6 (ix (jm_presentOf u n))) url)) 8 (ix (jm_presentOf u n))) := by simp [jm_nd, h136]
                    refine W.eq (g2 := F0 m 150 ls [.int (jm_nd (jm_nh u url (u 6 (ix (jm_presentOf u n))) (jm_within (u 6 (ix (jm_presentOf u n))) url)) (jm_presentOf u n) (jm_within (u 6 (ix (jm_presentOf u n))) url)), .int (jm_push rep url (u 6 (ix (jm_presentOf u n)))), .int 0, .int url, .int n, .ref (ad 0)]) (by first | (rw [e35]; done) | (rw [e35]; rfl)) ?_
                    refine J150 _ ?_
                    exact lv_sub hl [0] rfl
                  have e36 : (jm_nh u url (u 6 (ix (jm_presentOf u n))) (jm_within (u 6 (ix (jm_presentOf u n))) url)) = u := by first | (simp [jm_nh, h109, h115]; done) | (simp [jm_nh, h109, eq_true h115]; done)
                  refine J128 _ _ _ ?_ ?_
                  ·
                    try rw [e36]
                    exact hh
                  try rw [e36]
                  exact lv_sub hl [1, 2, 3, 4, 6, 0] rfl
                refine lv_aload_n hx hb d_M_navigate_118 rfl (lv_at hl 1 rfl) ?_
                refine lv_dup hx hb d_M_navigate_119 rfl ?_
                refine jg_M hc hh 24 (by decide) rfl wf_M_156 d_M_navigate_120 ?_
                refine lv_iconst (v := 1) hx hb d_M_navigate_123 (by decide) ?_
                refine lv_iadd hx hb d_M_navigate_124 ?_
                refine jpm_24 hc hh wf_M_156 d_M_navigate_125 (fun H locs hh => ?_)
                have J128 : ∀  (H : Heap) (locs : List Loc) (ls : Array Slot), jx_H D 22 ad (jm_cell ad cA (jm_nh u url (u 6 (ix (jm_presentOf u n))) (jm_within (u 6 (ix (jm_presentOf u n))) url))) A s.heap H locs → lv_has ls 8 [(0, .ref (ad 0)), (1, .int n), (2, .int url), (4, .int (jm_presentOf u n)), (6, .int (jm_push rep url (u 6 (ix (jm_presentOf u n))))), (7, .int (jm_within (u 6 (ix (jm_presentOf u n))) url))] → W p l e (jr 7) s m args below meth c H locs 0 0 Q (F0 m 128 ls []) := by
                  intro  H locs ls hh hl
                  refine lv_aload_n hx hb d_M_navigate_128 rfl (lv_at hl 0 rfl) ?_
                  refine lv_iload_n hx hb d_M_navigate_129 rfl (lv_at hl 1 rfl) ?_
                  refine lv_iload_n hx hb d_M_navigate_130 rfl (lv_at hl 2 rfl) ?_
                  refine lv_iconst (v := 0) hx hb d_M_navigate_131 (by decide) ?_
                  refine lv_iload hx hb d_M_navigate_132 (lv_at hl 4 rfl) ?_
                  refine lv_iload hx hb d_M_navigate_134 (lv_at hl 5 rfl) ?_
                  refine lv_if_eq (tgt := 149) hx hb d_M_navigate_136 rfl (fun h136 => ?_) (fun h136 => ?_)
                  ·
                    refine lv_iconst (v := -1) hx hb d_M_navigate_149 (by decide) ?_
                    have J150 : ∀  (ls : Array Slot), lv_has ls 8 [(0, .ref (ad 0))] → W p l e (jr 7) s m args below meth c H locs 0 0 Q (F0 m 150 ls [.int (jm_nd (jm_nh u url (u 6 (ix (jm_presentOf u n))) (jm_within (u 6 (ix (jm_presentOf u n))) url)) (jm_presentOf u n) (jm_within (u 6 (ix (jm_presentOf u n))) url)), .int (jm_push rep url (u 6 (ix (jm_presentOf u n)))), .int 0, .int url, .int n, .ref (ad 0)]) := by
                      intro  ls hl
                      refine jx_callV [.int n, .int url, .int 0, .int (jm_push rep url (u 6 (ix (jm_presentOf u n)))), .int (jm_nd (jm_nh u url (u 6 (ix (jm_presentOf u n))) (jm_within (u 6 (ix (jm_presentOf u n))) url)) (jm_presentOf u n) (jm_within (u 6 (ix (jm_presentOf u n))) url))] [] hc hh (m_enter l D aK ad cA (jm_nh u url (u 6 (ix (jm_presentOf u n))) (jm_within (u 6 (ix (jm_presentOf u n))) url)) n url 0 (jm_push rep url (u 6 (ix (jm_presentOf u n)))) (jm_nd (jm_nh u url (u 6 (ix (jm_presentOf u n))) (jm_within (u 6 (ix (jm_presentOf u n))) url)) (jm_presentOf u n) (jm_within (u 6 (ix (jm_presentOf u n))) url)) (jm_nh_Sh hS) (jm_shown_ex h19) (jm_btw_ub h8) (jm_nd_jq (jm_nh_Sh hS) jm_pr_ex) (jm_Nw_of hn jm_nh_21)) wy_M_159 ⟨by decide, rfl, rfl⟩ (by decide) rfl hl.1 rfl (by decide) ⟨Nat.zero_le _, Nat.zero_le _⟩ d_M_navigate_150 (fun r u9 H locs hp hh _ _ => ?_)
                      rw [hp.2] at hh
                      refine W.eq (g2 := F0 m 153 ls []) rfl ?_
                      refine lv_aload_n hx hb d_M_navigate_153 rfl (lv_at hl 0 rfl) ?_
                      refine jg_M hc hh 21 (by decide) rfl wf_M_130 d_M_navigate_154 ?_
                      exact jx_iret (r := ((jm_enter (jm_nh u url (u 6 (ix (jm_presentOf u n))) (jm_within (u 6 (ix (jm_presentOf u n))) url)) n url 0 (jm_push rep url (u 6 (ix (jm_presentOf u n)))) (jm_nd (jm_nh u url (u 6 (ix (jm_presentOf u n))) (jm_within (u 6 (ix (jm_presentOf u n))) url)) (jm_presentOf u n) (jm_within (u 6 (ix (jm_presentOf u n))) url))) 21 0)) hc hh hQ hlk hr rfl rfl ⟨by unfold jm_navigate jm_navF; rw [if_neg h8, if_neg h19, if_pos h64]; rfl, by unfold jm_navigate jm_navF; rw [if_neg h8, if_neg h19, if_pos h64]; rfl⟩ d_M_navigate_157
                    have e37 : (jm_nd (jm_nh u url (u 6 (ix (jm_presentOf u n))) (jm_within (u 6 (ix (jm_presentOf u n))) url)) (jm_presentOf u n) (jm_within (u 6 (ix (jm_presentOf u n))) url)) = (-1) := by first | (simp [jm_nd, h136]; done) | (simp [jm_nd, eq_true h136]; done)
                    refine W.eq (g2 := F0 m 150 ls [.int (jm_nd (jm_nh u url (u 6 (ix (jm_presentOf u n))) (jm_within (u 6 (ix (jm_presentOf u n))) url)) (jm_presentOf u n) (jm_within (u 6 (ix (jm_presentOf u n))) url)), .int (jm_push rep url (u 6 (ix (jm_presentOf u n)))), .int 0, .int url, .int n, .ref (ad 0)]) (by first | (rw [e37]; done) | (rw [e37]; rfl)) ?_
                    refine J150 _ ?_
                    exact lv_sub hl [0] rfl
                  refine lv_aload_n hx hb d_M_navigate_139 rfl (lv_at hl 0 rfl) ?_
                  refine jg_M hc hh 8 (by decide) rfl wf_M_35 d_M_navigate_140 ?_
                  refine lv_iload hx hb d_M_navigate_143 (lv_at hl 3 rfl) ?_
                  refine jm_ild hc hh 8 (by decide) (by decide) jm_pr_ex d_M_navigate_145 ?_
                  refine lv_goto (tgt := 150) hx hb d_M_navigate_146 rfl ?_
                  have J150 : ∀  (ls : Array Slot), lv_has ls 8 [(0, .ref (ad 0))] → W p l e (jr 7) s m args below meth c H locs 0 0 Q (F0 m 150 ls [.int (jm_nd (jm_nh u url (u 6 (ix (jm_presentOf u n))) (jm_within (u 6 (ix (jm_presentOf u n))) url)) (jm_presentOf u n) (jm_within (u 6 (ix (jm_presentOf u n))) url)), .int (jm_push rep url (u 6 (ix (jm_presentOf u n)))), .int 0, .int url, .int n, .ref (ad 0)]) := by
                    intro  ls hl
                    refine jx_callV [.int n, .int url, .int 0, .int (jm_push rep url (u 6 (ix (jm_presentOf u n)))), .int (jm_nd (jm_nh u url (u 6 (ix (jm_presentOf u n))) (jm_within (u 6 (ix (jm_presentOf u n))) url)) (jm_presentOf u n) (jm_within (u 6 (ix (jm_presentOf u n))) url))] [] hc hh (m_enter l D aK ad cA (jm_nh u url (u 6 (ix (jm_presentOf u n))) (jm_within (u 6 (ix (jm_presentOf u n))) url)) n url 0 (jm_push rep url (u 6 (ix (jm_presentOf u n)))) (jm_nd (jm_nh u url (u 6 (ix (jm_presentOf u n))) (jm_within (u 6 (ix (jm_presentOf u n))) url)) (jm_presentOf u n) (jm_within (u 6 (ix (jm_presentOf u n))) url)) (jm_nh_Sh hS) (jm_shown_ex h19) (jm_btw_ub h8) (jm_nd_jq (jm_nh_Sh hS) jm_pr_ex) (jm_Nw_of hn jm_nh_21)) wy_M_159 ⟨by decide, rfl, rfl⟩ (by decide) rfl hl.1 rfl (by decide) ⟨Nat.zero_le _, Nat.zero_le _⟩ d_M_navigate_150 (fun r u9 H locs hp hh _ _ => ?_)
                    rw [hp.2] at hh
                    refine W.eq (g2 := F0 m 153 ls []) rfl ?_
                    refine lv_aload_n hx hb d_M_navigate_153 rfl (lv_at hl 0 rfl) ?_
                    refine jg_M hc hh 21 (by decide) rfl wf_M_130 d_M_navigate_154 ?_
                    exact jx_iret (r := ((jm_enter (jm_nh u url (u 6 (ix (jm_presentOf u n))) (jm_within (u 6 (ix (jm_presentOf u n))) url)) n url 0 (jm_push rep url (u 6 (ix (jm_presentOf u n)))) (jm_nd (jm_nh u url (u 6 (ix (jm_presentOf u n))) (jm_within (u 6 (ix (jm_presentOf u n))) url)) (jm_presentOf u n) (jm_within (u 6 (ix (jm_presentOf u n))) url))) 21 0)) hc hh hQ hlk hr rfl rfl ⟨by unfold jm_navigate jm_navF; rw [if_neg h8, if_neg h19, if_pos h64]; rfl, by unfold jm_navigate jm_navF; rw [if_neg h8, if_neg h19, if_pos h64]; rfl⟩ d_M_navigate_157
                  have e38 : (jm_nd (jm_nh u url (u 6 (ix (jm_presentOf u n))) (jm_within (u 6 (ix (jm_presentOf u n))) url)) (jm_presentOf u n) (jm_within (u 6 (ix (jm_presentOf u n))) url)) = ((jm_nh u url (u 6 (ix (jm_presentOf u n))) (jm_within (u 6 (ix (jm_presentOf u n))) url)) 8 (ix (jm_presentOf u n))) := by simp [jm_nd, h136]
                  refine W.eq (g2 := F0 m 150 ls [.int (jm_nd (jm_nh u url (u 6 (ix (jm_presentOf u n))) (jm_within (u 6 (ix (jm_presentOf u n))) url)) (jm_presentOf u n) (jm_within (u 6 (ix (jm_presentOf u n))) url)), .int (jm_push rep url (u 6 (ix (jm_presentOf u n)))), .int 0, .int url, .int n, .ref (ad 0)]) (by first | (rw [e38]; done) | (rw [e38]; rfl)) ?_
                  refine J150 _ ?_
                  exact lv_sub hl [0] rfl
                have e39 : (jm_nh u url (u 6 (ix (jm_presentOf u n))) (jm_within (u 6 (ix (jm_presentOf u n))) url)) = (js_up u 24 0 ((u 24 0) + 1)) := by simp [jm_nh, h109, h115]
                refine J128 _ _ _ ?_ ?_
                ·
                  try rw [e39]
                  exact hh
                try rw [e39]
                exact lv_sub hl [1, 2, 3, 4, 6, 0] rfl
              have e40 : (jm_within (u 6 (ix (jm_presentOf u n))) url) = 0 := by first | (simp [jm_within, h64, h72, h79, h85, h97]; done) | (simp [jm_within, eq_true h64, h72, h79, h85, h97]; done)
              refine W.eq (g2 := F0 m 105 ls [.int (jm_within (u 6 (ix (jm_presentOf u n))) url)]) (by first | (rw [e40]; done) | (rw [e40]; rfl)) ?_
              refine J105 _ _ _ ?_ ?_
              ·
                exact hh
              exact lv_sub hl [1, 2, 3, 4, 5, 0] rfl
            refine lv_iconst (v := 1) hx hb d_M_navigate_100 (by decide) ?_
            refine lv_goto (tgt := 105) hx hb d_M_navigate_101 rfl ?_
            have J105 : ∀  (H : Heap) (locs : List Loc) (ls : Array Slot), jx_H D 22 ad (jm_cell ad cA u) A s.heap H locs → lv_has ls 8 [(0, .ref (ad 0)), (1, .int n), (2, .int url), (4, .int (jm_presentOf u n)), (5, .int (u 6 (ix (jm_presentOf u n)))), (6, .int (jm_push rep url (u 6 (ix (jm_presentOf u n)))))] → W p l e (jr 7) s m args below meth c H locs 0 0 Q (F0 m 105 ls [.int (jm_within (u 6 (ix (jm_presentOf u n))) url)]) := by
              intro  H locs ls hh hl
              refine lv_istore (i := 7) (lv' := [(7, .int (jm_within (u 6 (ix (jm_presentOf u n))) url)), (0, .ref (ad 0)), (1, .int n), (2, .int url), (4, .int (jm_presentOf u n)), (5, .int (u 6 (ix (jm_presentOf u n)))), (6, .int (jm_push rep url (u 6 (ix (jm_presentOf u n)))))]) hx hb d_M_navigate_105 hl (by decide) rfl (fun ls hl => ?_)
              refine lv_iload hx hb d_M_navigate_107 (lv_at hl 0 rfl) ?_
              refine lv_if_eq (tgt := 128) hx hb d_M_navigate_109 rfl (fun h109 => ?_) (fun h109 => ?_)
              ·
                have J128 : ∀  (H : Heap) (locs : List Loc) (ls : Array Slot), jx_H D 22 ad (jm_cell ad cA (jm_nh u url (u 6 (ix (jm_presentOf u n))) (jm_within (u 6 (ix (jm_presentOf u n))) url))) A s.heap H locs → lv_has ls 8 [(0, .ref (ad 0)), (1, .int n), (2, .int url), (4, .int (jm_presentOf u n)), (6, .int (jm_push rep url (u 6 (ix (jm_presentOf u n))))), (7, .int (jm_within (u 6 (ix (jm_presentOf u n))) url))] → W p l e (jr 7) s m args below meth c H locs 0 0 Q (F0 m 128 ls []) := by
                  intro  H locs ls hh hl
                  refine lv_aload_n hx hb d_M_navigate_128 rfl (lv_at hl 0 rfl) ?_
                  refine lv_iload_n hx hb d_M_navigate_129 rfl (lv_at hl 1 rfl) ?_
                  refine lv_iload_n hx hb d_M_navigate_130 rfl (lv_at hl 2 rfl) ?_
                  refine lv_iconst (v := 0) hx hb d_M_navigate_131 (by decide) ?_
                  refine lv_iload hx hb d_M_navigate_132 (lv_at hl 4 rfl) ?_
                  refine lv_iload hx hb d_M_navigate_134 (lv_at hl 5 rfl) ?_
                  refine lv_if_eq (tgt := 149) hx hb d_M_navigate_136 rfl (fun h136 => ?_) (fun h136 => ?_)
                  ·
                    refine lv_iconst (v := -1) hx hb d_M_navigate_149 (by decide) ?_
                    have J150 : ∀  (ls : Array Slot), lv_has ls 8 [(0, .ref (ad 0))] → W p l e (jr 7) s m args below meth c H locs 0 0 Q (F0 m 150 ls [.int (jm_nd (jm_nh u url (u 6 (ix (jm_presentOf u n))) (jm_within (u 6 (ix (jm_presentOf u n))) url)) (jm_presentOf u n) (jm_within (u 6 (ix (jm_presentOf u n))) url)), .int (jm_push rep url (u 6 (ix (jm_presentOf u n)))), .int 0, .int url, .int n, .ref (ad 0)]) := by
                      intro  ls hl
                      refine jx_callV [.int n, .int url, .int 0, .int (jm_push rep url (u 6 (ix (jm_presentOf u n)))), .int (jm_nd (jm_nh u url (u 6 (ix (jm_presentOf u n))) (jm_within (u 6 (ix (jm_presentOf u n))) url)) (jm_presentOf u n) (jm_within (u 6 (ix (jm_presentOf u n))) url))] [] hc hh (m_enter l D aK ad cA (jm_nh u url (u 6 (ix (jm_presentOf u n))) (jm_within (u 6 (ix (jm_presentOf u n))) url)) n url 0 (jm_push rep url (u 6 (ix (jm_presentOf u n)))) (jm_nd (jm_nh u url (u 6 (ix (jm_presentOf u n))) (jm_within (u 6 (ix (jm_presentOf u n))) url)) (jm_presentOf u n) (jm_within (u 6 (ix (jm_presentOf u n))) url)) (jm_nh_Sh hS) (jm_shown_ex h19) (jm_btw_ub h8) (jm_nd_jq (jm_nh_Sh hS) jm_pr_ex) (jm_Nw_of hn jm_nh_21)) wy_M_159 ⟨by decide, rfl, rfl⟩ (by decide) rfl hl.1 rfl (by decide) ⟨Nat.zero_le _, Nat.zero_le _⟩ d_M_navigate_150 (fun r u9 H locs hp hh _ _ => ?_)
                      rw [hp.2] at hh
                      refine W.eq (g2 := F0 m 153 ls []) rfl ?_
                      refine lv_aload_n hx hb d_M_navigate_153 rfl (lv_at hl 0 rfl) ?_
                      refine jg_M hc hh 21 (by decide) rfl wf_M_130 d_M_navigate_154 ?_
                      exact jx_iret (r := ((jm_enter (jm_nh u url (u 6 (ix (jm_presentOf u n))) (jm_within (u 6 (ix (jm_presentOf u n))) url)) n url 0 (jm_push rep url (u 6 (ix (jm_presentOf u n)))) (jm_nd (jm_nh u url (u 6 (ix (jm_presentOf u n))) (jm_within (u 6 (ix (jm_presentOf u n))) url)) (jm_presentOf u n) (jm_within (u 6 (ix (jm_presentOf u n))) url))) 21 0)) hc hh hQ hlk hr rfl rfl ⟨by unfold jm_navigate jm_navF; rw [if_neg h8, if_neg h19, if_pos h64]; rfl, by unfold jm_navigate jm_navF; rw [if_neg h8, if_neg h19, if_pos h64]; rfl⟩ d_M_navigate_157
                    have e41 : (jm_nd (jm_nh u url (u 6 (ix (jm_presentOf u n))) (jm_within (u 6 (ix (jm_presentOf u n))) url)) (jm_presentOf u n) (jm_within (u 6 (ix (jm_presentOf u n))) url)) = (-1) := by first | (simp [jm_nd, h136]; done) | (simp [jm_nd, eq_true h136]; done)
                    refine W.eq (g2 := F0 m 150 ls [.int (jm_nd (jm_nh u url (u 6 (ix (jm_presentOf u n))) (jm_within (u 6 (ix (jm_presentOf u n))) url)) (jm_presentOf u n) (jm_within (u 6 (ix (jm_presentOf u n))) url)), .int (jm_push rep url (u 6 (ix (jm_presentOf u n)))), .int 0, .int url, .int n, .ref (ad 0)]) (by first | (rw [e41]; done) | (rw [e41]; rfl)) ?_
                    refine J150 _ ?_
                    exact lv_sub hl [0] rfl
                  refine lv_aload_n hx hb d_M_navigate_139 rfl (lv_at hl 0 rfl) ?_
                  refine jg_M hc hh 8 (by decide) rfl wf_M_35 d_M_navigate_140 ?_
                  refine lv_iload hx hb d_M_navigate_143 (lv_at hl 3 rfl) ?_
                  refine jm_ild hc hh 8 (by decide) (by decide) jm_pr_ex d_M_navigate_145 ?_
                  refine lv_goto (tgt := 150) hx hb d_M_navigate_146 rfl ?_
                  have J150 : ∀  (ls : Array Slot), lv_has ls 8 [(0, .ref (ad 0))] → W p l e (jr 7) s m args below meth c H locs 0 0 Q (F0 m 150 ls [.int (jm_nd (jm_nh u url (u 6 (ix (jm_presentOf u n))) (jm_within (u 6 (ix (jm_presentOf u n))) url)) (jm_presentOf u n) (jm_within (u 6 (ix (jm_presentOf u n))) url)), .int (jm_push rep url (u 6 (ix (jm_presentOf u n)))), .int 0, .int url, .int n, .ref (ad 0)]) := by
                    intro  ls hl
                    refine jx_callV [.int n, .int url, .int 0, .int (jm_push rep url (u 6 (ix (jm_presentOf u n)))), .int (jm_nd (jm_nh u url (u 6 (ix (jm_presentOf u n))) (jm_within (u 6 (ix (jm_presentOf u n))) url)) (jm_presentOf u n) (jm_within (u 6 (ix (jm_presentOf u n))) url))] [] hc hh (m_enter l D aK ad cA (jm_nh u url (u 6 (ix (jm_presentOf u n))) (jm_within (u 6 (ix (jm_presentOf u n))) url)) n url 0 (jm_push rep url (u 6 (ix (jm_presentOf u n)))) (jm_nd (jm_nh u url (u 6 (ix (jm_presentOf u n))) (jm_within (u 6 (ix (jm_presentOf u n))) url)) (jm_presentOf u n) (jm_within (u 6 (ix (jm_presentOf u n))) url)) (jm_nh_Sh hS) (jm_shown_ex h19) (jm_btw_ub h8) (jm_nd_jq (jm_nh_Sh hS) jm_pr_ex) (jm_Nw_of hn jm_nh_21)) wy_M_159 ⟨by decide, rfl, rfl⟩ (by decide) rfl hl.1 rfl (by decide) ⟨Nat.zero_le _, Nat.zero_le _⟩ d_M_navigate_150 (fun r u9 H locs hp hh _ _ => ?_)
                    rw [hp.2] at hh
                    refine W.eq (g2 := F0 m 153 ls []) rfl ?_
                    refine lv_aload_n hx hb d_M_navigate_153 rfl (lv_at hl 0 rfl) ?_
                    refine jg_M hc hh 21 (by decide) rfl wf_M_130 d_M_navigate_154 ?_
                    exact jx_iret (r := ((jm_enter (jm_nh u url (u 6 (ix (jm_presentOf u n))) (jm_within (u 6 (ix (jm_presentOf u n))) url)) n url 0 (jm_push rep url (u 6 (ix (jm_presentOf u n)))) (jm_nd (jm_nh u url (u 6 (ix (jm_presentOf u n))) (jm_within (u 6 (ix (jm_presentOf u n))) url)) (jm_presentOf u n) (jm_within (u 6 (ix (jm_presentOf u n))) url))) 21 0)) hc hh hQ hlk hr rfl rfl ⟨by unfold jm_navigate jm_navF; rw [if_neg h8, if_neg h19, if_pos h64]; rfl, by unfold jm_navigate jm_navF; rw [if_neg h8, if_neg h19, if_pos h64]; rfl⟩ d_M_navigate_157
                  have e42 : (jm_nd (jm_nh u url (u 6 (ix (jm_presentOf u n))) (jm_within (u 6 (ix (jm_presentOf u n))) url)) (jm_presentOf u n) (jm_within (u 6 (ix (jm_presentOf u n))) url)) = ((jm_nh u url (u 6 (ix (jm_presentOf u n))) (jm_within (u 6 (ix (jm_presentOf u n))) url)) 8 (ix (jm_presentOf u n))) := by simp [jm_nd, h136]
                  refine W.eq (g2 := F0 m 150 ls [.int (jm_nd (jm_nh u url (u 6 (ix (jm_presentOf u n))) (jm_within (u 6 (ix (jm_presentOf u n))) url)) (jm_presentOf u n) (jm_within (u 6 (ix (jm_presentOf u n))) url)), .int (jm_push rep url (u 6 (ix (jm_presentOf u n)))), .int 0, .int url, .int n, .ref (ad 0)]) (by first | (rw [e42]; done) | (rw [e42]; rfl)) ?_
                  refine J150 _ ?_
                  exact lv_sub hl [0] rfl
                have e43 : (jm_nh u url (u 6 (ix (jm_presentOf u n))) (jm_within (u 6 (ix (jm_presentOf u n))) url)) = u := by first | (simp [jm_nh, h109]; done) | (simp [jm_nh, eq_true h109]; done)
                refine J128 _ _ _ ?_ ?_
                ·
                  try rw [e43]
                  exact hh
                try rw [e43]
                exact lv_sub hl [1, 2, 3, 4, 6, 0] rfl
              refine lv_iload_n hx hb d_M_navigate_112 rfl (lv_at hl 3 rfl) ?_
              refine lv_iload hx hb d_M_navigate_113 (lv_at hl 5 rfl) ?_
              refine lv_icmp_eq (tgt := 128) hx hb d_M_navigate_115 rfl (fun h115 => ?_) (fun h115 => ?_)
              ·
                have J128 : ∀  (H : Heap) (locs : List Loc) (ls : Array Slot), jx_H D 22 ad (jm_cell ad cA (jm_nh u url (u 6 (ix (jm_presentOf u n))) (jm_within (u 6 (ix (jm_presentOf u n))) url))) A s.heap H locs → lv_has ls 8 [(0, .ref (ad 0)), (1, .int n), (2, .int url), (4, .int (jm_presentOf u n)), (6, .int (jm_push rep url (u 6 (ix (jm_presentOf u n))))), (7, .int (jm_within (u 6 (ix (jm_presentOf u n))) url))] → W p l e (jr 7) s m args below meth c H locs 0 0 Q (F0 m 128 ls []) := by
                  intro  H locs ls hh hl
                  refine lv_aload_n hx hb d_M_navigate_128 rfl (lv_at hl 0 rfl) ?_
                  refine lv_iload_n hx hb d_M_navigate_129 rfl (lv_at hl 1 rfl) ?_
                  refine lv_iload_n hx hb d_M_navigate_130 rfl (lv_at hl 2 rfl) ?_
                  refine lv_iconst (v := 0) hx hb d_M_navigate_131 (by decide) ?_
                  refine lv_iload hx hb d_M_navigate_132 (lv_at hl 4 rfl) ?_
                  refine lv_iload hx hb d_M_navigate_134 (lv_at hl 5 rfl) ?_
                  refine lv_if_eq (tgt := 149) hx hb d_M_navigate_136 rfl (fun h136 => ?_) (fun h136 => ?_)
                  ·
                    refine lv_iconst (v := -1) hx hb d_M_navigate_149 (by decide) ?_
                    have J150 : ∀  (ls : Array Slot), lv_has ls 8 [(0, .ref (ad 0))] → W p l e (jr 7) s m args below meth c H locs 0 0 Q (F0 m 150 ls [.int (jm_nd (jm_nh u url (u 6 (ix (jm_presentOf u n))) (jm_within (u 6 (ix (jm_presentOf u n))) url)) (jm_presentOf u n) (jm_within (u 6 (ix (jm_presentOf u n))) url)), .int (jm_push rep url (u 6 (ix (jm_presentOf u n)))), .int 0, .int url, .int n, .ref (ad 0)]) := by
                      intro  ls hl
                      refine jx_callV [.int n, .int url, .int 0, .int (jm_push rep url (u 6 (ix (jm_presentOf u n)))), .int (jm_nd (jm_nh u url (u 6 (ix (jm_presentOf u n))) (jm_within (u 6 (ix (jm_presentOf u n))) url)) (jm_presentOf u n) (jm_within (u 6 (ix (jm_presentOf u n))) url))] [] hc hh (m_enter l D aK ad cA (jm_nh u url (u 6 (ix (jm_presentOf u n))) (jm_within (u 6 (ix (jm_presentOf u n))) url)) n url 0 (jm_push rep url (u 6 (ix (jm_presentOf u n)))) (jm_nd (jm_nh u url (u 6 (ix (jm_presentOf u n))) (jm_within (u 6 (ix (jm_presentOf u n))) url)) (jm_presentOf u n) (jm_within (u 6 (ix (jm_presentOf u n))) url)) (jm_nh_Sh hS) (jm_shown_ex h19) (jm_btw_ub h8) (jm_nd_jq (jm_nh_Sh hS) jm_pr_ex) (jm_Nw_of hn jm_nh_21)) wy_M_159 ⟨by decide, rfl, rfl⟩ (by decide) rfl hl.1 rfl (by decide) ⟨Nat.zero_le _, Nat.zero_le _⟩ d_M_navigate_150 (fun r u9 H locs hp hh _ _ => ?_)
                      rw [hp.2] at hh
                      refine W.eq (g2 := F0 m 153 ls []) rfl ?_
                      refine lv_aload_n hx hb d_M_navigate_153 rfl (lv_at hl 0 rfl) ?_
                      refine jg_M hc hh 21 (by decide) rfl wf_M_130 d_M_navigate_154 ?_
                      exact jx_iret (r := ((jm_enter (jm_nh u url (u 6 (ix (jm_presentOf u n))) (jm_within (u 6 (ix (jm_presentOf u n))) url)) n url 0 (jm_push rep url (u 6 (ix (jm_presentOf u n)))) (jm_nd (jm_nh u url (u 6 (ix (jm_presentOf u n))) (jm_within (u 6 (ix (jm_presentOf u n))) url)) (jm_presentOf u n) (jm_within (u 6 (ix (jm_presentOf u n))) url))) 21 0)) hc hh hQ hlk hr rfl rfl ⟨by unfold jm_navigate jm_navF; rw [if_neg h8, if_neg h19, if_pos h64]; rfl, by unfold jm_navigate jm_navF; rw [if_neg h8, if_neg h19, if_pos h64]; rfl⟩ d_M_navigate_157
                    have e44 : (jm_nd (jm_nh u url (u 6 (ix (jm_presentOf u n))) (jm_within (u 6 (ix (jm_presentOf u n))) url)) (jm_presentOf u n) (jm_within (u 6 (ix (jm_presentOf u n))) url)) = (-1) := by first | (simp [jm_nd, h136]; done) | (simp [jm_nd, eq_true h136]; done)
                    refine W.eq (g2 := F0 m 150 ls [.int (jm_nd (jm_nh u url (u 6 (ix (jm_presentOf u n))) (jm_within (u 6 (ix (jm_presentOf u n))) url)) (jm_presentOf u n) (jm_within (u 6 (ix (jm_presentOf u n))) url)), .int (jm_push rep url (u 6 (ix (jm_presentOf u n)))), .int 0, .int url, .int n, .ref (ad 0)]) (by first | (rw [e44]; done) | (rw [e44]; rfl)) ?_
                    refine J150 _ ?_
                    exact lv_sub hl [0] rfl
                  refine lv_aload_n hx hb d_M_navigate_139 rfl (lv_at hl 0 rfl) ?_
                  refine jg_M hc hh 8 (by decide) rfl wf_M_35 d_M_navigate_140 ?_
                  refine lv_iload hx hb d_M_navigate_143 (lv_at hl 3 rfl) ?_
                  refine jm_ild hc hh 8 (by decide) (by decide) jm_pr_ex d_M_navigate_145 ?_
                  refine lv_goto (tgt := 150) hx hb d_M_navigate_146 rfl ?_
                  have J150 : ∀  (ls : Array Slot), lv_has ls 8 [(0, .ref (ad 0))] → W p l e (jr 7) s m args below meth c H locs 0 0 Q (F0 m 150 ls [.int (jm_nd (jm_nh u url (u 6 (ix (jm_presentOf u n))) (jm_within (u 6 (ix (jm_presentOf u n))) url)) (jm_presentOf u n) (jm_within (u 6 (ix (jm_presentOf u n))) url)), .int (jm_push rep url (u 6 (ix (jm_presentOf u n)))), .int 0, .int url, .int n, .ref (ad 0)]) := by
                    intro  ls hl
                    refine jx_callV [.int n, .int url, .int 0, .int (jm_push rep url (u 6 (ix (jm_presentOf u n)))), .int (jm_nd (jm_nh u url (u 6 (ix (jm_presentOf u n))) (jm_within (u 6 (ix (jm_presentOf u n))) url)) (jm_presentOf u n) (jm_within (u 6 (ix (jm_presentOf u n))) url))] [] hc hh (m_enter l D aK ad cA (jm_nh u url (u 6 (ix (jm_presentOf u n))) (jm_within (u 6 (ix (jm_presentOf u n))) url)) n url 0 (jm_push rep url (u 6 (ix (jm_presentOf u n)))) (jm_nd (jm_nh u url (u 6 (ix (jm_presentOf u n))) (jm_within (u 6 (ix (jm_presentOf u n))) url)) (jm_presentOf u n) (jm_within (u 6 (ix (jm_presentOf u n))) url)) (jm_nh_Sh hS) (jm_shown_ex h19) (jm_btw_ub h8) (jm_nd_jq (jm_nh_Sh hS) jm_pr_ex) (jm_Nw_of hn jm_nh_21)) wy_M_159 ⟨by decide, rfl, rfl⟩ (by decide) rfl hl.1 rfl (by decide) ⟨Nat.zero_le _, Nat.zero_le _⟩ d_M_navigate_150 (fun r u9 H locs hp hh _ _ => ?_)
                    rw [hp.2] at hh
                    refine W.eq (g2 := F0 m 153 ls []) rfl ?_
                    refine lv_aload_n hx hb d_M_navigate_153 rfl (lv_at hl 0 rfl) ?_
                    refine jg_M hc hh 21 (by decide) rfl wf_M_130 d_M_navigate_154 ?_
                    exact jx_iret (r := ((jm_enter (jm_nh u url (u 6 (ix (jm_presentOf u n))) (jm_within (u 6 (ix (jm_presentOf u n))) url)) n url 0 (jm_push rep url (u 6 (ix (jm_presentOf u n)))) (jm_nd (jm_nh u url (u 6 (ix (jm_presentOf u n))) (jm_within (u 6 (ix (jm_presentOf u n))) url)) (jm_presentOf u n) (jm_within (u 6 (ix (jm_presentOf u n))) url))) 21 0)) hc hh hQ hlk hr rfl rfl ⟨by unfold jm_navigate jm_navF; rw [if_neg h8, if_neg h19, if_pos h64]; rfl, by unfold jm_navigate jm_navF; rw [if_neg h8, if_neg h19, if_pos h64]; rfl⟩ d_M_navigate_157
                  have e45 : (jm_nd (jm_nh u url (u 6 (ix (jm_presentOf u n))) (jm_within (u 6 (ix (jm_presentOf u n))) url)) (jm_presentOf u n) (jm_within (u 6 (ix (jm_presentOf u n))) url)) = ((jm_nh u url (u 6 (ix (jm_presentOf u n))) (jm_within (u 6 (ix (jm_presentOf u n))) url)) 8 (ix (jm_presentOf u n))) := by simp [jm_nd, h136]
                  refine W.eq (g2 := F0 m 150 ls [.int (jm_nd (jm_nh u url (u 6 (ix (jm_presentOf u n))) (jm_within (u 6 (ix (jm_presentOf u n))) url)) (jm_presentOf u n) (jm_within (u 6 (ix (jm_presentOf u n))) url)), .int (jm_push rep url (u 6 (ix (jm_presentOf u n)))), .int 0, .int url, .int n, .ref (ad 0)]) (by first | (rw [e45]; done) | (rw [e45]; rfl)) ?_
                  refine J150 _ ?_
                  exact lv_sub hl [0] rfl
                have e46 : (jm_nh u url (u 6 (ix (jm_presentOf u n))) (jm_within (u 6 (ix (jm_presentOf u n))) url)) = u := by first | (simp [jm_nh, h109, h115]; done) | (simp [jm_nh, h109, eq_true h115]; done)
                refine J128 _ _ _ ?_ ?_
                ·
                  try rw [e46]
                  exact hh
                try rw [e46]
                exact lv_sub hl [1, 2, 3, 4, 6, 0] rfl
              refine lv_aload_n hx hb d_M_navigate_118 rfl (lv_at hl 1 rfl) ?_
              refine lv_dup hx hb d_M_navigate_119 rfl ?_
              refine jg_M hc hh 24 (by decide) rfl wf_M_156 d_M_navigate_120 ?_
              refine lv_iconst (v := 1) hx hb d_M_navigate_123 (by decide) ?_
              refine lv_iadd hx hb d_M_navigate_124 ?_
              refine jpm_24 hc hh wf_M_156 d_M_navigate_125 (fun H locs hh => ?_)
              have J128 : ∀  (H : Heap) (locs : List Loc) (ls : Array Slot), jx_H D 22 ad (jm_cell ad cA (jm_nh u url (u 6 (ix (jm_presentOf u n))) (jm_within (u 6 (ix (jm_presentOf u n))) url))) A s.heap H locs → lv_has ls 8 [(0, .ref (ad 0)), (1, .int n), (2, .int url), (4, .int (jm_presentOf u n)), (6, .int (jm_push rep url (u 6 (ix (jm_presentOf u n))))), (7, .int (jm_within (u 6 (ix (jm_presentOf u n))) url))] → W p l e (jr 7) s m args below meth c H locs 0 0 Q (F0 m 128 ls []) := by
                intro  H locs ls hh hl
                refine lv_aload_n hx hb d_M_navigate_128 rfl (lv_at hl 0 rfl) ?_
                refine lv_iload_n hx hb d_M_navigate_129 rfl (lv_at hl 1 rfl) ?_
                refine lv_iload_n hx hb d_M_navigate_130 rfl (lv_at hl 2 rfl) ?_
                refine lv_iconst (v := 0) hx hb d_M_navigate_131 (by decide) ?_
                refine lv_iload hx hb d_M_navigate_132 (lv_at hl 4 rfl) ?_
                refine lv_iload hx hb d_M_navigate_134 (lv_at hl 5 rfl) ?_
                refine lv_if_eq (tgt := 149) hx hb d_M_navigate_136 rfl (fun h136 => ?_) (fun h136 => ?_)
                ·
                  refine lv_iconst (v := -1) hx hb d_M_navigate_149 (by decide) ?_
                  have J150 : ∀  (ls : Array Slot), lv_has ls 8 [(0, .ref (ad 0))] → W p l e (jr 7) s m args below meth c H locs 0 0 Q (F0 m 150 ls [.int (jm_nd (jm_nh u url (u 6 (ix (jm_presentOf u n))) (jm_within (u 6 (ix (jm_presentOf u n))) url)) (jm_presentOf u n) (jm_within (u 6 (ix (jm_presentOf u n))) url)), .int (jm_push rep url (u 6 (ix (jm_presentOf u n)))), .int 0, .int url, .int n, .ref (ad 0)]) := by
                    intro  ls hl
                    refine jx_callV [.int n, .int url, .int 0, .int (jm_push rep url (u 6 (ix (jm_presentOf u n)))), .int (jm_nd (jm_nh u url (u 6 (ix (jm_presentOf u n))) (jm_within (u 6 (ix (jm_presentOf u n))) url)) (jm_presentOf u n) (jm_within (u 6 (ix (jm_presentOf u n))) url))] [] hc hh (m_enter l D aK ad cA (jm_nh u url (u 6 (ix (jm_presentOf u n))) (jm_within (u 6 (ix (jm_presentOf u n))) url)) n url 0 (jm_push rep url (u 6 (ix (jm_presentOf u n)))) (jm_nd (jm_nh u url (u 6 (ix (jm_presentOf u n))) (jm_within (u 6 (ix (jm_presentOf u n))) url)) (jm_presentOf u n) (jm_within (u 6 (ix (jm_presentOf u n))) url)) (jm_nh_Sh hS) (jm_shown_ex h19) (jm_btw_ub h8) (jm_nd_jq (jm_nh_Sh hS) jm_pr_ex) (jm_Nw_of hn jm_nh_21)) wy_M_159 ⟨by decide, rfl, rfl⟩ (by decide) rfl hl.1 rfl (by decide) ⟨Nat.zero_le _, Nat.zero_le _⟩ d_M_navigate_150 (fun r u9 H locs hp hh _ _ => ?_)
                    rw [hp.2] at hh
                    refine W.eq (g2 := F0 m 153 ls []) rfl ?_
                    refine lv_aload_n hx hb d_M_navigate_153 rfl (lv_at hl 0 rfl) ?_
                    refine jg_M hc hh 21 (by decide) rfl wf_M_130 d_M_navigate_154 ?_
                    exact jx_iret (r := ((jm_enter (jm_nh u url (u 6 (ix (jm_presentOf u n))) (jm_within (u 6 (ix (jm_presentOf u n))) url)) n url 0 (jm_push rep url (u 6 (ix (jm_presentOf u n)))) (jm_nd (jm_nh u url (u 6 (ix (jm_presentOf u n))) (jm_within (u 6 (ix (jm_presentOf u n))) url)) (jm_presentOf u n) (jm_within (u 6 (ix (jm_presentOf u n))) url))) 21 0)) hc hh hQ hlk hr rfl rfl ⟨by unfold jm_navigate jm_navF; rw [if_neg h8, if_neg h19, if_pos h64]; rfl, by unfold jm_navigate jm_navF; rw [if_neg h8, if_neg h19, if_pos h64]; rfl⟩ d_M_navigate_157
                  have e47 : (jm_nd (jm_nh u url (u 6 (ix (jm_presentOf u n))) (jm_within (u 6 (ix (jm_presentOf u n))) url)) (jm_presentOf u n) (jm_within (u 6 (ix (jm_presentOf u n))) url)) = (-1) := by first | (simp [jm_nd, h136]; done) | (simp [jm_nd, eq_true h136]; done)
                  refine W.eq (g2 := F0 m 150 ls [.int (jm_nd (jm_nh u url (u 6 (ix (jm_presentOf u n))) (jm_within (u 6 (ix (jm_presentOf u n))) url)) (jm_presentOf u n) (jm_within (u 6 (ix (jm_presentOf u n))) url)), .int (jm_push rep url (u 6 (ix (jm_presentOf u n)))), .int 0, .int url, .int n, .ref (ad 0)]) (by first | (rw [e47]; done) | (rw [e47]; rfl)) ?_
                  refine J150 _ ?_
                  exact lv_sub hl [0] rfl
                refine lv_aload_n hx hb d_M_navigate_139 rfl (lv_at hl 0 rfl) ?_
                refine jg_M hc hh 8 (by decide) rfl wf_M_35 d_M_navigate_140 ?_
                refine lv_iload hx hb d_M_navigate_143 (lv_at hl 3 rfl) ?_
                refine jm_ild hc hh 8 (by decide) (by decide) jm_pr_ex d_M_navigate_145 ?_
                refine lv_goto (tgt := 150) hx hb d_M_navigate_146 rfl ?_
                have J150 : ∀  (ls : Array Slot), lv_has ls 8 [(0, .ref (ad 0))] → W p l e (jr 7) s m args below meth c H locs 0 0 Q (F0 m 150 ls [.int (jm_nd (jm_nh u url (u 6 (ix (jm_presentOf u n))) (jm_within (u 6 (ix (jm_presentOf u n))) url)) (jm_presentOf u n) (jm_within (u 6 (ix (jm_presentOf u n))) url)), .int (jm_push rep url (u 6 (ix (jm_presentOf u n)))), .int 0, .int url, .int n, .ref (ad 0)]) := by
                  intro  ls hl
                  refine jx_callV [.int n, .int url, .int 0, .int (jm_push rep url (u 6 (ix (jm_presentOf u n)))), .int (jm_nd (jm_nh u url (u 6 (ix (jm_presentOf u n))) (jm_within (u 6 (ix (jm_presentOf u n))) url)) (jm_presentOf u n) (jm_within (u 6 (ix (jm_presentOf u n))) url))] [] hc hh (m_enter l D aK ad cA (jm_nh u url (u 6 (ix (jm_presentOf u n))) (jm_within (u 6 (ix (jm_presentOf u n))) url)) n url 0 (jm_push rep url (u 6 (ix (jm_presentOf u n)))) (jm_nd (jm_nh u url (u 6 (ix (jm_presentOf u n))) (jm_within (u 6 (ix (jm_presentOf u n))) url)) (jm_presentOf u n) (jm_within (u 6 (ix (jm_presentOf u n))) url)) (jm_nh_Sh hS) (jm_shown_ex h19) (jm_btw_ub h8) (jm_nd_jq (jm_nh_Sh hS) jm_pr_ex) (jm_Nw_of hn jm_nh_21)) wy_M_159 ⟨by decide, rfl, rfl⟩ (by decide) rfl hl.1 rfl (by decide) ⟨Nat.zero_le _, Nat.zero_le _⟩ d_M_navigate_150 (fun r u9 H locs hp hh _ _ => ?_)
                  rw [hp.2] at hh
                  refine W.eq (g2 := F0 m 153 ls []) rfl ?_
                  refine lv_aload_n hx hb d_M_navigate_153 rfl (lv_at hl 0 rfl) ?_
                  refine jg_M hc hh 21 (by decide) rfl wf_M_130 d_M_navigate_154 ?_
                  exact jx_iret (r := ((jm_enter (jm_nh u url (u 6 (ix (jm_presentOf u n))) (jm_within (u 6 (ix (jm_presentOf u n))) url)) n url 0 (jm_push rep url (u 6 (ix (jm_presentOf u n)))) (jm_nd (jm_nh u url (u 6 (ix (jm_presentOf u n))) (jm_within (u 6 (ix (jm_presentOf u n))) url)) (jm_presentOf u n) (jm_within (u 6 (ix (jm_presentOf u n))) url))) 21 0)) hc hh hQ hlk hr rfl rfl ⟨by unfold jm_navigate jm_navF; rw [if_neg h8, if_neg h19, if_pos h64]; rfl, by unfold jm_navigate jm_navF; rw [if_neg h8, if_neg h19, if_pos h64]; rfl⟩ d_M_navigate_157
                have e48 : (jm_nd (jm_nh u url (u 6 (ix (jm_presentOf u n))) (jm_within (u 6 (ix (jm_presentOf u n))) url)) (jm_presentOf u n) (jm_within (u 6 (ix (jm_presentOf u n))) url)) = ((jm_nh u url (u 6 (ix (jm_presentOf u n))) (jm_within (u 6 (ix (jm_presentOf u n))) url)) 8 (ix (jm_presentOf u n))) := by simp [jm_nd, h136]
                refine W.eq (g2 := F0 m 150 ls [.int (jm_nd (jm_nh u url (u 6 (ix (jm_presentOf u n))) (jm_within (u 6 (ix (jm_presentOf u n))) url)) (jm_presentOf u n) (jm_within (u 6 (ix (jm_presentOf u n))) url)), .int (jm_push rep url (u 6 (ix (jm_presentOf u n)))), .int 0, .int url, .int n, .ref (ad 0)]) (by first | (rw [e48]; done) | (rw [e48]; rfl)) ?_
                refine J150 _ ?_
                exact lv_sub hl [0] rfl
              have e49 : (jm_nh u url (u 6 (ix (jm_presentOf u n))) (jm_within (u 6 (ix (jm_presentOf u n))) url)) = (js_up u 24 0 ((u 24 0) + 1)) := by simp [jm_nh, h109, h115]
              refine J128 _ _ _ ?_ ?_
              ·
                try rw [e49]
                exact hh
              try rw [e49]
              exact lv_sub hl [1, 2, 3, 4, 6, 0] rfl
            have e50 : (jm_within (u 6 (ix (jm_presentOf u n))) url) = 1 := by first | (simp [jm_within, h64, h72, h79, h85, h97]; done) | (simp [jm_within, eq_true h64, h72, h79, h85, eq_true h97]; done)
            refine W.eq (g2 := F0 m 105 ls [.int (jm_within (u 6 (ix (jm_presentOf u n))) url)]) (by first | (rw [e50]; done) | (rw [e50]; rfl)) ?_
            refine J105 _ _ _ ?_ ?_
            ·
              exact hh
            exact lv_sub hl [1, 2, 3, 4, 5, 0] rfl
          refine lv_bipush (v := -5) hx hb d_M_navigate_67 (by decide) ?_
          exact jx_iret (r := (-5)) hc hh hQ hlk hr rfl rfl ⟨by rw [show jm_navigate u n url rep = (-5, u) from by unfold jm_navigate jm_navF; rw [if_neg h8, if_neg h19, if_neg h64]], by rw [show jm_navigate u n url rep = (-5, u) from by unfold jm_navigate jm_navF; rw [if_neg h8, if_neg h19, if_neg h64]]⟩ d_M_navigate_69
        have e51 : (jm_push rep url (u 6 (ix (jm_presentOf u n)))) = 0 := by simp [jm_push, h8, h19, h42]
        refine W.eq (g2 := F0 m 56 ls [.int (jm_push rep url (u 6 (ix (jm_presentOf u n))))]) (by first | (rw [e51]; done) | (rw [e51]; rfl)) ?_
        refine J56 _ _ _ ?_ ?_
        ·
          exact hh
        exact lv_sub hl [2, 3, 4, 1, 0] rfl
      refine lv_iload_n hx hb d_M_navigate_45 rfl (lv_at hl 4 rfl) ?_
      refine lv_iload hx hb d_M_navigate_46 (lv_at hl 0 rfl) ?_
      refine lv_icmp_eq (tgt := 55) hx hb d_M_navigate_48 rfl (fun h48 => ?_) (fun h48 => ?_)
      ·
        refine lv_iconst (v := 0) hx hb d_M_navigate_55 (by decide) ?_
        have J56 : ∀  (H : Heap) (locs : List Loc) (ls : Array Slot), jx_H D 22 ad (jm_cell ad cA u) A s.heap H locs → lv_has ls 8 [(0, .ref (ad 0)), (1, .int n), (2, .int url), (4, .int (jm_presentOf u n)), (5, .int (u 6 (ix (jm_presentOf u n))))] → W p l e (jr 7) s m args below meth c H locs 0 0 Q (F0 m 56 ls [.int (jm_push rep url (u 6 (ix (jm_presentOf u n))))]) := by
          intro  H locs ls hh hl
          refine lv_istore (i := 6) (lv' := [(6, .int (jm_push rep url (u 6 (ix (jm_presentOf u n))))), (0, .ref (ad 0)), (1, .int n), (2, .int url), (4, .int (jm_presentOf u n)), (5, .int (u 6 (ix (jm_presentOf u n))))]) hx hb d_M_navigate_56 hl (by decide) rfl (fun ls hl => ?_)
          refine lv_aload_n hx hb d_M_navigate_58 rfl (lv_at hl 1 rfl) ?_
          refine lv_iload hx hb d_M_navigate_59 (lv_at hl 0 rfl) ?_
          refine jx_callV [.int (jm_push rep url (u 6 (ix (jm_presentOf u n))))] [] hc hh (m_full l D aK ad cA u (jm_push rep url (u 6 (ix (jm_presentOf u n))))) wy_M_149 ⟨by decide, rfl, rfl⟩ (by decide) rfl hl.1 rfl (by decide) ⟨Nat.zero_le _, Nat.zero_le _⟩ d_M_navigate_61 (fun r u9 H locs hp hh _ _ => ?_)
          rw [hp.2] at hh
          refine W.eq (g2 := F0 m 64 ls [.int (jm_full u (jm_push rep url (u 6 (ix (jm_presentOf u n)))))]) (by rw [hp.1]; rfl) ?_
          refine lv_if_eq (tgt := 70) hx hb d_M_navigate_64 rfl (fun h64 => ?_) (fun h64 => ?_)
          ·
            refine lv_iload_n hx hb d_M_navigate_70 rfl (lv_at hl 3 rfl) ?_
            refine lv_iconst (v := -1) hx hb d_M_navigate_71 (by decide) ?_
            refine lv_icmp_eq (tgt := 104) hx hb d_M_navigate_72 rfl (fun h72 => ?_) (fun h72 => ?_)
            ·
              refine lv_iconst (v := 0) hx hb d_M_navigate_104 (by decide) ?_
              have J105 : ∀  (H : Heap) (locs : List Loc) (ls : Array Slot), jx_H D 22 ad (jm_cell ad cA u) A s.heap H locs → lv_has ls 8 [(0, .ref (ad 0)), (1, .int n), (2, .int url), (4, .int (jm_presentOf u n)), (5, .int (u 6 (ix (jm_presentOf u n)))), (6, .int (jm_push rep url (u 6 (ix (jm_presentOf u n)))))] → W p l e (jr 7) s m args below meth c H locs 0 0 Q (F0 m 105 ls [.int (jm_within (u 6 (ix (jm_presentOf u n))) url)]) := by
                intro  H locs ls hh hl
                refine lv_istore (i := 7) (lv' := [(7, .int (jm_within (u 6 (ix (jm_presentOf u n))) url)), (0, .ref (ad 0)), (1, .int n), (2, .int url), (4, .int (jm_presentOf u n)), (5, .int (u 6 (ix (jm_presentOf u n)))), (6, .int (jm_push rep url (u 6 (ix (jm_presentOf u n)))))]) hx hb d_M_navigate_105 hl (by decide) rfl (fun ls hl => ?_)
                refine lv_iload hx hb d_M_navigate_107 (lv_at hl 0 rfl) ?_
                refine lv_if_eq (tgt := 128) hx hb d_M_navigate_109 rfl (fun h109 => ?_) (fun h109 => ?_)
                ·
                  have J128 : ∀  (H : Heap) (locs : List Loc) (ls : Array Slot), jx_H D 22 ad (jm_cell ad cA (jm_nh u url (u 6 (ix (jm_presentOf u n))) (jm_within (u 6 (ix (jm_presentOf u n))) url))) A s.heap H locs → lv_has ls 8 [(0, .ref (ad 0)), (1, .int n), (2, .int url), (4, .int (jm_presentOf u n)), (6, .int (jm_push rep url (u 6 (ix (jm_presentOf u n))))), (7, .int (jm_within (u 6 (ix (jm_presentOf u n))) url))] → W p l e (jr 7) s m args below meth c H locs 0 0 Q (F0 m 128 ls []) := by
                    intro  H locs ls hh hl
                    refine lv_aload_n hx hb d_M_navigate_128 rfl (lv_at hl 0 rfl) ?_
                    refine lv_iload_n hx hb d_M_navigate_129 rfl (lv_at hl 1 rfl) ?_
                    refine lv_iload_n hx hb d_M_navigate_130 rfl (lv_at hl 2 rfl) ?_
                    refine lv_iconst (v := 0) hx hb d_M_navigate_131 (by decide) ?_
                    refine lv_iload hx hb d_M_navigate_132 (lv_at hl 4 rfl) ?_
                    refine lv_iload hx hb d_M_navigate_134 (lv_at hl 5 rfl) ?_
                    refine lv_if_eq (tgt := 149) hx hb d_M_navigate_136 rfl (fun h136 => ?_) (fun h136 => ?_)
                    ·
                      refine lv_iconst (v := -1) hx hb d_M_navigate_149 (by decide) ?_
                      have J150 : ∀  (ls : Array Slot), lv_has ls 8 [(0, .ref (ad 0))] → W p l e (jr 7) s m args below meth c H locs 0 0 Q (F0 m 150 ls [.int (jm_nd (jm_nh u url (u 6 (ix (jm_presentOf u n))) (jm_within (u 6 (ix (jm_presentOf u n))) url)) (jm_presentOf u n) (jm_within (u 6 (ix (jm_presentOf u n))) url)), .int (jm_push rep url (u 6 (ix (jm_presentOf u n)))), .int 0, .int url, .int n, .ref (ad 0)]) := by
                        intro  ls hl
                        refine jx_callV [.int n, .int url, .int 0, .int (jm_push rep url (u 6 (ix (jm_presentOf u n)))), .int (jm_nd (jm_nh u url (u 6 (ix (jm_presentOf u n))) (jm_within (u 6 (ix (jm_presentOf u n))) url)) (jm_presentOf u n) (jm_within (u 6 (ix (jm_presentOf u n))) url))] [] hc hh (m_enter l D aK ad cA (jm_nh u url (u 6 (ix (jm_presentOf u n))) (jm_within (u 6 (ix (jm_presentOf u n))) url)) n url 0 (jm_push rep url (u 6 (ix (jm_presentOf u n)))) (jm_nd (jm_nh u url (u 6 (ix (jm_presentOf u n))) (jm_within (u 6 (ix (jm_presentOf u n))) url)) (jm_presentOf u n) (jm_within (u 6 (ix (jm_presentOf u n))) url)) (jm_nh_Sh hS) (jm_shown_ex h19) (jm_btw_ub h8) (jm_nd_jq (jm_nh_Sh hS) jm_pr_ex) (jm_Nw_of hn jm_nh_21)) wy_M_159 ⟨by decide, rfl, rfl⟩ (by decide) rfl hl.1 rfl (by decide) ⟨Nat.zero_le _, Nat.zero_le _⟩ d_M_navigate_150 (fun r u9 H locs hp hh _ _ => ?_)
                        rw [hp.2] at hh
                        refine W.eq (g2 := F0 m 153 ls []) rfl ?_
                        refine lv_aload_n hx hb d_M_navigate_153 rfl (lv_at hl 0 rfl) ?_
                        refine jg_M hc hh 21 (by decide) rfl wf_M_130 d_M_navigate_154 ?_
                        exact jx_iret (r := ((jm_enter (jm_nh u url (u 6 (ix (jm_presentOf u n))) (jm_within (u 6 (ix (jm_presentOf u n))) url)) n url 0 (jm_push rep url (u 6 (ix (jm_presentOf u n)))) (jm_nd (jm_nh u url (u 6 (ix (jm_presentOf u n))) (jm_within (u 6 (ix (jm_presentOf u n))) url)) (jm_presentOf u n) (jm_within (u 6 (ix (jm_presentOf u n))) url))) 21 0)) hc hh hQ hlk hr rfl rfl ⟨by unfold jm_navigate jm_navF; rw [if_neg h8, if_neg h19, if_pos h64]; rfl, by unfold jm_navigate jm_navF; rw [if_neg h8, if_neg h19, if_pos h64]; rfl⟩ d_M_navigate_157
                      have e52 : (jm_nd (jm_nh u url (u 6 (ix (jm_presentOf u n))) (jm_within (u 6 (ix (jm_presentOf u n))) url)) (jm_presentOf u n) (jm_within (u 6 (ix (jm_presentOf u n))) url)) = (-1) := by first | (simp [jm_nd, h136]; done) | (simp [jm_nd, eq_true h136]; done)
                      refine W.eq (g2 := F0 m 150 ls [.int (jm_nd (jm_nh u url (u 6 (ix (jm_presentOf u n))) (jm_within (u 6 (ix (jm_presentOf u n))) url)) (jm_presentOf u n) (jm_within (u 6 (ix (jm_presentOf u n))) url)), .int (jm_push rep url (u 6 (ix (jm_presentOf u n)))), .int 0, .int url, .int n, .ref (ad 0)]) (by first | (rw [e52]; done) | (rw [e52]; rfl)) ?_
                      refine J150 _ ?_
                      exact lv_sub hl [0] rfl
                    refine lv_aload_n hx hb d_M_navigate_139 rfl (lv_at hl 0 rfl) ?_
                    refine jg_M hc hh 8 (by decide) rfl wf_M_35 d_M_navigate_140 ?_
                    refine lv_iload hx hb d_M_navigate_143 (lv_at hl 3 rfl) ?_
                    refine jm_ild hc hh 8 (by decide) (by decide) jm_pr_ex d_M_navigate_145 ?_
                    refine lv_goto (tgt := 150) hx hb d_M_navigate_146 rfl ?_
                    have J150 : ∀  (ls : Array Slot), lv_has ls 8 [(0, .ref (ad 0))] → W p l e (jr 7) s m args below meth c H locs 0 0 Q (F0 m 150 ls [.int (jm_nd (jm_nh u url (u 6 (ix (jm_presentOf u n))) (jm_within (u 6 (ix (jm_presentOf u n))) url)) (jm_presentOf u n) (jm_within (u 6 (ix (jm_presentOf u n))) url)), .int (jm_push rep url (u 6 (ix (jm_presentOf u n)))), .int 0, .int url, .int n, .ref (ad 0)]) := by
                      intro  ls hl
                      refine jx_callV [.int n, .int url, .int 0, .int (jm_push rep url (u 6 (ix (jm_presentOf u n)))), .int (jm_nd (jm_nh u url (u 6 (ix (jm_presentOf u n))) (jm_within (u 6 (ix (jm_presentOf u n))) url)) (jm_presentOf u n) (jm_within (u 6 (ix (jm_presentOf u n))) url))] [] hc hh (m_enter l D aK ad cA (jm_nh u url (u 6 (ix (jm_presentOf u n))) (jm_within (u 6 (ix (jm_presentOf u n))) url)) n url 0 (jm_push rep url (u 6 (ix (jm_presentOf u n)))) (jm_nd (jm_nh u url (u 6 (ix (jm_presentOf u n))) (jm_within (u 6 (ix (jm_presentOf u n))) url)) (jm_presentOf u n) (jm_within (u 6 (ix (jm_presentOf u n))) url)) (jm_nh_Sh hS) (jm_shown_ex h19) (jm_btw_ub h8) (jm_nd_jq (jm_nh_Sh hS) jm_pr_ex) (jm_Nw_of hn jm_nh_21)) wy_M_159 ⟨by decide, rfl, rfl⟩ (by decide) rfl hl.1 rfl (by decide) ⟨Nat.zero_le _, Nat.zero_le _⟩ d_M_navigate_150 (fun r u9 H locs hp hh _ _ => ?_)
                      rw [hp.2] at hh
                      refine W.eq (g2 := F0 m 153 ls []) rfl ?_
                      refine lv_aload_n hx hb d_M_navigate_153 rfl (lv_at hl 0 rfl) ?_
                      refine jg_M hc hh 21 (by decide) rfl wf_M_130 d_M_navigate_154 ?_
                      exact jx_iret (r := ((jm_enter (jm_nh u url (u 6 (ix (jm_presentOf u n))) (jm_within (u 6 (ix (jm_presentOf u n))) url)) n url 0 (jm_push rep url (u 6 (ix (jm_presentOf u n)))) (jm_nd (jm_nh u url (u 6 (ix (jm_presentOf u n))) (jm_within (u 6 (ix (jm_presentOf u n))) url)) (jm_presentOf u n) (jm_within (u 6 (ix (jm_presentOf u n))) url))) 21 0)) hc hh hQ hlk hr rfl rfl ⟨by unfold jm_navigate jm_navF; rw [if_neg h8, if_neg h19, if_pos h64]; rfl, by unfold jm_navigate jm_navF; rw [if_neg h8, if_neg h19, if_pos h64]; rfl⟩ d_M_navigate_157
                    have e53 : (jm_nd (jm_nh u url (u 6 (ix (jm_presentOf u n))) (jm_within (u 6 (ix (jm_presentOf u n))) url)) (jm_presentOf u n) (jm_within (u 6 (ix (jm_presentOf u n))) url)) = ((jm_nh u url (u 6 (ix (jm_presentOf u n))) (jm_within (u 6 (ix (jm_presentOf u n))) url)) 8 (ix (jm_presentOf u n))) := by simp [jm_nd, h136]
                    refine W.eq (g2 := F0 m 150 ls [.int (jm_nd (jm_nh u url (u 6 (ix (jm_presentOf u n))) (jm_within (u 6 (ix (jm_presentOf u n))) url)) (jm_presentOf u n) (jm_within (u 6 (ix (jm_presentOf u n))) url)), .int (jm_push rep url (u 6 (ix (jm_presentOf u n)))), .int 0, .int url, .int n, .ref (ad 0)]) (by first | (rw [e53]; done) | (rw [e53]; rfl)) ?_
                    refine J150 _ ?_
                    exact lv_sub hl [0] rfl
                  have e54 : (jm_nh u url (u 6 (ix (jm_presentOf u n))) (jm_within (u 6 (ix (jm_presentOf u n))) url)) = u := by first | (simp [jm_nh, h109]; done) | (simp [jm_nh, eq_true h109]; done)
                  refine J128 _ _ _ ?_ ?_
                  ·
                    try rw [e54]
                    exact hh
                  try rw [e54]
                  exact lv_sub hl [1, 2, 3, 4, 6, 0] rfl
                refine lv_iload_n hx hb d_M_navigate_112 rfl (lv_at hl 3 rfl) ?_
                refine lv_iload hx hb d_M_navigate_113 (lv_at hl 5 rfl) ?_
                refine lv_icmp_eq (tgt := 128) hx hb d_M_navigate_115 rfl (fun h115 => ?_) (fun h115 => ?_)
                ·
                  have J128 : ∀  (H : Heap) (locs : List Loc) (ls : Array Slot), jx_H D 22 ad (jm_cell ad cA (jm_nh u url (u 6 (ix (jm_presentOf u n))) (jm_within (u 6 (ix (jm_presentOf u n))) url))) A s.heap H locs → lv_has ls 8 [(0, .ref (ad 0)), (1, .int n), (2, .int url), (4, .int (jm_presentOf u n)), (6, .int (jm_push rep url (u 6 (ix (jm_presentOf u n))))), (7, .int (jm_within (u 6 (ix (jm_presentOf u n))) url))] → W p l e (jr 7) s m args below meth c H locs 0 0 Q (F0 m 128 ls []) := by
                    intro  H locs ls hh hl
                    refine lv_aload_n hx hb d_M_navigate_128 rfl (lv_at hl 0 rfl) ?_
                    refine lv_iload_n hx hb d_M_navigate_129 rfl (lv_at hl 1 rfl) ?_
                    refine lv_iload_n hx hb d_M_navigate_130 rfl (lv_at hl 2 rfl) ?_
                    refine lv_iconst (v := 0) hx hb d_M_navigate_131 (by decide) ?_
                    refine lv_iload hx hb d_M_navigate_132 (lv_at hl 4 rfl) ?_
                    refine lv_iload hx hb d_M_navigate_134 (lv_at hl 5 rfl) ?_
                    refine lv_if_eq (tgt := 149) hx hb d_M_navigate_136 rfl (fun h136 => ?_) (fun h136 => ?_)
                    ·
                      refine lv_iconst (v := -1) hx hb d_M_navigate_149 (by decide) ?_
                      have J150 : ∀  (ls : Array Slot), lv_has ls 8 [(0, .ref (ad 0))] → W p l e (jr 7) s m args below meth c H locs 0 0 Q (F0 m 150 ls [.int (jm_nd (jm_nh u url (u 6 (ix (jm_presentOf u n))) (jm_within (u 6 (ix (jm_presentOf u n))) url)) (jm_presentOf u n) (jm_within (u 6 (ix (jm_presentOf u n))) url)), .int (jm_push rep url (u 6 (ix (jm_presentOf u n)))), .int 0, .int url, .int n, .ref (ad 0)]) := by
                        intro  ls hl
                        refine jx_callV [.int n, .int url, .int 0, .int (jm_push rep url (u 6 (ix (jm_presentOf u n)))), .int (jm_nd (jm_nh u url (u 6 (ix (jm_presentOf u n))) (jm_within (u 6 (ix (jm_presentOf u n))) url)) (jm_presentOf u n) (jm_within (u 6 (ix (jm_presentOf u n))) url))] [] hc hh (m_enter l D aK ad cA (jm_nh u url (u 6 (ix (jm_presentOf u n))) (jm_within (u 6 (ix (jm_presentOf u n))) url)) n url 0 (jm_push rep url (u 6 (ix (jm_presentOf u n)))) (jm_nd (jm_nh u url (u 6 (ix (jm_presentOf u n))) (jm_within (u 6 (ix (jm_presentOf u n))) url)) (jm_presentOf u n) (jm_within (u 6 (ix (jm_presentOf u n))) url)) (jm_nh_Sh hS) (jm_shown_ex h19) (jm_btw_ub h8) (jm_nd_jq (jm_nh_Sh hS) jm_pr_ex) (jm_Nw_of hn jm_nh_21)) wy_M_159 ⟨by decide, rfl, rfl⟩ (by decide) rfl hl.1 rfl (by decide) ⟨Nat.zero_le _, Nat.zero_le _⟩ d_M_navigate_150 (fun r u9 H locs hp hh _ _ => ?_)
                        rw [hp.2] at hh
                        refine W.eq (g2 := F0 m 153 ls []) rfl ?_
                        refine lv_aload_n hx hb d_M_navigate_153 rfl (lv_at hl 0 rfl) ?_
                        refine jg_M hc hh 21 (by decide) rfl wf_M_130 d_M_navigate_154 ?_
                        exact jx_iret (r := ((jm_enter (jm_nh u url (u 6 (ix (jm_presentOf u n))) (jm_within (u 6 (ix (jm_presentOf u n))) url)) n url 0 (jm_push rep url (u 6 (ix (jm_presentOf u n)))) (jm_nd (jm_nh u url (u 6 (ix (jm_presentOf u n))) (jm_within (u 6 (ix (jm_presentOf u n))) url)) (jm_presentOf u n) (jm_within (u 6 (ix (jm_presentOf u n))) url))) 21 0)) hc hh hQ hlk hr rfl rfl ⟨by unfold jm_navigate jm_navF; rw [if_neg h8, if_neg h19, if_pos h64]; rfl, by unfold jm_navigate jm_navF; rw [if_neg h8, if_neg h19, if_pos h64]; rfl⟩ d_M_navigate_157
                      have e55 : (jm_nd (jm_nh u url (u 6 (ix (jm_presentOf u n))) (jm_within (u 6 (ix (jm_presentOf u n))) url)) (jm_presentOf u n) (jm_within (u 6 (ix (jm_presentOf u n))) url)) = (-1) := by first | (simp [jm_nd, h136]; done) | (simp [jm_nd, eq_true h136]; done)
                      refine W.eq (g2 := F0 m 150 ls [.int (jm_nd (jm_nh u url (u 6 (ix (jm_presentOf u n))) (jm_within (u 6 (ix (jm_presentOf u n))) url)) (jm_presentOf u n) (jm_within (u 6 (ix (jm_presentOf u n))) url)), .int (jm_push rep url (u 6 (ix (jm_presentOf u n)))), .int 0, .int url, .int n, .ref (ad 0)]) (by first | (rw [e55]; done) | (rw [e55]; rfl)) ?_
                      refine J150 _ ?_
                      exact lv_sub hl [0] rfl
                    refine lv_aload_n hx hb d_M_navigate_139 rfl (lv_at hl 0 rfl) ?_
                    refine jg_M hc hh 8 (by decide) rfl wf_M_35 d_M_navigate_140 ?_
                    refine lv_iload hx hb d_M_navigate_143 (lv_at hl 3 rfl) ?_
                    refine jm_ild hc hh 8 (by decide) (by decide) jm_pr_ex d_M_navigate_145 ?_
                    refine lv_goto (tgt := 150) hx hb d_M_navigate_146 rfl ?_
                    have J150 : ∀  (ls : Array Slot), lv_has ls 8 [(0, .ref (ad 0))] → W p l e (jr 7) s m args below meth c H locs 0 0 Q (F0 m 150 ls [.int (jm_nd (jm_nh u url (u 6 (ix (jm_presentOf u n))) (jm_within (u 6 (ix (jm_presentOf u n))) url)) (jm_presentOf u n) (jm_within (u 6 (ix (jm_presentOf u n))) url)), .int (jm_push rep url (u 6 (ix (jm_presentOf u n)))), .int 0, .int url, .int n, .ref (ad 0)]) := by
                      intro  ls hl
                      refine jx_callV [.int n, .int url, .int 0, .int (jm_push rep url (u 6 (ix (jm_presentOf u n)))), .int (jm_nd (jm_nh u url (u 6 (ix (jm_presentOf u n))) (jm_within (u 6 (ix (jm_presentOf u n))) url)) (jm_presentOf u n) (jm_within (u 6 (ix (jm_presentOf u n))) url))] [] hc hh (m_enter l D aK ad cA (jm_nh u url (u 6 (ix (jm_presentOf u n))) (jm_within (u 6 (ix (jm_presentOf u n))) url)) n url 0 (jm_push rep url (u 6 (ix (jm_presentOf u n)))) (jm_nd (jm_nh u url (u 6 (ix (jm_presentOf u n))) (jm_within (u 6 (ix (jm_presentOf u n))) url)) (jm_presentOf u n) (jm_within (u 6 (ix (jm_presentOf u n))) url)) (jm_nh_Sh hS) (jm_shown_ex h19) (jm_btw_ub h8) (jm_nd_jq (jm_nh_Sh hS) jm_pr_ex) (jm_Nw_of hn jm_nh_21)) wy_M_159 ⟨by decide, rfl, rfl⟩ (by decide) rfl hl.1 rfl (by decide) ⟨Nat.zero_le _, Nat.zero_le _⟩ d_M_navigate_150 (fun r u9 H locs hp hh _ _ => ?_)
                      rw [hp.2] at hh
                      refine W.eq (g2 := F0 m 153 ls []) rfl ?_
                      refine lv_aload_n hx hb d_M_navigate_153 rfl (lv_at hl 0 rfl) ?_
                      refine jg_M hc hh 21 (by decide) rfl wf_M_130 d_M_navigate_154 ?_
                      exact jx_iret (r := ((jm_enter (jm_nh u url (u 6 (ix (jm_presentOf u n))) (jm_within (u 6 (ix (jm_presentOf u n))) url)) n url 0 (jm_push rep url (u 6 (ix (jm_presentOf u n)))) (jm_nd (jm_nh u url (u 6 (ix (jm_presentOf u n))) (jm_within (u 6 (ix (jm_presentOf u n))) url)) (jm_presentOf u n) (jm_within (u 6 (ix (jm_presentOf u n))) url))) 21 0)) hc hh hQ hlk hr rfl rfl ⟨by unfold jm_navigate jm_navF; rw [if_neg h8, if_neg h19, if_pos h64]; rfl, by unfold jm_navigate jm_navF; rw [if_neg h8, if_neg h19, if_pos h64]; rfl⟩ d_M_navigate_157
                    have e56 : (jm_nd (jm_nh u url (u 6 (ix (jm_presentOf u n))) (jm_within (u 6 (ix (jm_presentOf u n))) url)) (jm_presentOf u n) (jm_within (u 6 (ix (jm_presentOf u n))) url)) = ((jm_nh u url (u 6 (ix (jm_presentOf u n))) (jm_within (u 6 (ix (jm_presentOf u n))) url)) 8 (ix (jm_presentOf u n))) := by simp [jm_nd, h136]
                    refine W.eq (g2 := F0 m 150 ls [.int (jm_nd (jm_nh u url (u 6 (ix (jm_presentOf u n))) (jm_within (u 6 (ix (jm_presentOf u n))) url)) (jm_presentOf u n) (jm_within (u 6 (ix (jm_presentOf u n))) url)), .int (jm_push rep url (u 6 (ix (jm_presentOf u n)))), .int 0, .int url, .int n, .ref (ad 0)]) (by first | (rw [e56]; done) | (rw [e56]; rfl)) ?_
                    refine J150 _ ?_
                    exact lv_sub hl [0] rfl
                  have e57 : (jm_nh u url (u 6 (ix (jm_presentOf u n))) (jm_within (u 6 (ix (jm_presentOf u n))) url)) = u := by first | (simp [jm_nh, h109, h115]; done) | (simp [jm_nh, h109, eq_true h115]; done)
                  refine J128 _ _ _ ?_ ?_
                  ·
                    try rw [e57]
                    exact hh
                  try rw [e57]
                  exact lv_sub hl [1, 2, 3, 4, 6, 0] rfl
                refine lv_aload_n hx hb d_M_navigate_118 rfl (lv_at hl 1 rfl) ?_
                refine lv_dup hx hb d_M_navigate_119 rfl ?_
                refine jg_M hc hh 24 (by decide) rfl wf_M_156 d_M_navigate_120 ?_
                refine lv_iconst (v := 1) hx hb d_M_navigate_123 (by decide) ?_
                refine lv_iadd hx hb d_M_navigate_124 ?_
                refine jpm_24 hc hh wf_M_156 d_M_navigate_125 (fun H locs hh => ?_)
                have J128 : ∀  (H : Heap) (locs : List Loc) (ls : Array Slot), jx_H D 22 ad (jm_cell ad cA (jm_nh u url (u 6 (ix (jm_presentOf u n))) (jm_within (u 6 (ix (jm_presentOf u n))) url))) A s.heap H locs → lv_has ls 8 [(0, .ref (ad 0)), (1, .int n), (2, .int url), (4, .int (jm_presentOf u n)), (6, .int (jm_push rep url (u 6 (ix (jm_presentOf u n))))), (7, .int (jm_within (u 6 (ix (jm_presentOf u n))) url))] → W p l e (jr 7) s m args below meth c H locs 0 0 Q (F0 m 128 ls []) := by
                  intro  H locs ls hh hl
                  refine lv_aload_n hx hb d_M_navigate_128 rfl (lv_at hl 0 rfl) ?_
                  refine lv_iload_n hx hb d_M_navigate_129 rfl (lv_at hl 1 rfl) ?_
                  refine lv_iload_n hx hb d_M_navigate_130 rfl (lv_at hl 2 rfl) ?_
                  refine lv_iconst (v := 0) hx hb d_M_navigate_131 (by decide) ?_
                  refine lv_iload hx hb d_M_navigate_132 (lv_at hl 4 rfl) ?_
                  refine lv_iload hx hb d_M_navigate_134 (lv_at hl 5 rfl) ?_
                  refine lv_if_eq (tgt := 149) hx hb d_M_navigate_136 rfl (fun h136 => ?_) (fun h136 => ?_)
                  ·
                    refine lv_iconst (v := -1) hx hb d_M_navigate_149 (by decide) ?_
                    have J150 : ∀  (ls : Array Slot), lv_has ls 8 [(0, .ref (ad 0))] → W p l e (jr 7) s m args below meth c H locs 0 0 Q (F0 m 150 ls [.int (jm_nd (jm_nh u url (u 6 (ix (jm_presentOf u n))) (jm_within (u 6 (ix (jm_presentOf u n))) url)) (jm_presentOf u n) (jm_within (u 6 (ix (jm_presentOf u n))) url)), .int (jm_push rep url (u 6 (ix (jm_presentOf u n)))), .int 0, .int url, .int n, .ref (ad 0)]) := by
                      intro  ls hl
                      refine jx_callV [.int n, .int url, .int 0, .int (jm_push rep url (u 6 (ix (jm_presentOf u n)))), .int (jm_nd (jm_nh u url (u 6 (ix (jm_presentOf u n))) (jm_within (u 6 (ix (jm_presentOf u n))) url)) (jm_presentOf u n) (jm_within (u 6 (ix (jm_presentOf u n))) url))] [] hc hh (m_enter l D aK ad cA (jm_nh u url (u 6 (ix (jm_presentOf u n))) (jm_within (u 6 (ix (jm_presentOf u n))) url)) n url 0 (jm_push rep url (u 6 (ix (jm_presentOf u n)))) (jm_nd (jm_nh u url (u 6 (ix (jm_presentOf u n))) (jm_within (u 6 (ix (jm_presentOf u n))) url)) (jm_presentOf u n) (jm_within (u 6 (ix (jm_presentOf u n))) url)) (jm_nh_Sh hS) (jm_shown_ex h19) (jm_btw_ub h8) (jm_nd_jq (jm_nh_Sh hS) jm_pr_ex) (jm_Nw_of hn jm_nh_21)) wy_M_159 ⟨by decide, rfl, rfl⟩ (by decide) rfl hl.1 rfl (by decide) ⟨Nat.zero_le _, Nat.zero_le _⟩ d_M_navigate_150 (fun r u9 H locs hp hh _ _ => ?_)
                      rw [hp.2] at hh
                      refine W.eq (g2 := F0 m 153 ls []) rfl ?_
                      refine lv_aload_n hx hb d_M_navigate_153 rfl (lv_at hl 0 rfl) ?_
                      refine jg_M hc hh 21 (by decide) rfl wf_M_130 d_M_navigate_154 ?_
                      exact jx_iret (r := ((jm_enter (jm_nh u url (u 6 (ix (jm_presentOf u n))) (jm_within (u 6 (ix (jm_presentOf u n))) url)) n url 0 (jm_push rep url (u 6 (ix (jm_presentOf u n)))) (jm_nd (jm_nh u url (u 6 (ix (jm_presentOf u n))) (jm_within (u 6 (ix (jm_presentOf u n))) url)) (jm_presentOf u n) (jm_within (u 6 (ix (jm_presentOf u n))) url))) 21 0)) hc hh hQ hlk hr rfl rfl ⟨by unfold jm_navigate jm_navF; rw [if_neg h8, if_neg h19, if_pos h64]; rfl, by unfold jm_navigate jm_navF; rw [if_neg h8, if_neg h19, if_pos h64]; rfl⟩ d_M_navigate_157
                    have e58 : (jm_nd (jm_nh u url (u 6 (ix (jm_presentOf u n))) (jm_within (u 6 (ix (jm_presentOf u n))) url)) (jm_presentOf u n) (jm_within (u 6 (ix (jm_presentOf u n))) url)) = (-1) := by first | (simp [jm_nd, h136]; done) | (simp [jm_nd, eq_true h136]; done)
                    refine W.eq (g2 := F0 m 150 ls [.int (jm_nd (jm_nh u url (u 6 (ix (jm_presentOf u n))) (jm_within (u 6 (ix (jm_presentOf u n))) url)) (jm_presentOf u n) (jm_within (u 6 (ix (jm_presentOf u n))) url)), .int (jm_push rep url (u 6 (ix (jm_presentOf u n)))), .int 0, .int url, .int n, .ref (ad 0)]) (by first | (rw [e58]; done) | (rw [e58]; rfl)) ?_
                    refine J150 _ ?_
                    exact lv_sub hl [0] rfl
                  refine lv_aload_n hx hb d_M_navigate_139 rfl (lv_at hl 0 rfl) ?_
                  refine jg_M hc hh 8 (by decide) rfl wf_M_35 d_M_navigate_140 ?_
                  refine lv_iload hx hb d_M_navigate_143 (lv_at hl 3 rfl) ?_
                  refine jm_ild hc hh 8 (by decide) (by decide) jm_pr_ex d_M_navigate_145 ?_
                  refine lv_goto (tgt := 150) hx hb d_M_navigate_146 rfl ?_
                  have J150 : ∀  (ls : Array Slot), lv_has ls 8 [(0, .ref (ad 0))] → W p l e (jr 7) s m args below meth c H locs 0 0 Q (F0 m 150 ls [.int (jm_nd (jm_nh u url (u 6 (ix (jm_presentOf u n))) (jm_within (u 6 (ix (jm_presentOf u n))) url)) (jm_presentOf u n) (jm_within (u 6 (ix (jm_presentOf u n))) url)), .int (jm_push rep url (u 6 (ix (jm_presentOf u n)))), .int 0, .int url, .int n, .ref (ad 0)]) := by
                    intro  ls hl
                    refine jx_callV [.int n, .int url, .int 0, .int (jm_push rep url (u 6 (ix (jm_presentOf u n)))), .int (jm_nd (jm_nh u url (u 6 (ix (jm_presentOf u n))) (jm_within (u 6 (ix (jm_presentOf u n))) url)) (jm_presentOf u n) (jm_within (u 6 (ix (jm_presentOf u n))) url))] [] hc hh (m_enter l D aK ad cA (jm_nh u url (u 6 (ix (jm_presentOf u n))) (jm_within (u 6 (ix (jm_presentOf u n))) url)) n url 0 (jm_push rep url (u 6 (ix (jm_presentOf u n)))) (jm_nd (jm_nh u url (u 6 (ix (jm_presentOf u n))) (jm_within (u 6 (ix (jm_presentOf u n))) url)) (jm_presentOf u n) (jm_within (u 6 (ix (jm_presentOf u n))) url)) (jm_nh_Sh hS) (jm_shown_ex h19) (jm_btw_ub h8) (jm_nd_jq (jm_nh_Sh hS) jm_pr_ex) (jm_Nw_of hn jm_nh_21)) wy_M_159 ⟨by decide, rfl, rfl⟩ (by decide) rfl hl.1 rfl (by decide) ⟨Nat.zero_le _, Nat.zero_le _⟩ d_M_navigate_150 (fun r u9 H locs hp hh _ _ => ?_)
                    rw [hp.2] at hh
                    refine W.eq (g2 := F0 m 153 ls []) rfl ?_
                    refine lv_aload_n hx hb d_M_navigate_153 rfl (lv_at hl 0 rfl) ?_
                    refine jg_M hc hh 21 (by decide) rfl wf_M_130 d_M_navigate_154 ?_
                    exact jx_iret (r := ((jm_enter (jm_nh u url (u 6 (ix (jm_presentOf u n))) (jm_within (u 6 (ix (jm_presentOf u n))) url)) n url 0 (jm_push rep url (u 6 (ix (jm_presentOf u n)))) (jm_nd (jm_nh u url (u 6 (ix (jm_presentOf u n))) (jm_within (u 6 (ix (jm_presentOf u n))) url)) (jm_presentOf u n) (jm_within (u 6 (ix (jm_presentOf u n))) url))) 21 0)) hc hh hQ hlk hr rfl rfl ⟨by unfold jm_navigate jm_navF; rw [if_neg h8, if_neg h19, if_pos h64]; rfl, by unfold jm_navigate jm_navF; rw [if_neg h8, if_neg h19, if_pos h64]; rfl⟩ d_M_navigate_157
                  have e59 : (jm_nd (jm_nh u url (u 6 (ix (jm_presentOf u n))) (jm_within (u 6 (ix (jm_presentOf u n))) url)) (jm_presentOf u n) (jm_within (u 6 (ix (jm_presentOf u n))) url)) = ((jm_nh u url (u 6 (ix (jm_presentOf u n))) (jm_within (u 6 (ix (jm_presentOf u n))) url)) 8 (ix (jm_presentOf u n))) := by simp [jm_nd, h136]
                  refine W.eq (g2 := F0 m 150 ls [.int (jm_nd (jm_nh u url (u 6 (ix (jm_presentOf u n))) (jm_within (u 6 (ix (jm_presentOf u n))) url)) (jm_presentOf u n) (jm_within (u 6 (ix (jm_presentOf u n))) url)), .int (jm_push rep url (u 6 (ix (jm_presentOf u n)))), .int 0, .int url, .int n, .ref (ad 0)]) (by first | (rw [e59]; done) | (rw [e59]; rfl)) ?_
                  refine J150 _ ?_
                  exact lv_sub hl [0] rfl
                have e60 : (jm_nh u url (u 6 (ix (jm_presentOf u n))) (jm_within (u 6 (ix (jm_presentOf u n))) url)) = (js_up u 24 0 ((u 24 0) + 1)) := by simp [jm_nh, h109, h115]
                refine J128 _ _ _ ?_ ?_
                ·
                  try rw [e60]
                  exact hh
                try rw [e60]
                exact lv_sub hl [1, 2, 3, 4, 6, 0] rfl
              have e61 : (jm_within (u 6 (ix (jm_presentOf u n))) url) = 0 := by first | (simp [jm_within, h64, h72]; done) | (simp [jm_within, eq_true h64, eq_true h72]; done)
              refine W.eq (g2 := F0 m 105 ls [.int (jm_within (u 6 (ix (jm_presentOf u n))) url)]) (by first | (rw [e61]; done) | (rw [e61]; rfl)) ?_
              refine J105 _ _ _ ?_ ?_
              ·
                exact hh
              exact lv_sub hl [1, 2, 3, 4, 5, 0] rfl
            refine lv_iload_n hx hb d_M_navigate_75 rfl (lv_at hl 3 rfl) ?_
            refine jx_callS [.int url] [] hc hh (m_fragment l D aK ad cA u url) wy_M_153 (by decide) rfl hl.1 rfl (by decide) ⟨Nat.zero_le _, Nat.zero_le _⟩ d_M_navigate_76 (fun r u9 H locs hp hh _ _ => ?_)
            rw [hp.2] at hh
            refine W.eq (g2 := F0 m 79 ls [.int (jm_frag url)]) (by rw [hp.1]; rfl) ?_
            refine lv_if_eq (tgt := 104) hx hb d_M_navigate_79 rfl (fun h79 => ?_) (fun h79 => ?_)
            ·
              refine lv_iconst (v := 0) hx hb d_M_navigate_104 (by decide) ?_
              have J105 : ∀  (H : Heap) (locs : List Loc) (ls : Array Slot), jx_H D 22 ad (jm_cell ad cA u) A s.heap H locs → lv_has ls 8 [(0, .ref (ad 0)), (1, .int n), (2, .int url), (4, .int (jm_presentOf u n)), (5, .int (u 6 (ix (jm_presentOf u n)))), (6, .int (jm_push rep url (u 6 (ix (jm_presentOf u n)))))] → W p l e (jr 7) s m args below meth c H locs 0 0 Q (F0 m 105 ls [.int (jm_within (u 6 (ix (jm_presentOf u n))) url)]) := by
                intro  H locs ls hh hl
                refine lv_istore (i := 7) (lv' := [(7, .int (jm_within (u 6 (ix (jm_presentOf u n))) url)), (0, .ref (ad 0)), (1, .int n), (2, .int url), (4, .int (jm_presentOf u n)), (5, .int (u 6 (ix (jm_presentOf u n)))), (6, .int (jm_push rep url (u 6 (ix (jm_presentOf u n)))))]) hx hb d_M_navigate_105 hl (by decide) rfl (fun ls hl => ?_)
                refine lv_iload hx hb d_M_navigate_107 (lv_at hl 0 rfl) ?_
                refine lv_if_eq (tgt := 128) hx hb d_M_navigate_109 rfl (fun h109 => ?_) (fun h109 => ?_)
                ·
                  have J128 : ∀  (H : Heap) (locs : List Loc) (ls : Array Slot), jx_H D 22 ad (jm_cell ad cA (jm_nh u url (u 6 (ix (jm_presentOf u n))) (jm_within (u 6 (ix (jm_presentOf u n))) url))) A s.heap H locs → lv_has ls 8 [(0, .ref (ad 0)), (1, .int n), (2, .int url), (4, .int (jm_presentOf u n)), (6, .int (jm_push rep url (u 6 (ix (jm_presentOf u n))))), (7, .int (jm_within (u 6 (ix (jm_presentOf u n))) url))] → W p l e (jr 7) s m args below meth c H locs 0 0 Q (F0 m 128 ls []) := by
                    intro  H locs ls hh hl
                    refine lv_aload_n hx hb d_M_navigate_128 rfl (lv_at hl 0 rfl) ?_
                    refine lv_iload_n hx hb d_M_navigate_129 rfl (lv_at hl 1 rfl) ?_
                    refine lv_iload_n hx hb d_M_navigate_130 rfl (lv_at hl 2 rfl) ?_
                    refine lv_iconst (v := 0) hx hb d_M_navigate_131 (by decide) ?_
                    refine lv_iload hx hb d_M_navigate_132 (lv_at hl 4 rfl) ?_
                    refine lv_iload hx hb d_M_navigate_134 (lv_at hl 5 rfl) ?_
                    refine lv_if_eq (tgt := 149) hx hb d_M_navigate_136 rfl (fun h136 => ?_) (fun h136 => ?_)
                    ·
                      refine lv_iconst (v := -1) hx hb d_M_navigate_149 (by decide) ?_
                      have J150 : ∀  (ls : Array Slot), lv_has ls 8 [(0, .ref (ad 0))] → W p l e (jr 7) s m args below meth c H locs 0 0 Q (F0 m 150 ls [.int (jm_nd (jm_nh u url (u 6 (ix (jm_presentOf u n))) (jm_within (u 6 (ix (jm_presentOf u n))) url)) (jm_presentOf u n) (jm_within (u 6 (ix (jm_presentOf u n))) url)), .int (jm_push rep url (u 6 (ix (jm_presentOf u n)))), .int 0, .int url, .int n, .ref (ad 0)]) := by
                        intro  ls hl
                        refine jx_callV [.int n, .int url, .int 0, .int (jm_push rep url (u 6 (ix (jm_presentOf u n)))), .int (jm_nd (jm_nh u url (u 6 (ix (jm_presentOf u n))) (jm_within (u 6 (ix (jm_presentOf u n))) url)) (jm_presentOf u n) (jm_within (u 6 (ix (jm_presentOf u n))) url))] [] hc hh (m_enter l D aK ad cA (jm_nh u url (u 6 (ix (jm_presentOf u n))) (jm_within (u 6 (ix (jm_presentOf u n))) url)) n url 0 (jm_push rep url (u 6 (ix (jm_presentOf u n)))) (jm_nd (jm_nh u url (u 6 (ix (jm_presentOf u n))) (jm_within (u 6 (ix (jm_presentOf u n))) url)) (jm_presentOf u n) (jm_within (u 6 (ix (jm_presentOf u n))) url)) (jm_nh_Sh hS) (jm_shown_ex h19) (jm_btw_ub h8) (jm_nd_jq (jm_nh_Sh hS) jm_pr_ex) (jm_Nw_of hn jm_nh_21)) wy_M_159 ⟨by decide, rfl, rfl⟩ (by decide) rfl hl.1 rfl (by decide) ⟨Nat.zero_le _, Nat.zero_le _⟩ d_M_navigate_150 (fun r u9 H locs hp hh _ _ => ?_)
                        rw [hp.2] at hh
                        refine W.eq (g2 := F0 m 153 ls []) rfl ?_
                        refine lv_aload_n hx hb d_M_navigate_153 rfl (lv_at hl 0 rfl) ?_
                        refine jg_M hc hh 21 (by decide) rfl wf_M_130 d_M_navigate_154 ?_
                        exact jx_iret (r := ((jm_enter (jm_nh u url (u 6 (ix (jm_presentOf u n))) (jm_within (u 6 (ix (jm_presentOf u n))) url)) n url 0 (jm_push rep url (u 6 (ix (jm_presentOf u n)))) (jm_nd (jm_nh u url (u 6 (ix (jm_presentOf u n))) (jm_within (u 6 (ix (jm_presentOf u n))) url)) (jm_presentOf u n) (jm_within (u 6 (ix (jm_presentOf u n))) url))) 21 0)) hc hh hQ hlk hr rfl rfl ⟨by unfold jm_navigate jm_navF; rw [if_neg h8, if_neg h19, if_pos h64]; rfl, by unfold jm_navigate jm_navF; rw [if_neg h8, if_neg h19, if_pos h64]; rfl⟩ d_M_navigate_157
                      have e62 : (jm_nd (jm_nh u url (u 6 (ix (jm_presentOf u n))) (jm_within (u 6 (ix (jm_presentOf u n))) url)) (jm_presentOf u n) (jm_within (u 6 (ix (jm_presentOf u n))) url)) = (-1) := by first | (simp [jm_nd, h136]; done) | (simp [jm_nd, eq_true h136]; done)
                      refine W.eq (g2 := F0 m 150 ls [.int (jm_nd (jm_nh u url (u 6 (ix (jm_presentOf u n))) (jm_within (u 6 (ix (jm_presentOf u n))) url)) (jm_presentOf u n) (jm_within (u 6 (ix (jm_presentOf u n))) url)), .int (jm_push rep url (u 6 (ix (jm_presentOf u n)))), .int 0, .int url, .int n, .ref (ad 0)]) (by first | (rw [e62]; done) | (rw [e62]; rfl)) ?_
                      refine J150 _ ?_
                      exact lv_sub hl [0] rfl
                    refine lv_aload_n hx hb d_M_navigate_139 rfl (lv_at hl 0 rfl) ?_
                    refine jg_M hc hh 8 (by decide) rfl wf_M_35 d_M_navigate_140 ?_
                    refine lv_iload hx hb d_M_navigate_143 (lv_at hl 3 rfl) ?_
                    refine jm_ild hc hh 8 (by decide) (by decide) jm_pr_ex d_M_navigate_145 ?_
                    refine lv_goto (tgt := 150) hx hb d_M_navigate_146 rfl ?_
                    have J150 : ∀  (ls : Array Slot), lv_has ls 8 [(0, .ref (ad 0))] → W p l e (jr 7) s m args below meth c H locs 0 0 Q (F0 m 150 ls [.int (jm_nd (jm_nh u url (u 6 (ix (jm_presentOf u n))) (jm_within (u 6 (ix (jm_presentOf u n))) url)) (jm_presentOf u n) (jm_within (u 6 (ix (jm_presentOf u n))) url)), .int (jm_push rep url (u 6 (ix (jm_presentOf u n)))), .int 0, .int url, .int n, .ref (ad 0)]) := by
                      intro  ls hl
                      refine jx_callV [.int n, .int url, .int 0, .int (jm_push rep url (u 6 (ix (jm_presentOf u n)))), .int (jm_nd (jm_nh u url (u 6 (ix (jm_presentOf u n))) (jm_within (u 6 (ix (jm_presentOf u n))) url)) (jm_presentOf u n) (jm_within (u 6 (ix (jm_presentOf u n))) url))] [] hc hh (m_enter l D aK ad cA (jm_nh u url (u 6 (ix (jm_presentOf u n))) (jm_within (u 6 (ix (jm_presentOf u n))) url)) n url 0 (jm_push rep url (u 6 (ix (jm_presentOf u n)))) (jm_nd (jm_nh u url (u 6 (ix (jm_presentOf u n))) (jm_within (u 6 (ix (jm_presentOf u n))) url)) (jm_presentOf u n) (jm_within (u 6 (ix (jm_presentOf u n))) url)) (jm_nh_Sh hS) (jm_shown_ex h19) (jm_btw_ub h8) (jm_nd_jq (jm_nh_Sh hS) jm_pr_ex) (jm_Nw_of hn jm_nh_21)) wy_M_159 ⟨by decide, rfl, rfl⟩ (by decide) rfl hl.1 rfl (by decide) ⟨Nat.zero_le _, Nat.zero_le _⟩ d_M_navigate_150 (fun r u9 H locs hp hh _ _ => ?_)
                      rw [hp.2] at hh
                      refine W.eq (g2 := F0 m 153 ls []) rfl ?_
                      refine lv_aload_n hx hb d_M_navigate_153 rfl (lv_at hl 0 rfl) ?_
                      refine jg_M hc hh 21 (by decide) rfl wf_M_130 d_M_navigate_154 ?_
                      exact jx_iret (r := ((jm_enter (jm_nh u url (u 6 (ix (jm_presentOf u n))) (jm_within (u 6 (ix (jm_presentOf u n))) url)) n url 0 (jm_push rep url (u 6 (ix (jm_presentOf u n)))) (jm_nd (jm_nh u url (u 6 (ix (jm_presentOf u n))) (jm_within (u 6 (ix (jm_presentOf u n))) url)) (jm_presentOf u n) (jm_within (u 6 (ix (jm_presentOf u n))) url))) 21 0)) hc hh hQ hlk hr rfl rfl ⟨by unfold jm_navigate jm_navF; rw [if_neg h8, if_neg h19, if_pos h64]; rfl, by unfold jm_navigate jm_navF; rw [if_neg h8, if_neg h19, if_pos h64]; rfl⟩ d_M_navigate_157
                    have e63 : (jm_nd (jm_nh u url (u 6 (ix (jm_presentOf u n))) (jm_within (u 6 (ix (jm_presentOf u n))) url)) (jm_presentOf u n) (jm_within (u 6 (ix (jm_presentOf u n))) url)) = ((jm_nh u url (u 6 (ix (jm_presentOf u n))) (jm_within (u 6 (ix (jm_presentOf u n))) url)) 8 (ix (jm_presentOf u n))) := by simp [jm_nd, h136]
                    refine W.eq (g2 := F0 m 150 ls [.int (jm_nd (jm_nh u url (u 6 (ix (jm_presentOf u n))) (jm_within (u 6 (ix (jm_presentOf u n))) url)) (jm_presentOf u n) (jm_within (u 6 (ix (jm_presentOf u n))) url)), .int (jm_push rep url (u 6 (ix (jm_presentOf u n)))), .int 0, .int url, .int n, .ref (ad 0)]) (by first | (rw [e63]; done) | (rw [e63]; rfl)) ?_
                    refine J150 _ ?_
                    exact lv_sub hl [0] rfl
                  have e64 : (jm_nh u url (u 6 (ix (jm_presentOf u n))) (jm_within (u 6 (ix (jm_presentOf u n))) url)) = u := by first | (simp [jm_nh, h109]; done) | (simp [jm_nh, eq_true h109]; done)
                  refine J128 _ _ _ ?_ ?_
                  ·
                    try rw [e64]
                    exact hh
                  try rw [e64]
                  exact lv_sub hl [1, 2, 3, 4, 6, 0] rfl
                refine lv_iload_n hx hb d_M_navigate_112 rfl (lv_at hl 3 rfl) ?_
                refine lv_iload hx hb d_M_navigate_113 (lv_at hl 5 rfl) ?_
                refine lv_icmp_eq (tgt := 128) hx hb d_M_navigate_115 rfl (fun h115 => ?_) (fun h115 => ?_)
                ·
                  have J128 : ∀  (H : Heap) (locs : List Loc) (ls : Array Slot), jx_H D 22 ad (jm_cell ad cA (jm_nh u url (u 6 (ix (jm_presentOf u n))) (jm_within (u 6 (ix (jm_presentOf u n))) url))) A s.heap H locs → lv_has ls 8 [(0, .ref (ad 0)), (1, .int n), (2, .int url), (4, .int (jm_presentOf u n)), (6, .int (jm_push rep url (u 6 (ix (jm_presentOf u n))))), (7, .int (jm_within (u 6 (ix (jm_presentOf u n))) url))] → W p l e (jr 7) s m args below meth c H locs 0 0 Q (F0 m 128 ls []) := by
                    intro  H locs ls hh hl
                    refine lv_aload_n hx hb d_M_navigate_128 rfl (lv_at hl 0 rfl) ?_
                    refine lv_iload_n hx hb d_M_navigate_129 rfl (lv_at hl 1 rfl) ?_
                    refine lv_iload_n hx hb d_M_navigate_130 rfl (lv_at hl 2 rfl) ?_
                    refine lv_iconst (v := 0) hx hb d_M_navigate_131 (by decide) ?_
                    refine lv_iload hx hb d_M_navigate_132 (lv_at hl 4 rfl) ?_
                    refine lv_iload hx hb d_M_navigate_134 (lv_at hl 5 rfl) ?_
                    refine lv_if_eq (tgt := 149) hx hb d_M_navigate_136 rfl (fun h136 => ?_) (fun h136 => ?_)
                    ·
                      refine lv_iconst (v := -1) hx hb d_M_navigate_149 (by decide) ?_
                      have J150 : ∀  (ls : Array Slot), lv_has ls 8 [(0, .ref (ad 0))] → W p l e (jr 7) s m args below meth c H locs 0 0 Q (F0 m 150 ls [.int (jm_nd (jm_nh u url (u 6 (ix (jm_presentOf u n))) (jm_within (u 6 (ix (jm_presentOf u n))) url)) (jm_presentOf u n) (jm_within (u 6 (ix (jm_presentOf u n))) url)), .int (jm_push rep url (u 6 (ix (jm_presentOf u n)))), .int 0, .int url, .int n, .ref (ad 0)]) := by
                        intro  ls hl
                        refine jx_callV [.int n, .int url, .int 0, .int (jm_push rep url (u 6 (ix (jm_presentOf u n)))), .int (jm_nd (jm_nh u url (u 6 (ix (jm_presentOf u n))) (jm_within (u 6 (ix (jm_presentOf u n))) url)) (jm_presentOf u n) (jm_within (u 6 (ix (jm_presentOf u n))) url))] [] hc hh (m_enter l D aK ad cA (jm_nh u url (u 6 (ix (jm_presentOf u n))) (jm_within (u 6 (ix (jm_presentOf u n))) url)) n url 0 (jm_push rep url (u 6 (ix (jm_presentOf u n)))) (jm_nd (jm_nh u url (u 6 (ix (jm_presentOf u n))) (jm_within (u 6 (ix (jm_presentOf u n))) url)) (jm_presentOf u n) (jm_within (u 6 (ix (jm_presentOf u n))) url)) (jm_nh_Sh hS) (jm_shown_ex h19) (jm_btw_ub h8) (jm_nd_jq (jm_nh_Sh hS) jm_pr_ex) (jm_Nw_of hn jm_nh_21)) wy_M_159 ⟨by decide, rfl, rfl⟩ (by decide) rfl hl.1 rfl (by decide) ⟨Nat.zero_le _, Nat.zero_le _⟩ d_M_navigate_150 (fun r u9 H locs hp hh _ _ => ?_)
                        rw [hp.2] at hh
                        refine W.eq (g2 := F0 m 153 ls []) rfl ?_
                        refine lv_aload_n hx hb d_M_navigate_153 rfl (lv_at hl 0 rfl) ?_
                        refine jg_M hc hh 21 (by decide) rfl wf_M_130 d_M_navigate_154 ?_
                        exact jx_iret (r := ((jm_enter (jm_nh u url (u 6 (ix (jm_presentOf u n))) (jm_within (u 6 (ix (jm_presentOf u n))) url)) n url 0 (jm_push rep url (u 6 (ix (jm_presentOf u n)))) (jm_nd (jm_nh u url (u 6 (ix (jm_presentOf u n))) (jm_within (u 6 (ix (jm_presentOf u n))) url)) (jm_presentOf u n) (jm_within (u 6 (ix (jm_presentOf u n))) url))) 21 0)) hc hh hQ hlk hr rfl rfl ⟨by unfold jm_navigate jm_navF; rw [if_neg h8, if_neg h19, if_pos h64]; rfl, by unfold jm_navigate jm_navF; rw [if_neg h8, if_neg h19, if_pos h64]; rfl⟩ d_M_navigate_157
                      have e65 : (jm_nd (jm_nh u url (u 6 (ix (jm_presentOf u n))) (jm_within (u 6 (ix (jm_presentOf u n))) url)) (jm_presentOf u n) (jm_within (u 6 (ix (jm_presentOf u n))) url)) = (-1) := by first | (simp [jm_nd, h136]; done) | (simp [jm_nd, eq_true h136]; done)
                      refine W.eq (g2 := F0 m 150 ls [.int (jm_nd (jm_nh u url (u 6 (ix (jm_presentOf u n))) (jm_within (u 6 (ix (jm_presentOf u n))) url)) (jm_presentOf u n) (jm_within (u 6 (ix (jm_presentOf u n))) url)), .int (jm_push rep url (u 6 (ix (jm_presentOf u n)))), .int 0, .int url, .int n, .ref (ad 0)]) (by first | (rw [e65]; done) | (rw [e65]; rfl)) ?_
                      refine J150 _ ?_
                      exact lv_sub hl [0] rfl
                    refine lv_aload_n hx hb d_M_navigate_139 rfl (lv_at hl 0 rfl) ?_
                    refine jg_M hc hh 8 (by decide) rfl wf_M_35 d_M_navigate_140 ?_
                    refine lv_iload hx hb d_M_navigate_143 (lv_at hl 3 rfl) ?_
                    refine jm_ild hc hh 8 (by decide) (by decide) jm_pr_ex d_M_navigate_145 ?_
                    refine lv_goto (tgt := 150) hx hb d_M_navigate_146 rfl ?_
                    have J150 : ∀  (ls : Array Slot), lv_has ls 8 [(0, .ref (ad 0))] → W p l e (jr 7) s m args below meth c H locs 0 0 Q (F0 m 150 ls [.int (jm_nd (jm_nh u url (u 6 (ix (jm_presentOf u n))) (jm_within (u 6 (ix (jm_presentOf u n))) url)) (jm_presentOf u n) (jm_within (u 6 (ix (jm_presentOf u n))) url)), .int (jm_push rep url (u 6 (ix (jm_presentOf u n)))), .int 0, .int url, .int n, .ref (ad 0)]) := by
                      intro  ls hl
                      refine jx_callV [.int n, .int url, .int 0, .int (jm_push rep url (u 6 (ix (jm_presentOf u n)))), .int (jm_nd (jm_nh u url (u 6 (ix (jm_presentOf u n))) (jm_within (u 6 (ix (jm_presentOf u n))) url)) (jm_presentOf u n) (jm_within (u 6 (ix (jm_presentOf u n))) url))] [] hc hh (m_enter l D aK ad cA (jm_nh u url (u 6 (ix (jm_presentOf u n))) (jm_within (u 6 (ix (jm_presentOf u n))) url)) n url 0 (jm_push rep url (u 6 (ix (jm_presentOf u n)))) (jm_nd (jm_nh u url (u 6 (ix (jm_presentOf u n))) (jm_within (u 6 (ix (jm_presentOf u n))) url)) (jm_presentOf u n) (jm_within (u 6 (ix (jm_presentOf u n))) url)) (jm_nh_Sh hS) (jm_shown_ex h19) (jm_btw_ub h8) (jm_nd_jq (jm_nh_Sh hS) jm_pr_ex) (jm_Nw_of hn jm_nh_21)) wy_M_159 ⟨by decide, rfl, rfl⟩ (by decide) rfl hl.1 rfl (by decide) ⟨Nat.zero_le _, Nat.zero_le _⟩ d_M_navigate_150 (fun r u9 H locs hp hh _ _ => ?_)
                      rw [hp.2] at hh
                      refine W.eq (g2 := F0 m 153 ls []) rfl ?_
                      refine lv_aload_n hx hb d_M_navigate_153 rfl (lv_at hl 0 rfl) ?_
                      refine jg_M hc hh 21 (by decide) rfl wf_M_130 d_M_navigate_154 ?_
                      exact jx_iret (r := ((jm_enter (jm_nh u url (u 6 (ix (jm_presentOf u n))) (jm_within (u 6 (ix (jm_presentOf u n))) url)) n url 0 (jm_push rep url (u 6 (ix (jm_presentOf u n)))) (jm_nd (jm_nh u url (u 6 (ix (jm_presentOf u n))) (jm_within (u 6 (ix (jm_presentOf u n))) url)) (jm_presentOf u n) (jm_within (u 6 (ix (jm_presentOf u n))) url))) 21 0)) hc hh hQ hlk hr rfl rfl ⟨by unfold jm_navigate jm_navF; rw [if_neg h8, if_neg h19, if_pos h64]; rfl, by unfold jm_navigate jm_navF; rw [if_neg h8, if_neg h19, if_pos h64]; rfl⟩ d_M_navigate_157
                    have e66 : (jm_nd (jm_nh u url (u 6 (ix (jm_presentOf u n))) (jm_within (u 6 (ix (jm_presentOf u n))) url)) (jm_presentOf u n) (jm_within (u 6 (ix (jm_presentOf u n))) url)) = ((jm_nh u url (u 6 (ix (jm_presentOf u n))) (jm_within (u 6 (ix (jm_presentOf u n))) url)) 8 (ix (jm_presentOf u n))) := by simp [jm_nd, h136]
                    refine W.eq (g2 := F0 m 150 ls [.int (jm_nd (jm_nh u url (u 6 (ix (jm_presentOf u n))) (jm_within (u 6 (ix (jm_presentOf u n))) url)) (jm_presentOf u n) (jm_within (u 6 (ix (jm_presentOf u n))) url)), .int (jm_push rep url (u 6 (ix (jm_presentOf u n)))), .int 0, .int url, .int n, .ref (ad 0)]) (by first | (rw [e66]; done) | (rw [e66]; rfl)) ?_
                    refine J150 _ ?_
                    exact lv_sub hl [0] rfl
                  have e67 : (jm_nh u url (u 6 (ix (jm_presentOf u n))) (jm_within (u 6 (ix (jm_presentOf u n))) url)) = u := by first | (simp [jm_nh, h109, h115]; done) | (simp [jm_nh, h109, eq_true h115]; done)
                  refine J128 _ _ _ ?_ ?_
                  ·
                    try rw [e67]
                    exact hh
                  try rw [e67]
                  exact lv_sub hl [1, 2, 3, 4, 6, 0] rfl
                refine lv_aload_n hx hb d_M_navigate_118 rfl (lv_at hl 1 rfl) ?_
                refine lv_dup hx hb d_M_navigate_119 rfl ?_
                refine jg_M hc hh 24 (by decide) rfl wf_M_156 d_M_navigate_120 ?_
                refine lv_iconst (v := 1) hx hb d_M_navigate_123 (by decide) ?_
                refine lv_iadd hx hb d_M_navigate_124 ?_
                refine jpm_24 hc hh wf_M_156 d_M_navigate_125 (fun H locs hh => ?_)
                have J128 : ∀  (H : Heap) (locs : List Loc) (ls : Array Slot), jx_H D 22 ad (jm_cell ad cA (jm_nh u url (u 6 (ix (jm_presentOf u n))) (jm_within (u 6 (ix (jm_presentOf u n))) url))) A s.heap H locs → lv_has ls 8 [(0, .ref (ad 0)), (1, .int n), (2, .int url), (4, .int (jm_presentOf u n)), (6, .int (jm_push rep url (u 6 (ix (jm_presentOf u n))))), (7, .int (jm_within (u 6 (ix (jm_presentOf u n))) url))] → W p l e (jr 7) s m args below meth c H locs 0 0 Q (F0 m 128 ls []) := by
                  intro  H locs ls hh hl
                  refine lv_aload_n hx hb d_M_navigate_128 rfl (lv_at hl 0 rfl) ?_
                  refine lv_iload_n hx hb d_M_navigate_129 rfl (lv_at hl 1 rfl) ?_
                  refine lv_iload_n hx hb d_M_navigate_130 rfl (lv_at hl 2 rfl) ?_
                  refine lv_iconst (v := 0) hx hb d_M_navigate_131 (by decide) ?_
                  refine lv_iload hx hb d_M_navigate_132 (lv_at hl 4 rfl) ?_
                  refine lv_iload hx hb d_M_navigate_134 (lv_at hl 5 rfl) ?_
                  refine lv_if_eq (tgt := 149) hx hb d_M_navigate_136 rfl (fun h136 => ?_) (fun h136 => ?_)
                  ·
                    refine lv_iconst (v := -1) hx hb d_M_navigate_149 (by decide) ?_
                    have J150 : ∀  (ls : Array Slot), lv_has ls 8 [(0, .ref (ad 0))] → W p l e (jr 7) s m args below meth c H locs 0 0 Q (F0 m 150 ls [.int (jm_nd (jm_nh u url (u 6 (ix (jm_presentOf u n))) (jm_within (u 6 (ix (jm_presentOf u n))) url)) (jm_presentOf u n) (jm_within (u 6 (ix (jm_presentOf u n))) url)), .int (jm_push rep url (u 6 (ix (jm_presentOf u n)))), .int 0, .int url, .int n, .ref (ad 0)]) := by
                      intro  ls hl
                      refine jx_callV [.int n, .int url, .int 0, .int (jm_push rep url (u 6 (ix (jm_presentOf u n)))), .int (jm_nd (jm_nh u url (u 6 (ix (jm_presentOf u n))) (jm_within (u 6 (ix (jm_presentOf u n))) url)) (jm_presentOf u n) (jm_within (u 6 (ix (jm_presentOf u n))) url))] [] hc hh (m_enter l D aK ad cA (jm_nh u url (u 6 (ix (jm_presentOf u n))) (jm_within (u 6 (ix (jm_presentOf u n))) url)) n url 0 (jm_push rep url (u 6 (ix (jm_presentOf u n)))) (jm_nd (jm_nh u url (u 6 (ix (jm_presentOf u n))) (jm_within (u 6 (ix (jm_presentOf u n))) url)) (jm_presentOf u n) (jm_within (u 6 (ix (jm_presentOf u n))) url)) (jm_nh_Sh hS) (jm_shown_ex h19) (jm_btw_ub h8) (jm_nd_jq (jm_nh_Sh hS) jm_pr_ex) (jm_Nw_of hn jm_nh_21)) wy_M_159 ⟨by decide, rfl, rfl⟩ (by decide) rfl hl.1 rfl (by decide) ⟨Nat.zero_le _, Nat.zero_le _⟩ d_M_navigate_150 (fun r u9 H locs hp hh _ _ => ?_)
                      rw [hp.2] at hh
                      refine W.eq (g2 := F0 m 153 ls []) rfl ?_
                      refine lv_aload_n hx hb d_M_navigate_153 rfl (lv_at hl 0 rfl) ?_
                      refine jg_M hc hh 21 (by decide) rfl wf_M_130 d_M_navigate_154 ?_
                      exact jx_iret (r := ((jm_enter (jm_nh u url (u 6 (ix (jm_presentOf u n))) (jm_within (u 6 (ix (jm_presentOf u n))) url)) n url 0 (jm_push rep url (u 6 (ix (jm_presentOf u n)))) (jm_nd (jm_nh u url (u 6 (ix (jm_presentOf u n))) (jm_within (u 6 (ix (jm_presentOf u n))) url)) (jm_presentOf u n) (jm_within (u 6 (ix (jm_presentOf u n))) url))) 21 0)) hc hh hQ hlk hr rfl rfl ⟨by unfold jm_navigate jm_navF; rw [if_neg h8, if_neg h19, if_pos h64]; rfl, by unfold jm_navigate jm_navF; rw [if_neg h8, if_neg h19, if_pos h64]; rfl⟩ d_M_navigate_157
                    have e68 : (jm_nd (jm_nh u url (u 6 (ix (jm_presentOf u n))) (jm_within (u 6 (ix (jm_presentOf u n))) url)) (jm_presentOf u n) (jm_within (u 6 (ix (jm_presentOf u n))) url)) = (-1) := by first | (simp [jm_nd, h136]; done) | (simp [jm_nd, eq_true h136]; done)
                    refine W.eq (g2 := F0 m 150 ls [.int (jm_nd (jm_nh u url (u 6 (ix (jm_presentOf u n))) (jm_within (u 6 (ix (jm_presentOf u n))) url)) (jm_presentOf u n) (jm_within (u 6 (ix (jm_presentOf u n))) url)), .int (jm_push rep url (u 6 (ix (jm_presentOf u n)))), .int 0, .int url, .int n, .ref (ad 0)]) (by first | (rw [e68]; done) | (rw [e68]; rfl)) ?_
                    refine J150 _ ?_
                    exact lv_sub hl [0] rfl
                  refine lv_aload_n hx hb d_M_navigate_139 rfl (lv_at hl 0 rfl) ?_
                  refine jg_M hc hh 8 (by decide) rfl wf_M_35 d_M_navigate_140 ?_
                  refine lv_iload hx hb d_M_navigate_143 (lv_at hl 3 rfl) ?_
                  refine jm_ild hc hh 8 (by decide) (by decide) jm_pr_ex d_M_navigate_145 ?_
                  refine lv_goto (tgt := 150) hx hb d_M_navigate_146 rfl ?_
                  have J150 : ∀  (ls : Array Slot), lv_has ls 8 [(0, .ref (ad 0))] → W p l e (jr 7) s m args below meth c H locs 0 0 Q (F0 m 150 ls [.int (jm_nd (jm_nh u url (u 6 (ix (jm_presentOf u n))) (jm_within (u 6 (ix (jm_presentOf u n))) url)) (jm_presentOf u n) (jm_within (u 6 (ix (jm_presentOf u n))) url)), .int (jm_push rep url (u 6 (ix (jm_presentOf u n)))), .int 0, .int url, .int n, .ref (ad 0)]) := by
                    intro  ls hl
                    refine jx_callV [.int n, .int url, .int 0, .int (jm_push rep url (u 6 (ix (jm_presentOf u n)))), .int (jm_nd (jm_nh u url (u 6 (ix (jm_presentOf u n))) (jm_within (u 6 (ix (jm_presentOf u n))) url)) (jm_presentOf u n) (jm_within (u 6 (ix (jm_presentOf u n))) url))] [] hc hh (m_enter l D aK ad cA (jm_nh u url (u 6 (ix (jm_presentOf u n))) (jm_within (u 6 (ix (jm_presentOf u n))) url)) n url 0 (jm_push rep url (u 6 (ix (jm_presentOf u n)))) (jm_nd (jm_nh u url (u 6 (ix (jm_presentOf u n))) (jm_within (u 6 (ix (jm_presentOf u n))) url)) (jm_presentOf u n) (jm_within (u 6 (ix (jm_presentOf u n))) url)) (jm_nh_Sh hS) (jm_shown_ex h19) (jm_btw_ub h8) (jm_nd_jq (jm_nh_Sh hS) jm_pr_ex) (jm_Nw_of hn jm_nh_21)) wy_M_159 ⟨by decide, rfl, rfl⟩ (by decide) rfl hl.1 rfl (by decide) ⟨Nat.zero_le _, Nat.zero_le _⟩ d_M_navigate_150 (fun r u9 H locs hp hh _ _ => ?_)
                    rw [hp.2] at hh
                    refine W.eq (g2 := F0 m 153 ls []) rfl ?_
                    refine lv_aload_n hx hb d_M_navigate_153 rfl (lv_at hl 0 rfl) ?_
                    refine jg_M hc hh 21 (by decide) rfl wf_M_130 d_M_navigate_154 ?_
                    exact jx_iret (r := ((jm_enter (jm_nh u url (u 6 (ix (jm_presentOf u n))) (jm_within (u 6 (ix (jm_presentOf u n))) url)) n url 0 (jm_push rep url (u 6 (ix (jm_presentOf u n)))) (jm_nd (jm_nh u url (u 6 (ix (jm_presentOf u n))) (jm_within (u 6 (ix (jm_presentOf u n))) url)) (jm_presentOf u n) (jm_within (u 6 (ix (jm_presentOf u n))) url))) 21 0)) hc hh hQ hlk hr rfl rfl ⟨by unfold jm_navigate jm_navF; rw [if_neg h8, if_neg h19, if_pos h64]; rfl, by unfold jm_navigate jm_navF; rw [if_neg h8, if_neg h19, if_pos h64]; rfl⟩ d_M_navigate_157
                  have e69 : (jm_nd (jm_nh u url (u 6 (ix (jm_presentOf u n))) (jm_within (u 6 (ix (jm_presentOf u n))) url)) (jm_presentOf u n) (jm_within (u 6 (ix (jm_presentOf u n))) url)) = ((jm_nh u url (u 6 (ix (jm_presentOf u n))) (jm_within (u 6 (ix (jm_presentOf u n))) url)) 8 (ix (jm_presentOf u n))) := by simp [jm_nd, h136]
                  refine W.eq (g2 := F0 m 150 ls [.int (jm_nd (jm_nh u url (u 6 (ix (jm_presentOf u n))) (jm_within (u 6 (ix (jm_presentOf u n))) url)) (jm_presentOf u n) (jm_within (u 6 (ix (jm_presentOf u n))) url)), .int (jm_push rep url (u 6 (ix (jm_presentOf u n)))), .int 0, .int url, .int n, .ref (ad 0)]) (by first | (rw [e69]; done) | (rw [e69]; rfl)) ?_
                  refine J150 _ ?_
                  exact lv_sub hl [0] rfl
                have e70 : (jm_nh u url (u 6 (ix (jm_presentOf u n))) (jm_within (u 6 (ix (jm_presentOf u n))) url)) = (js_up u 24 0 ((u 24 0) + 1)) := by simp [jm_nh, h109, h115]
                refine J128 _ _ _ ?_ ?_
                ·
                  try rw [e70]
                  exact hh
                try rw [e70]
                exact lv_sub hl [1, 2, 3, 4, 6, 0] rfl
              have e71 : (jm_within (u 6 (ix (jm_presentOf u n))) url) = 0 := by first | (simp [jm_within, h64, h72, h79]; done) | (simp [jm_within, eq_true h64, h72, eq_true h79]; done)
              refine W.eq (g2 := F0 m 105 ls [.int (jm_within (u 6 (ix (jm_presentOf u n))) url)]) (by first | (rw [e71]; done) | (rw [e71]; rfl)) ?_
              refine J105 _ _ _ ?_ ?_
              ·
                exact hh
              exact lv_sub hl [1, 2, 3, 4, 5, 0] rfl
            refine lv_iload hx hb d_M_navigate_82 (lv_at hl 5 rfl) ?_
            refine lv_iconst (v := -1) hx hb d_M_navigate_84 (by decide) ?_
            refine lv_icmp_eq (tgt := 104) hx hb d_M_navigate_85 rfl (fun h85 => ?_) (fun h85 => ?_)
            ·
              refine lv_iconst (v := 0) hx hb d_M_navigate_104 (by decide) ?_
              have J105 : ∀  (H : Heap) (locs : List Loc) (ls : Array Slot), jx_H D 22 ad (jm_cell ad cA u) A s.heap H locs → lv_has ls 8 [(0, .ref (ad 0)), (1, .int n), (2, .int url), (4, .int (jm_presentOf u n)), (5, .int (u 6 (ix (jm_presentOf u n)))), (6, .int (jm_push rep url (u 6 (ix (jm_presentOf u n)))))] → W p l e (jr 7) s m args below meth c H locs 0 0 Q (F0 m 105 ls [.int (jm_within (u 6 (ix (jm_presentOf u n))) url)]) := by
                intro  H locs ls hh hl
                refine lv_istore (i := 7) (lv' := [(7, .int (jm_within (u 6 (ix (jm_presentOf u n))) url)), (0, .ref (ad 0)), (1, .int n), (2, .int url), (4, .int (jm_presentOf u n)), (5, .int (u 6 (ix (jm_presentOf u n)))), (6, .int (jm_push rep url (u 6 (ix (jm_presentOf u n)))))]) hx hb d_M_navigate_105 hl (by decide) rfl (fun ls hl => ?_)
                refine lv_iload hx hb d_M_navigate_107 (lv_at hl 0 rfl) ?_
                refine lv_if_eq (tgt := 128) hx hb d_M_navigate_109 rfl (fun h109 => ?_) (fun h109 => ?_)
                ·
                  have J128 : ∀  (H : Heap) (locs : List Loc) (ls : Array Slot), jx_H D 22 ad (jm_cell ad cA (jm_nh u url (u 6 (ix (jm_presentOf u n))) (jm_within (u 6 (ix (jm_presentOf u n))) url))) A s.heap H locs → lv_has ls 8 [(0, .ref (ad 0)), (1, .int n), (2, .int url), (4, .int (jm_presentOf u n)), (6, .int (jm_push rep url (u 6 (ix (jm_presentOf u n))))), (7, .int (jm_within (u 6 (ix (jm_presentOf u n))) url))] → W p l e (jr 7) s m args below meth c H locs 0 0 Q (F0 m 128 ls []) := by
                    intro  H locs ls hh hl
                    refine lv_aload_n hx hb d_M_navigate_128 rfl (lv_at hl 0 rfl) ?_
                    refine lv_iload_n hx hb d_M_navigate_129 rfl (lv_at hl 1 rfl) ?_
                    refine lv_iload_n hx hb d_M_navigate_130 rfl (lv_at hl 2 rfl) ?_
                    refine lv_iconst (v := 0) hx hb d_M_navigate_131 (by decide) ?_
                    refine lv_iload hx hb d_M_navigate_132 (lv_at hl 4 rfl) ?_
                    refine lv_iload hx hb d_M_navigate_134 (lv_at hl 5 rfl) ?_
                    refine lv_if_eq (tgt := 149) hx hb d_M_navigate_136 rfl (fun h136 => ?_) (fun h136 => ?_)
                    ·
                      refine lv_iconst (v := -1) hx hb d_M_navigate_149 (by decide) ?_
                      have J150 : ∀  (ls : Array Slot), lv_has ls 8 [(0, .ref (ad 0))] → W p l e (jr 7) s m args below meth c H locs 0 0 Q (F0 m 150 ls [.int (jm_nd (jm_nh u url (u 6 (ix (jm_presentOf u n))) (jm_within (u 6 (ix (jm_presentOf u n))) url)) (jm_presentOf u n) (jm_within (u 6 (ix (jm_presentOf u n))) url)), .int (jm_push rep url (u 6 (ix (jm_presentOf u n)))), .int 0, .int url, .int n, .ref (ad 0)]) := by
                        intro  ls hl
                        refine jx_callV [.int n, .int url, .int 0, .int (jm_push rep url (u 6 (ix (jm_presentOf u n)))), .int (jm_nd (jm_nh u url (u 6 (ix (jm_presentOf u n))) (jm_within (u 6 (ix (jm_presentOf u n))) url)) (jm_presentOf u n) (jm_within (u 6 (ix (jm_presentOf u n))) url))] [] hc hh (m_enter l D aK ad cA (jm_nh u url (u 6 (ix (jm_presentOf u n))) (jm_within (u 6 (ix (jm_presentOf u n))) url)) n url 0 (jm_push rep url (u 6 (ix (jm_presentOf u n)))) (jm_nd (jm_nh u url (u 6 (ix (jm_presentOf u n))) (jm_within (u 6 (ix (jm_presentOf u n))) url)) (jm_presentOf u n) (jm_within (u 6 (ix (jm_presentOf u n))) url)) (jm_nh_Sh hS) (jm_shown_ex h19) (jm_btw_ub h8) (jm_nd_jq (jm_nh_Sh hS) jm_pr_ex) (jm_Nw_of hn jm_nh_21)) wy_M_159 ⟨by decide, rfl, rfl⟩ (by decide) rfl hl.1 rfl (by decide) ⟨Nat.zero_le _, Nat.zero_le _⟩ d_M_navigate_150 (fun r u9 H locs hp hh _ _ => ?_)
                        rw [hp.2] at hh
                        refine W.eq (g2 := F0 m 153 ls []) rfl ?_
                        refine lv_aload_n hx hb d_M_navigate_153 rfl (lv_at hl 0 rfl) ?_
                        refine jg_M hc hh 21 (by decide) rfl wf_M_130 d_M_navigate_154 ?_
                        exact jx_iret (r := ((jm_enter (jm_nh u url (u 6 (ix (jm_presentOf u n))) (jm_within (u 6 (ix (jm_presentOf u n))) url)) n url 0 (jm_push rep url (u 6 (ix (jm_presentOf u n)))) (jm_nd (jm_nh u url (u 6 (ix (jm_presentOf u n))) (jm_within (u 6 (ix (jm_presentOf u n))) url)) (jm_presentOf u n) (jm_within (u 6 (ix (jm_presentOf u n))) url))) 21 0)) hc hh hQ hlk hr rfl rfl ⟨by unfold jm_navigate jm_navF; rw [if_neg h8, if_neg h19, if_pos h64]; rfl, by unfold jm_navigate jm_navF; rw [if_neg h8, if_neg h19, if_pos h64]; rfl⟩ d_M_navigate_157
                      have e72 : (jm_nd (jm_nh u url (u 6 (ix (jm_presentOf u n))) (jm_within (u 6 (ix (jm_presentOf u n))) url)) (jm_presentOf u n) (jm_within (u 6 (ix (jm_presentOf u n))) url)) = (-1) := by first | (simp [jm_nd, h136]; done) | (simp [jm_nd, eq_true h136]; done)
                      refine W.eq (g2 := F0 m 150 ls [.int (jm_nd (jm_nh u url (u 6 (ix (jm_presentOf u n))) (jm_within (u 6 (ix (jm_presentOf u n))) url)) (jm_presentOf u n) (jm_within (u 6 (ix (jm_presentOf u n))) url)), .int (jm_push rep url (u 6 (ix (jm_presentOf u n)))), .int 0, .int url, .int n, .ref (ad 0)]) (by first | (rw [e72]; done) | (rw [e72]; rfl)) ?_
                      refine J150 _ ?_
                      exact lv_sub hl [0] rfl
                    refine lv_aload_n hx hb d_M_navigate_139 rfl (lv_at hl 0 rfl) ?_
                    refine jg_M hc hh 8 (by decide) rfl wf_M_35 d_M_navigate_140 ?_
                    refine lv_iload hx hb d_M_navigate_143 (lv_at hl 3 rfl) ?_
                    refine jm_ild hc hh 8 (by decide) (by decide) jm_pr_ex d_M_navigate_145 ?_
                    refine lv_goto (tgt := 150) hx hb d_M_navigate_146 rfl ?_
                    have J150 : ∀  (ls : Array Slot), lv_has ls 8 [(0, .ref (ad 0))] → W p l e (jr 7) s m args below meth c H locs 0 0 Q (F0 m 150 ls [.int (jm_nd (jm_nh u url (u 6 (ix (jm_presentOf u n))) (jm_within (u 6 (ix (jm_presentOf u n))) url)) (jm_presentOf u n) (jm_within (u 6 (ix (jm_presentOf u n))) url)), .int (jm_push rep url (u 6 (ix (jm_presentOf u n)))), .int 0, .int url, .int n, .ref (ad 0)]) := by
                      intro  ls hl
                      refine jx_callV [.int n, .int url, .int 0, .int (jm_push rep url (u 6 (ix (jm_presentOf u n)))), .int (jm_nd (jm_nh u url (u 6 (ix (jm_presentOf u n))) (jm_within (u 6 (ix (jm_presentOf u n))) url)) (jm_presentOf u n) (jm_within (u 6 (ix (jm_presentOf u n))) url))] [] hc hh (m_enter l D aK ad cA (jm_nh u url (u 6 (ix (jm_presentOf u n))) (jm_within (u 6 (ix (jm_presentOf u n))) url)) n url 0 (jm_push rep url (u 6 (ix (jm_presentOf u n)))) (jm_nd (jm_nh u url (u 6 (ix (jm_presentOf u n))) (jm_within (u 6 (ix (jm_presentOf u n))) url)) (jm_presentOf u n) (jm_within (u 6 (ix (jm_presentOf u n))) url)) (jm_nh_Sh hS) (jm_shown_ex h19) (jm_btw_ub h8) (jm_nd_jq (jm_nh_Sh hS) jm_pr_ex) (jm_Nw_of hn jm_nh_21)) wy_M_159 ⟨by decide, rfl, rfl⟩ (by decide) rfl hl.1 rfl (by decide) ⟨Nat.zero_le _, Nat.zero_le _⟩ d_M_navigate_150 (fun r u9 H locs hp hh _ _ => ?_)
                      rw [hp.2] at hh
                      refine W.eq (g2 := F0 m 153 ls []) rfl ?_
                      refine lv_aload_n hx hb d_M_navigate_153 rfl (lv_at hl 0 rfl) ?_
                      refine jg_M hc hh 21 (by decide) rfl wf_M_130 d_M_navigate_154 ?_
                      exact jx_iret (r := ((jm_enter (jm_nh u url (u 6 (ix (jm_presentOf u n))) (jm_within (u 6 (ix (jm_presentOf u n))) url)) n url 0 (jm_push rep url (u 6 (ix (jm_presentOf u n)))) (jm_nd (jm_nh u url (u 6 (ix (jm_presentOf u n))) (jm_within (u 6 (ix (jm_presentOf u n))) url)) (jm_presentOf u n) (jm_within (u 6 (ix (jm_presentOf u n))) url))) 21 0)) hc hh hQ hlk hr rfl rfl ⟨by unfold jm_navigate jm_navF; rw [if_neg h8, if_neg h19, if_pos h64]; rfl, by unfold jm_navigate jm_navF; rw [if_neg h8, if_neg h19, if_pos h64]; rfl⟩ d_M_navigate_157
                    have e73 : (jm_nd (jm_nh u url (u 6 (ix (jm_presentOf u n))) (jm_within (u 6 (ix (jm_presentOf u n))) url)) (jm_presentOf u n) (jm_within (u 6 (ix (jm_presentOf u n))) url)) = ((jm_nh u url (u 6 (ix (jm_presentOf u n))) (jm_within (u 6 (ix (jm_presentOf u n))) url)) 8 (ix (jm_presentOf u n))) := by simp [jm_nd, h136]
                    refine W.eq (g2 := F0 m 150 ls [.int (jm_nd (jm_nh u url (u 6 (ix (jm_presentOf u n))) (jm_within (u 6 (ix (jm_presentOf u n))) url)) (jm_presentOf u n) (jm_within (u 6 (ix (jm_presentOf u n))) url)), .int (jm_push rep url (u 6 (ix (jm_presentOf u n)))), .int 0, .int url, .int n, .ref (ad 0)]) (by first | (rw [e73]; done) | (rw [e73]; rfl)) ?_
                    refine J150 _ ?_
                    exact lv_sub hl [0] rfl
                  have e74 : (jm_nh u url (u 6 (ix (jm_presentOf u n))) (jm_within (u 6 (ix (jm_presentOf u n))) url)) = u := by first | (simp [jm_nh, h109]; done) | (simp [jm_nh, eq_true h109]; done)
                  refine J128 _ _ _ ?_ ?_
                  ·
                    try rw [e74]
                    exact hh
                  try rw [e74]
                  exact lv_sub hl [1, 2, 3, 4, 6, 0] rfl
                refine lv_iload_n hx hb d_M_navigate_112 rfl (lv_at hl 3 rfl) ?_
                refine lv_iload hx hb d_M_navigate_113 (lv_at hl 5 rfl) ?_
                refine lv_icmp_eq (tgt := 128) hx hb d_M_navigate_115 rfl (fun h115 => ?_) (fun h115 => ?_)
                ·
                  have J128 : ∀  (H : Heap) (locs : List Loc) (ls : Array Slot), jx_H D 22 ad (jm_cell ad cA (jm_nh u url (u 6 (ix (jm_presentOf u n))) (jm_within (u 6 (ix (jm_presentOf u n))) url))) A s.heap H locs → lv_has ls 8 [(0, .ref (ad 0)), (1, .int n), (2, .int url), (4, .int (jm_presentOf u n)), (6, .int (jm_push rep url (u 6 (ix (jm_presentOf u n))))), (7, .int (jm_within (u 6 (ix (jm_presentOf u n))) url))] → W p l e (jr 7) s m args below meth c H locs 0 0 Q (F0 m 128 ls []) := by
                    intro  H locs ls hh hl
                    refine lv_aload_n hx hb d_M_navigate_128 rfl (lv_at hl 0 rfl) ?_
                    refine lv_iload_n hx hb d_M_navigate_129 rfl (lv_at hl 1 rfl) ?_
                    refine lv_iload_n hx hb d_M_navigate_130 rfl (lv_at hl 2 rfl) ?_
                    refine lv_iconst (v := 0) hx hb d_M_navigate_131 (by decide) ?_
                    refine lv_iload hx hb d_M_navigate_132 (lv_at hl 4 rfl) ?_
                    refine lv_iload hx hb d_M_navigate_134 (lv_at hl 5 rfl) ?_
                    refine lv_if_eq (tgt := 149) hx hb d_M_navigate_136 rfl (fun h136 => ?_) (fun h136 => ?_)
                    ·
                      refine lv_iconst (v := -1) hx hb d_M_navigate_149 (by decide) ?_
                      have J150 : ∀  (ls : Array Slot), lv_has ls 8 [(0, .ref (ad 0))] → W p l e (jr 7) s m args below meth c H locs 0 0 Q (F0 m 150 ls [.int (jm_nd (jm_nh u url (u 6 (ix (jm_presentOf u n))) (jm_within (u 6 (ix (jm_presentOf u n))) url)) (jm_presentOf u n) (jm_within (u 6 (ix (jm_presentOf u n))) url)), .int (jm_push rep url (u 6 (ix (jm_presentOf u n)))), .int 0, .int url, .int n, .ref (ad 0)]) := by
                        intro  ls hl
                        refine jx_callV [.int n, .int url, .int 0, .int (jm_push rep url (u 6 (ix (jm_presentOf u n)))), .int (jm_nd (jm_nh u url (u 6 (ix (jm_presentOf u n))) (jm_within (u 6 (ix (jm_presentOf u n))) url)) (jm_presentOf u n) (jm_within (u 6 (ix (jm_presentOf u n))) url))] [] hc hh (m_enter l D aK ad cA (jm_nh u url (u 6 (ix (jm_presentOf u n))) (jm_within (u 6 (ix (jm_presentOf u n))) url)) n url 0 (jm_push rep url (u 6 (ix (jm_presentOf u n)))) (jm_nd (jm_nh u url (u 6 (ix (jm_presentOf u n))) (jm_within (u 6 (ix (jm_presentOf u n))) url)) (jm_presentOf u n) (jm_within (u 6 (ix (jm_presentOf u n))) url)) (jm_nh_Sh hS) (jm_shown_ex h19) (jm_btw_ub h8) (jm_nd_jq (jm_nh_Sh hS) jm_pr_ex) (jm_Nw_of hn jm_nh_21)) wy_M_159 ⟨by decide, rfl, rfl⟩ (by decide) rfl hl.1 rfl (by decide) ⟨Nat.zero_le _, Nat.zero_le _⟩ d_M_navigate_150 (fun r u9 H locs hp hh _ _ => ?_)
                        rw [hp.2] at hh
                        refine W.eq (g2 := F0 m 153 ls []) rfl ?_
                        refine lv_aload_n hx hb d_M_navigate_153 rfl (lv_at hl 0 rfl) ?_
                        refine jg_M hc hh 21 (by decide) rfl wf_M_130 d_M_navigate_154 ?_
                        exact jx_iret (r := ((jm_enter (jm_nh u url (u 6 (ix (jm_presentOf u n))) (jm_within (u 6 (ix (jm_presentOf u n))) url)) n url 0 (jm_push rep url (u 6 (ix (jm_presentOf u n)))) (jm_nd (jm_nh u url (u 6 (ix (jm_presentOf u n))) (jm_within (u 6 (ix (jm_presentOf u n))) url)) (jm_presentOf u n) (jm_within (u 6 (ix (jm_presentOf u n))) url))) 21 0)) hc hh hQ hlk hr rfl rfl ⟨by unfold jm_navigate jm_navF; rw [if_neg h8, if_neg h19, if_pos h64]; rfl, by unfold jm_navigate jm_navF; rw [if_neg h8, if_neg h19, if_pos h64]; rfl⟩ d_M_navigate_157
                      have e75 : (jm_nd (jm_nh u url (u 6 (ix (jm_presentOf u n))) (jm_within (u 6 (ix (jm_presentOf u n))) url)) (jm_presentOf u n) (jm_within (u 6 (ix (jm_presentOf u n))) url)) = (-1) := by first | (simp [jm_nd, h136]; done) | (simp [jm_nd, eq_true h136]; done)
                      refine W.eq (g2 := F0 m 150 ls [.int (jm_nd (jm_nh u url (u 6 (ix (jm_presentOf u n))) (jm_within (u 6 (ix (jm_presentOf u n))) url)) (jm_presentOf u n) (jm_within (u 6 (ix (jm_presentOf u n))) url)), .int (jm_push rep url (u 6 (ix (jm_presentOf u n)))), .int 0, .int url, .int n, .ref (ad 0)]) (by first | (rw [e75]; done) | (rw [e75]; rfl)) ?_
                      refine J150 _ ?_
                      exact lv_sub hl [0] rfl
                    refine lv_aload_n hx hb d_M_navigate_139 rfl (lv_at hl 0 rfl) ?_
                    refine jg_M hc hh 8 (by decide) rfl wf_M_35 d_M_navigate_140 ?_
                    refine lv_iload hx hb d_M_navigate_143 (lv_at hl 3 rfl) ?_
                    refine jm_ild hc hh 8 (by decide) (by decide) jm_pr_ex d_M_navigate_145 ?_
                    refine lv_goto (tgt := 150) hx hb d_M_navigate_146 rfl ?_
                    have J150 : ∀  (ls : Array Slot), lv_has ls 8 [(0, .ref (ad 0))] → W p l e (jr 7) s m args below meth c H locs 0 0 Q (F0 m 150 ls [.int (jm_nd (jm_nh u url (u 6 (ix (jm_presentOf u n))) (jm_within (u 6 (ix (jm_presentOf u n))) url)) (jm_presentOf u n) (jm_within (u 6 (ix (jm_presentOf u n))) url)), .int (jm_push rep url (u 6 (ix (jm_presentOf u n)))), .int 0, .int url, .int n, .ref (ad 0)]) := by
                      intro  ls hl
                      refine jx_callV [.int n, .int url, .int 0, .int (jm_push rep url (u 6 (ix (jm_presentOf u n)))), .int (jm_nd (jm_nh u url (u 6 (ix (jm_presentOf u n))) (jm_within (u 6 (ix (jm_presentOf u n))) url)) (jm_presentOf u n) (jm_within (u 6 (ix (jm_presentOf u n))) url))] [] hc hh (m_enter l D aK ad cA (jm_nh u url (u 6 (ix (jm_presentOf u n))) (jm_within (u 6 (ix (jm_presentOf u n))) url)) n url 0 (jm_push rep url (u 6 (ix (jm_presentOf u n)))) (jm_nd (jm_nh u url (u 6 (ix (jm_presentOf u n))) (jm_within (u 6 (ix (jm_presentOf u n))) url)) (jm_presentOf u n) (jm_within (u 6 (ix (jm_presentOf u n))) url)) (jm_nh_Sh hS) (jm_shown_ex h19) (jm_btw_ub h8) (jm_nd_jq (jm_nh_Sh hS) jm_pr_ex) (jm_Nw_of hn jm_nh_21)) wy_M_159 ⟨by decide, rfl, rfl⟩ (by decide) rfl hl.1 rfl (by decide) ⟨Nat.zero_le _, Nat.zero_le _⟩ d_M_navigate_150 (fun r u9 H locs hp hh _ _ => ?_)
                      rw [hp.2] at hh
                      refine W.eq (g2 := F0 m 153 ls []) rfl ?_
                      refine lv_aload_n hx hb d_M_navigate_153 rfl (lv_at hl 0 rfl) ?_
                      refine jg_M hc hh 21 (by decide) rfl wf_M_130 d_M_navigate_154 ?_
                      exact jx_iret (r := ((jm_enter (jm_nh u url (u 6 (ix (jm_presentOf u n))) (jm_within (u 6 (ix (jm_presentOf u n))) url)) n url 0 (jm_push rep url (u 6 (ix (jm_presentOf u n)))) (jm_nd (jm_nh u url (u 6 (ix (jm_presentOf u n))) (jm_within (u 6 (ix (jm_presentOf u n))) url)) (jm_presentOf u n) (jm_within (u 6 (ix (jm_presentOf u n))) url))) 21 0)) hc hh hQ hlk hr rfl rfl ⟨by unfold jm_navigate jm_navF; rw [if_neg h8, if_neg h19, if_pos h64]; rfl, by unfold jm_navigate jm_navF; rw [if_neg h8, if_neg h19, if_pos h64]; rfl⟩ d_M_navigate_157
                    have e76 : (jm_nd (jm_nh u url (u 6 (ix (jm_presentOf u n))) (jm_within (u 6 (ix (jm_presentOf u n))) url)) (jm_presentOf u n) (jm_within (u 6 (ix (jm_presentOf u n))) url)) = ((jm_nh u url (u 6 (ix (jm_presentOf u n))) (jm_within (u 6 (ix (jm_presentOf u n))) url)) 8 (ix (jm_presentOf u n))) := by simp [jm_nd, h136]
                    refine W.eq (g2 := F0 m 150 ls [.int (jm_nd (jm_nh u url (u 6 (ix (jm_presentOf u n))) (jm_within (u 6 (ix (jm_presentOf u n))) url)) (jm_presentOf u n) (jm_within (u 6 (ix (jm_presentOf u n))) url)), .int (jm_push rep url (u 6 (ix (jm_presentOf u n)))), .int 0, .int url, .int n, .ref (ad 0)]) (by first | (rw [e76]; done) | (rw [e76]; rfl)) ?_
                    refine J150 _ ?_
                    exact lv_sub hl [0] rfl
                  have e77 : (jm_nh u url (u 6 (ix (jm_presentOf u n))) (jm_within (u 6 (ix (jm_presentOf u n))) url)) = u := by first | (simp [jm_nh, h109, h115]; done) | (simp [jm_nh, h109, eq_true h115]; done)
                  refine J128 _ _ _ ?_ ?_
                  ·
                    try rw [e77]
                    exact hh
                  try rw [e77]
                  exact lv_sub hl [1, 2, 3, 4, 6, 0] rfl
                refine lv_aload_n hx hb d_M_navigate_118 rfl (lv_at hl 1 rfl) ?_
                refine lv_dup hx hb d_M_navigate_119 rfl ?_
                refine jg_M hc hh 24 (by decide) rfl wf_M_156 d_M_navigate_120 ?_
                refine lv_iconst (v := 1) hx hb d_M_navigate_123 (by decide) ?_
                refine lv_iadd hx hb d_M_navigate_124 ?_
                refine jpm_24 hc hh wf_M_156 d_M_navigate_125 (fun H locs hh => ?_)
                have J128 : ∀  (H : Heap) (locs : List Loc) (ls : Array Slot), jx_H D 22 ad (jm_cell ad cA (jm_nh u url (u 6 (ix (jm_presentOf u n))) (jm_within (u 6 (ix (jm_presentOf u n))) url))) A s.heap H locs → lv_has ls 8 [(0, .ref (ad 0)), (1, .int n), (2, .int url), (4, .int (jm_presentOf u n)), (6, .int (jm_push rep url (u 6 (ix (jm_presentOf u n))))), (7, .int (jm_within (u 6 (ix (jm_presentOf u n))) url))] → W p l e (jr 7) s m args below meth c H locs 0 0 Q (F0 m 128 ls []) := by
                  intro  H locs ls hh hl
                  refine lv_aload_n hx hb d_M_navigate_128 rfl (lv_at hl 0 rfl) ?_
                  refine lv_iload_n hx hb d_M_navigate_129 rfl (lv_at hl 1 rfl) ?_
                  refine lv_iload_n hx hb d_M_navigate_130 rfl (lv_at hl 2 rfl) ?_
                  refine lv_iconst (v := 0) hx hb d_M_navigate_131 (by decide) ?_
                  refine lv_iload hx hb d_M_navigate_132 (lv_at hl 4 rfl) ?_
                  refine lv_iload hx hb d_M_navigate_134 (lv_at hl 5 rfl) ?_
                  refine lv_if_eq (tgt := 149) hx hb d_M_navigate_136 rfl (fun h136 => ?_) (fun h136 => ?_)
                  ·
                    refine lv_iconst (v := -1) hx hb d_M_navigate_149 (by decide) ?_
                    have J150 : ∀  (ls : Array Slot), lv_has ls 8 [(0, .ref (ad 0))] → W p l e (jr 7) s m args below meth c H locs 0 0 Q (F0 m 150 ls [.int (jm_nd (jm_nh u url (u 6 (ix (jm_presentOf u n))) (jm_within (u 6 (ix (jm_presentOf u n))) url)) (jm_presentOf u n) (jm_within (u 6 (ix (jm_presentOf u n))) url)), .int (jm_push rep url (u 6 (ix (jm_presentOf u n)))), .int 0, .int url, .int n, .ref (ad 0)]) := by
                      intro  ls hl
                      refine jx_callV [.int n, .int url, .int 0, .int (jm_push rep url (u 6 (ix (jm_presentOf u n)))), .int (jm_nd (jm_nh u url (u 6 (ix (jm_presentOf u n))) (jm_within (u 6 (ix (jm_presentOf u n))) url)) (jm_presentOf u n) (jm_within (u 6 (ix (jm_presentOf u n))) url))] [] hc hh (m_enter l D aK ad cA (jm_nh u url (u 6 (ix (jm_presentOf u n))) (jm_within (u 6 (ix (jm_presentOf u n))) url)) n url 0 (jm_push rep url (u 6 (ix (jm_presentOf u n)))) (jm_nd (jm_nh u url (u 6 (ix (jm_presentOf u n))) (jm_within (u 6 (ix (jm_presentOf u n))) url)) (jm_presentOf u n) (jm_within (u 6 (ix (jm_presentOf u n))) url)) (jm_nh_Sh hS) (jm_shown_ex h19) (jm_btw_ub h8) (jm_nd_jq (jm_nh_Sh hS) jm_pr_ex) (jm_Nw_of hn jm_nh_21)) wy_M_159 ⟨by decide, rfl, rfl⟩ (by decide) rfl hl.1 rfl (by decide) ⟨Nat.zero_le _, Nat.zero_le _⟩ d_M_navigate_150 (fun r u9 H locs hp hh _ _ => ?_)
                      rw [hp.2] at hh
                      refine W.eq (g2 := F0 m 153 ls []) rfl ?_
                      refine lv_aload_n hx hb d_M_navigate_153 rfl (lv_at hl 0 rfl) ?_
                      refine jg_M hc hh 21 (by decide) rfl wf_M_130 d_M_navigate_154 ?_
                      exact jx_iret (r := ((jm_enter (jm_nh u url (u 6 (ix (jm_presentOf u n))) (jm_within (u 6 (ix (jm_presentOf u n))) url)) n url 0 (jm_push rep url (u 6 (ix (jm_presentOf u n)))) (jm_nd (jm_nh u url (u 6 (ix (jm_presentOf u n))) (jm_within (u 6 (ix (jm_presentOf u n))) url)) (jm_presentOf u n) (jm_within (u 6 (ix (jm_presentOf u n))) url))) 21 0)) hc hh hQ hlk hr rfl rfl ⟨by unfold jm_navigate jm_navF; rw [if_neg h8, if_neg h19, if_pos h64]; rfl, by unfold jm_navigate jm_navF; rw [if_neg h8, if_neg h19, if_pos h64]; rfl⟩ d_M_navigate_157
                    have e78 : (jm_nd (jm_nh u url (u 6 (ix (jm_presentOf u n))) (jm_within (u 6 (ix (jm_presentOf u n))) url)) (jm_presentOf u n) (jm_within (u 6 (ix (jm_presentOf u n))) url)) = (-1) := by first | (simp [jm_nd, h136]; done) | (simp [jm_nd, eq_true h136]; done)
                    refine W.eq (g2 := F0 m 150 ls [.int (jm_nd (jm_nh u url (u 6 (ix (jm_presentOf u n))) (jm_within (u 6 (ix (jm_presentOf u n))) url)) (jm_presentOf u n) (jm_within (u 6 (ix (jm_presentOf u n))) url)), .int (jm_push rep url (u 6 (ix (jm_presentOf u n)))), .int 0, .int url, .int n, .ref (ad 0)]) (by first | (rw [e78]; done) | (rw [e78]; rfl)) ?_
                    refine J150 _ ?_
                    exact lv_sub hl [0] rfl
                  refine lv_aload_n hx hb d_M_navigate_139 rfl (lv_at hl 0 rfl) ?_
                  refine jg_M hc hh 8 (by decide) rfl wf_M_35 d_M_navigate_140 ?_
                  refine lv_iload hx hb d_M_navigate_143 (lv_at hl 3 rfl) ?_
                  refine jm_ild hc hh 8 (by decide) (by decide) jm_pr_ex d_M_navigate_145 ?_
                  refine lv_goto (tgt := 150) hx hb d_M_navigate_146 rfl ?_
                  have J150 : ∀  (ls : Array Slot), lv_has ls 8 [(0, .ref (ad 0))] → W p l e (jr 7) s m args below meth c H locs 0 0 Q (F0 m 150 ls [.int (jm_nd (jm_nh u url (u 6 (ix (jm_presentOf u n))) (jm_within (u 6 (ix (jm_presentOf u n))) url)) (jm_presentOf u n) (jm_within (u 6 (ix (jm_presentOf u n))) url)), .int (jm_push rep url (u 6 (ix (jm_presentOf u n)))), .int 0, .int url, .int n, .ref (ad 0)]) := by
                    intro  ls hl
                    refine jx_callV [.int n, .int url, .int 0, .int (jm_push rep url (u 6 (ix (jm_presentOf u n)))), .int (jm_nd (jm_nh u url (u 6 (ix (jm_presentOf u n))) (jm_within (u 6 (ix (jm_presentOf u n))) url)) (jm_presentOf u n) (jm_within (u 6 (ix (jm_presentOf u n))) url))] [] hc hh (m_enter l D aK ad cA (jm_nh u url (u 6 (ix (jm_presentOf u n))) (jm_within (u 6 (ix (jm_presentOf u n))) url)) n url 0 (jm_push rep url (u 6 (ix (jm_presentOf u n)))) (jm_nd (jm_nh u url (u 6 (ix (jm_presentOf u n))) (jm_within (u 6 (ix (jm_presentOf u n))) url)) (jm_presentOf u n) (jm_within (u 6 (ix (jm_presentOf u n))) url)) (jm_nh_Sh hS) (jm_shown_ex h19) (jm_btw_ub h8) (jm_nd_jq (jm_nh_Sh hS) jm_pr_ex) (jm_Nw_of hn jm_nh_21)) wy_M_159 ⟨by decide, rfl, rfl⟩ (by decide) rfl hl.1 rfl (by decide) ⟨Nat.zero_le _, Nat.zero_le _⟩ d_M_navigate_150 (fun r u9 H locs hp hh _ _ => ?_)
                    rw [hp.2] at hh
                    refine W.eq (g2 := F0 m 153 ls []) rfl ?_
                    refine lv_aload_n hx hb d_M_navigate_153 rfl (lv_at hl 0 rfl) ?_
                    refine jg_M hc hh 21 (by decide) rfl wf_M_130 d_M_navigate_154 ?_
                    exact jx_iret (r := ((jm_enter (jm_nh u url (u 6 (ix (jm_presentOf u n))) (jm_within (u 6 (ix (jm_presentOf u n))) url)) n url 0 (jm_push rep url (u 6 (ix (jm_presentOf u n)))) (jm_nd (jm_nh u url (u 6 (ix (jm_presentOf u n))) (jm_within (u 6 (ix (jm_presentOf u n))) url)) (jm_presentOf u n) (jm_within (u 6 (ix (jm_presentOf u n))) url))) 21 0)) hc hh hQ hlk hr rfl rfl ⟨by unfold jm_navigate jm_navF; rw [if_neg h8, if_neg h19, if_pos h64]; rfl, by unfold jm_navigate jm_navF; rw [if_neg h8, if_neg h19, if_pos h64]; rfl⟩ d_M_navigate_157
                  have e79 : (jm_nd (jm_nh u url (u 6 (ix (jm_presentOf u n))) (jm_within (u 6 (ix (jm_presentOf u n))) url)) (jm_presentOf u n) (jm_within (u 6 (ix (jm_presentOf u n))) url)) = ((jm_nh u url (u 6 (ix (jm_presentOf u n))) (jm_within (u 6 (ix (jm_presentOf u n))) url)) 8 (ix (jm_presentOf u n))) := by simp [jm_nd, h136]
                  refine W.eq (g2 := F0 m 150 ls [.int (jm_nd (jm_nh u url (u 6 (ix (jm_presentOf u n))) (jm_within (u 6 (ix (jm_presentOf u n))) url)) (jm_presentOf u n) (jm_within (u 6 (ix (jm_presentOf u n))) url)), .int (jm_push rep url (u 6 (ix (jm_presentOf u n)))), .int 0, .int url, .int n, .ref (ad 0)]) (by first | (rw [e79]; done) | (rw [e79]; rfl)) ?_
                  refine J150 _ ?_
                  exact lv_sub hl [0] rfl
                have e80 : (jm_nh u url (u 6 (ix (jm_presentOf u n))) (jm_within (u 6 (ix (jm_presentOf u n))) url)) = (js_up u 24 0 ((u 24 0) + 1)) := by simp [jm_nh, h109, h115]
                refine J128 _ _ _ ?_ ?_
                ·
                  try rw [e80]
                  exact hh
                try rw [e80]
                exact lv_sub hl [1, 2, 3, 4, 6, 0] rfl
              have e81 : (jm_within (u 6 (ix (jm_presentOf u n))) url) = 0 := by first | (simp [jm_within, h64, h72, h79, h85]; done) | (simp [jm_within, eq_true h64, h72, h79, eq_true h85]; done)
              refine W.eq (g2 := F0 m 105 ls [.int (jm_within (u 6 (ix (jm_presentOf u n))) url)]) (by first | (rw [e81]; done) | (rw [e81]; rfl)) ?_
              refine J105 _ _ _ ?_ ?_
              ·
                exact hh
              exact lv_sub hl [1, 2, 3, 4, 5, 0] rfl
            refine lv_iload hx hb d_M_navigate_88 (lv_at hl 5 rfl) ?_
            refine lv_bipush (v := 8) hx hb d_M_navigate_90 (by decide) ?_
            refine lv_idiv hx hb d_M_navigate_92 (by decide) ?_
            refine lv_iload_n hx hb d_M_navigate_93 rfl (lv_at hl 3 rfl) ?_
            refine lv_bipush (v := 8) hx hb d_M_navigate_94 (by decide) ?_
            refine lv_idiv hx hb d_M_navigate_96 (by decide) ?_
            refine lv_icmp_ne (tgt := 104) hx hb d_M_navigate_97 rfl (fun h97 => ?_) (fun h97 => ?_)
            ·
              refine lv_iconst (v := 0) hx hb d_M_navigate_104 (by decide) ?_
              have J105 : ∀  (H : Heap) (locs : List Loc) (ls : Array Slot), jx_H D 22 ad (jm_cell ad cA u) A s.heap H locs → lv_has ls 8 [(0, .ref (ad 0)), (1, .int n), (2, .int url), (4, .int (jm_presentOf u n)), (5, .int (u 6 (ix (jm_presentOf u n)))), (6, .int (jm_push rep url (u 6 (ix (jm_presentOf u n)))))] → W p l e (jr 7) s m args below meth c H locs 0 0 Q (F0 m 105 ls [.int (jm_within (u 6 (ix (jm_presentOf u n))) url)]) := by
                intro  H locs ls hh hl
                refine lv_istore (i := 7) (lv' := [(7, .int (jm_within (u 6 (ix (jm_presentOf u n))) url)), (0, .ref (ad 0)), (1, .int n), (2, .int url), (4, .int (jm_presentOf u n)), (5, .int (u 6 (ix (jm_presentOf u n)))), (6, .int (jm_push rep url (u 6 (ix (jm_presentOf u n)))))]) hx hb d_M_navigate_105 hl (by decide) rfl (fun ls hl => ?_)
                refine lv_iload hx hb d_M_navigate_107 (lv_at hl 0 rfl) ?_
                refine lv_if_eq (tgt := 128) hx hb d_M_navigate_109 rfl (fun h109 => ?_) (fun h109 => ?_)
                ·
                  have J128 : ∀  (H : Heap) (locs : List Loc) (ls : Array Slot), jx_H D 22 ad (jm_cell ad cA (jm_nh u url (u 6 (ix (jm_presentOf u n))) (jm_within (u 6 (ix (jm_presentOf u n))) url))) A s.heap H locs → lv_has ls 8 [(0, .ref (ad 0)), (1, .int n), (2, .int url), (4, .int (jm_presentOf u n)), (6, .int (jm_push rep url (u 6 (ix (jm_presentOf u n))))), (7, .int (jm_within (u 6 (ix (jm_presentOf u n))) url))] → W p l e (jr 7) s m args below meth c H locs 0 0 Q (F0 m 128 ls []) := by
                    intro  H locs ls hh hl
                    refine lv_aload_n hx hb d_M_navigate_128 rfl (lv_at hl 0 rfl) ?_
                    refine lv_iload_n hx hb d_M_navigate_129 rfl (lv_at hl 1 rfl) ?_
                    refine lv_iload_n hx hb d_M_navigate_130 rfl (lv_at hl 2 rfl) ?_
                    refine lv_iconst (v := 0) hx hb d_M_navigate_131 (by decide) ?_
                    refine lv_iload hx hb d_M_navigate_132 (lv_at hl 4 rfl) ?_
                    refine lv_iload hx hb d_M_navigate_134 (lv_at hl 5 rfl) ?_
                    refine lv_if_eq (tgt := 149) hx hb d_M_navigate_136 rfl (fun h136 => ?_) (fun h136 => ?_)
                    ·
                      refine lv_iconst (v := -1) hx hb d_M_navigate_149 (by decide) ?_
                      have J150 : ∀  (ls : Array Slot), lv_has ls 8 [(0, .ref (ad 0))] → W p l e (jr 7) s m args below meth c H locs 0 0 Q (F0 m 150 ls [.int (jm_nd (jm_nh u url (u 6 (ix (jm_presentOf u n))) (jm_within (u 6 (ix (jm_presentOf u n))) url)) (jm_presentOf u n) (jm_within (u 6 (ix (jm_presentOf u n))) url)), .int (jm_push rep url (u 6 (ix (jm_presentOf u n)))), .int 0, .int url, .int n, .ref (ad 0)]) := by
                        intro  ls hl
                        refine jx_callV [.int n, .int url, .int 0, .int (jm_push rep url (u 6 (ix (jm_presentOf u n)))), .int (jm_nd (jm_nh u url (u 6 (ix (jm_presentOf u n))) (jm_within (u 6 (ix (jm_presentOf u n))) url)) (jm_presentOf u n) (jm_within (u 6 (ix (jm_presentOf u n))) url))] [] hc hh (m_enter l D aK ad cA (jm_nh u url (u 6 (ix (jm_presentOf u n))) (jm_within (u 6 (ix (jm_presentOf u n))) url)) n url 0 (jm_push rep url (u 6 (ix (jm_presentOf u n)))) (jm_nd (jm_nh u url (u 6 (ix (jm_presentOf u n))) (jm_within (u 6 (ix (jm_presentOf u n))) url)) (jm_presentOf u n) (jm_within (u 6 (ix (jm_presentOf u n))) url)) (jm_nh_Sh hS) (jm_shown_ex h19) (jm_btw_ub h8) (jm_nd_jq (jm_nh_Sh hS) jm_pr_ex) (jm_Nw_of hn jm_nh_21)) wy_M_159 ⟨by decide, rfl, rfl⟩ (by decide) rfl hl.1 rfl (by decide) ⟨Nat.zero_le _, Nat.zero_le _⟩ d_M_navigate_150 (fun r u9 H locs hp hh _ _ => ?_)
                        rw [hp.2] at hh
                        refine W.eq (g2 := F0 m 153 ls []) rfl ?_
                        refine lv_aload_n hx hb d_M_navigate_153 rfl (lv_at hl 0 rfl) ?_
                        refine jg_M hc hh 21 (by decide) rfl wf_M_130 d_M_navigate_154 ?_
                        exact jx_iret (r := ((jm_enter (jm_nh u url (u 6 (ix (jm_presentOf u n))) (jm_within (u 6 (ix (jm_presentOf u n))) url)) n url 0 (jm_push rep url (u 6 (ix (jm_presentOf u n)))) (jm_nd (jm_nh u url (u 6 (ix (jm_presentOf u n))) (jm_within (u 6 (ix (jm_presentOf u n))) url)) (jm_presentOf u n) (jm_within (u 6 (ix (jm_presentOf u n))) url))) 21 0)) hc hh hQ hlk hr rfl rfl ⟨by unfold jm_navigate jm_navF; rw [if_neg h8, if_neg h19, if_pos h64]; rfl, by unfold jm_navigate jm_navF; rw [if_neg h8, if_neg h19, if_pos h64]; rfl⟩ d_M_navigate_157
                      have e82 : (jm_nd (jm_nh u url (u 6 (ix (jm_presentOf u n))) (jm_within (u 6 (ix (jm_presentOf u n))) url)) (jm_presentOf u n) (jm_within (u 6 (ix (jm_presentOf u n))) url)) = (-1) := by first | (simp [jm_nd, h136]; done) | (simp [jm_nd, eq_true h136]; done)
                      refine W.eq (g2 := F0 m 150 ls [.int (jm_nd (jm_nh u url (u 6 (ix (jm_presentOf u n))) (jm_within (u 6 (ix (jm_presentOf u n))) url)) (jm_presentOf u n) (jm_within (u 6 (ix (jm_presentOf u n))) url)), .int (jm_push rep url (u 6 (ix (jm_presentOf u n)))), .int 0, .int url, .int n, .ref (ad 0)]) (by first | (rw [e82]; done) | (rw [e82]; rfl)) ?_
                      refine J150 _ ?_
                      exact lv_sub hl [0] rfl
                    refine lv_aload_n hx hb d_M_navigate_139 rfl (lv_at hl 0 rfl) ?_
                    refine jg_M hc hh 8 (by decide) rfl wf_M_35 d_M_navigate_140 ?_
                    refine lv_iload hx hb d_M_navigate_143 (lv_at hl 3 rfl) ?_
                    refine jm_ild hc hh 8 (by decide) (by decide) jm_pr_ex d_M_navigate_145 ?_
                    refine lv_goto (tgt := 150) hx hb d_M_navigate_146 rfl ?_
                    have J150 : ∀  (ls : Array Slot), lv_has ls 8 [(0, .ref (ad 0))] → W p l e (jr 7) s m args below meth c H locs 0 0 Q (F0 m 150 ls [.int (jm_nd (jm_nh u url (u 6 (ix (jm_presentOf u n))) (jm_within (u 6 (ix (jm_presentOf u n))) url)) (jm_presentOf u n) (jm_within (u 6 (ix (jm_presentOf u n))) url)), .int (jm_push rep url (u 6 (ix (jm_presentOf u n)))), .int 0, .int url, .int n, .ref (ad 0)]) := by
                      intro  ls hl
                      refine jx_callV [.int n, .int url, .int 0, .int (jm_push rep url (u 6 (ix (jm_presentOf u n)))), .int (jm_nd (jm_nh u url (u 6 (ix (jm_presentOf u n))) (jm_within (u 6 (ix (jm_presentOf u n))) url)) (jm_presentOf u n) (jm_within (u 6 (ix (jm_presentOf u n))) url))] [] hc hh (m_enter l D aK ad cA (jm_nh u url (u 6 (ix (jm_presentOf u n))) (jm_within (u 6 (ix (jm_presentOf u n))) url)) n url 0 (jm_push rep url (u 6 (ix (jm_presentOf u n)))) (jm_nd (jm_nh u url (u 6 (ix (jm_presentOf u n))) (jm_within (u 6 (ix (jm_presentOf u n))) url)) (jm_presentOf u n) (jm_within (u 6 (ix (jm_presentOf u n))) url)) (jm_nh_Sh hS) (jm_shown_ex h19) (jm_btw_ub h8) (jm_nd_jq (jm_nh_Sh hS) jm_pr_ex) (jm_Nw_of hn jm_nh_21)) wy_M_159 ⟨by decide, rfl, rfl⟩ (by decide) rfl hl.1 rfl (by decide) ⟨Nat.zero_le _, Nat.zero_le _⟩ d_M_navigate_150 (fun r u9 H locs hp hh _ _ => ?_)
                      rw [hp.2] at hh
                      refine W.eq (g2 := F0 m 153 ls []) rfl ?_
                      refine lv_aload_n hx hb d_M_navigate_153 rfl (lv_at hl 0 rfl) ?_
                      refine jg_M hc hh 21 (by decide) rfl wf_M_130 d_M_navigate_154 ?_
                      exact jx_iret (r := ((jm_enter (jm_nh u url (u 6 (ix (jm_presentOf u n))) (jm_within (u 6 (ix (jm_presentOf u n))) url)) n url 0 (jm_push rep url (u 6 (ix (jm_presentOf u n)))) (jm_nd (jm_nh u url (u 6 (ix (jm_presentOf u n))) (jm_within (u 6 (ix (jm_presentOf u n))) url)) (jm_presentOf u n) (jm_within (u 6 (ix (jm_presentOf u n))) url))) 21 0)) hc hh hQ hlk hr rfl rfl ⟨by unfold jm_navigate jm_navF; rw [if_neg h8, if_neg h19, if_pos h64]; rfl, by unfold jm_navigate jm_navF; rw [if_neg h8, if_neg h19, if_pos h64]; rfl⟩ d_M_navigate_157
                    have e83 : (jm_nd (jm_nh u url (u 6 (ix (jm_presentOf u n))) (jm_within (u 6 (ix (jm_presentOf u n))) url)) (jm_presentOf u n) (jm_within (u 6 (ix (jm_presentOf u n))) url)) = ((jm_nh u url (u 6 (ix (jm_presentOf u n))) (jm_within (u 6 (ix (jm_presentOf u n))) url)) 8 (ix (jm_presentOf u n))) := by simp [jm_nd, h136]
                    refine W.eq (g2 := F0 m 150 ls [.int (jm_nd (jm_nh u url (u 6 (ix (jm_presentOf u n))) (jm_within (u 6 (ix (jm_presentOf u n))) url)) (jm_presentOf u n) (jm_within (u 6 (ix (jm_presentOf u n))) url)), .int (jm_push rep url (u 6 (ix (jm_presentOf u n)))), .int 0, .int url, .int n, .ref (ad 0)]) (by first | (rw [e83]; done) | (rw [e83]; rfl)) ?_
                    refine J150 _ ?_
                    exact lv_sub hl [0] rfl
                  have e84 : (jm_nh u url (u 6 (ix (jm_presentOf u n))) (jm_within (u 6 (ix (jm_presentOf u n))) url)) = u := by first | (simp [jm_nh, h109]; done) | (simp [jm_nh, eq_true h109]; done)
                  refine J128 _ _ _ ?_ ?_
                  ·
                    try rw [e84]
                    exact hh
                  try rw [e84]
                  exact lv_sub hl [1, 2, 3, 4, 6, 0] rfl
                refine lv_iload_n hx hb d_M_navigate_112 rfl (lv_at hl 3 rfl) ?_
                refine lv_iload hx hb d_M_navigate_113 (lv_at hl 5 rfl) ?_
                refine lv_icmp_eq (tgt := 128) hx hb d_M_navigate_115 rfl (fun h115 => ?_) (fun h115 => ?_)
                ·
                  have J128 : ∀  (H : Heap) (locs : List Loc) (ls : Array Slot), jx_H D 22 ad (jm_cell ad cA (jm_nh u url (u 6 (ix (jm_presentOf u n))) (jm_within (u 6 (ix (jm_presentOf u n))) url))) A s.heap H locs → lv_has ls 8 [(0, .ref (ad 0)), (1, .int n), (2, .int url), (4, .int (jm_presentOf u n)), (6, .int (jm_push rep url (u 6 (ix (jm_presentOf u n))))), (7, .int (jm_within (u 6 (ix (jm_presentOf u n))) url))] → W p l e (jr 7) s m args below meth c H locs 0 0 Q (F0 m 128 ls []) := by
                    intro  H locs ls hh hl
                    refine lv_aload_n hx hb d_M_navigate_128 rfl (lv_at hl 0 rfl) ?_
                    refine lv_iload_n hx hb d_M_navigate_129 rfl (lv_at hl 1 rfl) ?_
                    refine lv_iload_n hx hb d_M_navigate_130 rfl (lv_at hl 2 rfl) ?_
                    refine lv_iconst (v := 0) hx hb d_M_navigate_131 (by decide) ?_
                    refine lv_iload hx hb d_M_navigate_132 (lv_at hl 4 rfl) ?_
                    refine lv_iload hx hb d_M_navigate_134 (lv_at hl 5 rfl) ?_
                    refine lv_if_eq (tgt := 149) hx hb d_M_navigate_136 rfl (fun h136 => ?_) (fun h136 => ?_)
                    ·
                      refine lv_iconst (v := -1) hx hb d_M_navigate_149 (by decide) ?_
                      have J150 : ∀  (ls : Array Slot), lv_has ls 8 [(0, .ref (ad 0))] → W p l e (jr 7) s m args below meth c H locs 0 0 Q (F0 m 150 ls [.int (jm_nd (jm_nh u url (u 6 (ix (jm_presentOf u n))) (jm_within (u 6 (ix (jm_presentOf u n))) url)) (jm_presentOf u n) (jm_within (u 6 (ix (jm_presentOf u n))) url)), .int (jm_push rep url (u 6 (ix (jm_presentOf u n)))), .int 0, .int url, .int n, .ref (ad 0)]) := by
                        intro  ls hl
                        refine jx_callV [.int n, .int url, .int 0, .int (jm_push rep url (u 6 (ix (jm_presentOf u n)))), .int (jm_nd (jm_nh u url (u 6 (ix (jm_presentOf u n))) (jm_within (u 6 (ix (jm_presentOf u n))) url)) (jm_presentOf u n) (jm_within (u 6 (ix (jm_presentOf u n))) url))] [] hc hh (m_enter l D aK ad cA (jm_nh u url (u 6 (ix (jm_presentOf u n))) (jm_within (u 6 (ix (jm_presentOf u n))) url)) n url 0 (jm_push rep url (u 6 (ix (jm_presentOf u n)))) (jm_nd (jm_nh u url (u 6 (ix (jm_presentOf u n))) (jm_within (u 6 (ix (jm_presentOf u n))) url)) (jm_presentOf u n) (jm_within (u 6 (ix (jm_presentOf u n))) url)) (jm_nh_Sh hS) (jm_shown_ex h19) (jm_btw_ub h8) (jm_nd_jq (jm_nh_Sh hS) jm_pr_ex) (jm_Nw_of hn jm_nh_21)) wy_M_159 ⟨by decide, rfl, rfl⟩ (by decide) rfl hl.1 rfl (by decide) ⟨Nat.zero_le _, Nat.zero_le _⟩ d_M_navigate_150 (fun r u9 H locs hp hh _ _ => ?_)
                        rw [hp.2] at hh
                        refine W.eq (g2 := F0 m 153 ls []) rfl ?_
                        refine lv_aload_n hx hb d_M_navigate_153 rfl (lv_at hl 0 rfl) ?_
                        refine jg_M hc hh 21 (by decide) rfl wf_M_130 d_M_navigate_154 ?_
                        exact jx_iret (r := ((jm_enter (jm_nh u url (u 6 (ix (jm_presentOf u n))) (jm_within (u 6 (ix (jm_presentOf u n))) url)) n url 0 (jm_push rep url (u 6 (ix (jm_presentOf u n)))) (jm_nd (jm_nh u url (u 6 (ix (jm_presentOf u n))) (jm_within (u 6 (ix (jm_presentOf u n))) url)) (jm_presentOf u n) (jm_within (u 6 (ix (jm_presentOf u n))) url))) 21 0)) hc hh hQ hlk hr rfl rfl ⟨by unfold jm_navigate jm_navF; rw [if_neg h8, if_neg h19, if_pos h64]; rfl, by unfold jm_navigate jm_navF; rw [if_neg h8, if_neg h19, if_pos h64]; rfl⟩ d_M_navigate_157
                      have e85 : (jm_nd (jm_nh u url (u 6 (ix (jm_presentOf u n))) (jm_within (u 6 (ix (jm_presentOf u n))) url)) (jm_presentOf u n) (jm_within (u 6 (ix (jm_presentOf u n))) url)) = (-1) := by first | (simp [jm_nd, h136]; done) | (simp [jm_nd, eq_true h136]; done)
                      refine W.eq (g2 := F0 m 150 ls [.int (jm_nd (jm_nh u url (u 6 (ix (jm_presentOf u n))) (jm_within (u 6 (ix (jm_presentOf u n))) url)) (jm_presentOf u n) (jm_within (u 6 (ix (jm_presentOf u n))) url)), .int (jm_push rep url (u 6 (ix (jm_presentOf u n)))), .int 0, .int url, .int n, .ref (ad 0)]) (by first | (rw [e85]; done) | (rw [e85]; rfl)) ?_
                      refine J150 _ ?_
                      exact lv_sub hl [0] rfl
                    refine lv_aload_n hx hb d_M_navigate_139 rfl (lv_at hl 0 rfl) ?_
                    refine jg_M hc hh 8 (by decide) rfl wf_M_35 d_M_navigate_140 ?_
                    refine lv_iload hx hb d_M_navigate_143 (lv_at hl 3 rfl) ?_
                    refine jm_ild hc hh 8 (by decide) (by decide) jm_pr_ex d_M_navigate_145 ?_
                    refine lv_goto (tgt := 150) hx hb d_M_navigate_146 rfl ?_
                    have J150 : ∀  (ls : Array Slot), lv_has ls 8 [(0, .ref (ad 0))] → W p l e (jr 7) s m args below meth c H locs 0 0 Q (F0 m 150 ls [.int (jm_nd (jm_nh u url (u 6 (ix (jm_presentOf u n))) (jm_within (u 6 (ix (jm_presentOf u n))) url)) (jm_presentOf u n) (jm_within (u 6 (ix (jm_presentOf u n))) url)), .int (jm_push rep url (u 6 (ix (jm_presentOf u n)))), .int 0, .int url, .int n, .ref (ad 0)]) := by
                      intro  ls hl
                      refine jx_callV [.int n, .int url, .int 0, .int (jm_push rep url (u 6 (ix (jm_presentOf u n)))), .int (jm_nd (jm_nh u url (u 6 (ix (jm_presentOf u n))) (jm_within (u 6 (ix (jm_presentOf u n))) url)) (jm_presentOf u n) (jm_within (u 6 (ix (jm_presentOf u n))) url))] [] hc hh (m_enter l D aK ad cA (jm_nh u url (u 6 (ix (jm_presentOf u n))) (jm_within (u 6 (ix (jm_presentOf u n))) url)) n url 0 (jm_push rep url (u 6 (ix (jm_presentOf u n)))) (jm_nd (jm_nh u url (u 6 (ix (jm_presentOf u n))) (jm_within (u 6 (ix (jm_presentOf u n))) url)) (jm_presentOf u n) (jm_within (u 6 (ix (jm_presentOf u n))) url)) (jm_nh_Sh hS) (jm_shown_ex h19) (jm_btw_ub h8) (jm_nd_jq (jm_nh_Sh hS) jm_pr_ex) (jm_Nw_of hn jm_nh_21)) wy_M_159 ⟨by decide, rfl, rfl⟩ (by decide) rfl hl.1 rfl (by decide) ⟨Nat.zero_le _, Nat.zero_le _⟩ d_M_navigate_150 (fun r u9 H locs hp hh _ _ => ?_)
                      rw [hp.2] at hh
                      refine W.eq (g2 := F0 m 153 ls []) rfl ?_
                      refine lv_aload_n hx hb d_M_navigate_153 rfl (lv_at hl 0 rfl) ?_
                      refine jg_M hc hh 21 (by decide) rfl wf_M_130 d_M_navigate_154 ?_
                      exact jx_iret (r := ((jm_enter (jm_nh u url (u 6 (ix (jm_presentOf u n))) (jm_within (u 6 (ix (jm_presentOf u n))) url)) n url 0 (jm_push rep url (u 6 (ix (jm_presentOf u n)))) (jm_nd (jm_nh u url (u 6 (ix (jm_presentOf u n))) (jm_within (u 6 (ix (jm_presentOf u n))) url)) (jm_presentOf u n) (jm_within (u 6 (ix (jm_presentOf u n))) url))) 21 0)) hc hh hQ hlk hr rfl rfl ⟨by unfold jm_navigate jm_navF; rw [if_neg h8, if_neg h19, if_pos h64]; rfl, by unfold jm_navigate jm_navF; rw [if_neg h8, if_neg h19, if_pos h64]; rfl⟩ d_M_navigate_157
                    have e86 : (jm_nd (jm_nh u url (u 6 (ix (jm_presentOf u n))) (jm_within (u 6 (ix (jm_presentOf u n))) url)) (jm_presentOf u n) (jm_within (u 6 (ix (jm_presentOf u n))) url)) = ((jm_nh u url (u 6 (ix (jm_presentOf u n))) (jm_within (u 6 (ix (jm_presentOf u n))) url)) 8 (ix (jm_presentOf u n))) := by simp [jm_nd, h136]
                    refine W.eq (g2 := F0 m 150 ls [.int (jm_nd (jm_nh u url (u 6 (ix (jm_presentOf u n))) (jm_within (u 6 (ix (jm_presentOf u n))) url)) (jm_presentOf u n) (jm_within (u 6 (ix (jm_presentOf u n))) url)), .int (jm_push rep url (u 6 (ix (jm_presentOf u n)))), .int 0, .int url, .int n, .ref (ad 0)]) (by first | (rw [e86]; done) | (rw [e86]; rfl)) ?_
                    refine J150 _ ?_
                    exact lv_sub hl [0] rfl
                  have e87 : (jm_nh u url (u 6 (ix (jm_presentOf u n))) (jm_within (u 6 (ix (jm_presentOf u n))) url)) = u := by first | (simp [jm_nh, h109, h115]; done) | (simp [jm_nh, h109, eq_true h115]; done)
                  refine J128 _ _ _ ?_ ?_
                  ·
                    try rw [e87]
                    exact hh
                  try rw [e87]
                  exact lv_sub hl [1, 2, 3, 4, 6, 0] rfl
                refine lv_aload_n hx hb d_M_navigate_118 rfl (lv_at hl 1 rfl) ?_
                refine lv_dup hx hb d_M_navigate_119 rfl ?_
                refine jg_M hc hh 24 (by decide) rfl wf_M_156 d_M_navigate_120 ?_
                refine lv_iconst (v := 1) hx hb d_M_navigate_123 (by decide) ?_
                refine lv_iadd hx hb d_M_navigate_124 ?_
                refine jpm_24 hc hh wf_M_156 d_M_navigate_125 (fun H locs hh => ?_)
                have J128 : ∀  (H : Heap) (locs : List Loc) (ls : Array Slot), jx_H D 22 ad (jm_cell ad cA (jm_nh u url (u 6 (ix (jm_presentOf u n))) (jm_within (u 6 (ix (jm_presentOf u n))) url))) A s.heap H locs → lv_has ls 8 [(0, .ref (ad 0)), (1, .int n), (2, .int url), (4, .int (jm_presentOf u n)), (6, .int (jm_push rep url (u 6 (ix (jm_presentOf u n))))), (7, .int (jm_within (u 6 (ix (jm_presentOf u n))) url))] → W p l e (jr 7) s m args below meth c H locs 0 0 Q (F0 m 128 ls []) := by
                  intro  H locs ls hh hl
                  refine lv_aload_n hx hb d_M_navigate_128 rfl (lv_at hl 0 rfl) ?_
                  refine lv_iload_n hx hb d_M_navigate_129 rfl (lv_at hl 1 rfl) ?_
                  refine lv_iload_n hx hb d_M_navigate_130 rfl (lv_at hl 2 rfl) ?_
                  refine lv_iconst (v := 0) hx hb d_M_navigate_131 (by decide) ?_
                  refine lv_iload hx hb d_M_navigate_132 (lv_at hl 4 rfl) ?_
                  refine lv_iload hx hb d_M_navigate_134 (lv_at hl 5 rfl) ?_
                  refine lv_if_eq (tgt := 149) hx hb d_M_navigate_136 rfl (fun h136 => ?_) (fun h136 => ?_)
                  ·
                    refine lv_iconst (v := -1) hx hb d_M_navigate_149 (by decide) ?_
                    have J150 : ∀  (ls : Array Slot), lv_has ls 8 [(0, .ref (ad 0))] → W p l e (jr 7) s m args below meth c H locs 0 0 Q (F0 m 150 ls [.int (jm_nd (jm_nh u url (u 6 (ix (jm_presentOf u n))) (jm_within (u 6 (ix (jm_presentOf u n))) url)) (jm_presentOf u n) (jm_within (u 6 (ix (jm_presentOf u n))) url)), .int (jm_push rep url (u 6 (ix (jm_presentOf u n)))), .int 0, .int url, .int n, .ref (ad 0)]) := by
                      intro  ls hl
                      refine jx_callV [.int n, .int url, .int 0, .int (jm_push rep url (u 6 (ix (jm_presentOf u n)))), .int (jm_nd (jm_nh u url (u 6 (ix (jm_presentOf u n))) (jm_within (u 6 (ix (jm_presentOf u n))) url)) (jm_presentOf u n) (jm_within (u 6 (ix (jm_presentOf u n))) url))] [] hc hh (m_enter l D aK ad cA (jm_nh u url (u 6 (ix (jm_presentOf u n))) (jm_within (u 6 (ix (jm_presentOf u n))) url)) n url 0 (jm_push rep url (u 6 (ix (jm_presentOf u n)))) (jm_nd (jm_nh u url (u 6 (ix (jm_presentOf u n))) (jm_within (u 6 (ix (jm_presentOf u n))) url)) (jm_presentOf u n) (jm_within (u 6 (ix (jm_presentOf u n))) url)) (jm_nh_Sh hS) (jm_shown_ex h19) (jm_btw_ub h8) (jm_nd_jq (jm_nh_Sh hS) jm_pr_ex) (jm_Nw_of hn jm_nh_21)) wy_M_159 ⟨by decide, rfl, rfl⟩ (by decide) rfl hl.1 rfl (by decide) ⟨Nat.zero_le _, Nat.zero_le _⟩ d_M_navigate_150 (fun r u9 H locs hp hh _ _ => ?_)
                      rw [hp.2] at hh
                      refine W.eq (g2 := F0 m 153 ls []) rfl ?_
                      refine lv_aload_n hx hb d_M_navigate_153 rfl (lv_at hl 0 rfl) ?_
                      refine jg_M hc hh 21 (by decide) rfl wf_M_130 d_M_navigate_154 ?_
                      exact jx_iret (r := ((jm_enter (jm_nh u url (u 6 (ix (jm_presentOf u n))) (jm_within (u 6 (ix (jm_presentOf u n))) url)) n url 0 (jm_push rep url (u 6 (ix (jm_presentOf u n)))) (jm_nd (jm_nh u url (u 6 (ix (jm_presentOf u n))) (jm_within (u 6 (ix (jm_presentOf u n))) url)) (jm_presentOf u n) (jm_within (u 6 (ix (jm_presentOf u n))) url))) 21 0)) hc hh hQ hlk hr rfl rfl ⟨by unfold jm_navigate jm_navF; rw [if_neg h8, if_neg h19, if_pos h64]; rfl, by unfold jm_navigate jm_navF; rw [if_neg h8, if_neg h19, if_pos h64]; rfl⟩ d_M_navigate_157
                    have e88 : (jm_nd (jm_nh u url (u 6 (ix (jm_presentOf u n))) (jm_within (u 6 (ix (jm_presentOf u n))) url)) (jm_presentOf u n) (jm_within (u 6 (ix (jm_presentOf u n))) url)) = (-1) := by first | (simp [jm_nd, h136]; done) | (simp [jm_nd, eq_true h136]; done)
                    refine W.eq (g2 := F0 m 150 ls [.int (jm_nd (jm_nh u url (u 6 (ix (jm_presentOf u n))) (jm_within (u 6 (ix (jm_presentOf u n))) url)) (jm_presentOf u n) (jm_within (u 6 (ix (jm_presentOf u n))) url)), .int (jm_push rep url (u 6 (ix (jm_presentOf u n)))), .int 0, .int url, .int n, .ref (ad 0)]) (by first | (rw [e88]; done) | (rw [e88]; rfl)) ?_
                    refine J150 _ ?_
                    exact lv_sub hl [0] rfl
                  refine lv_aload_n hx hb d_M_navigate_139 rfl (lv_at hl 0 rfl) ?_
                  refine jg_M hc hh 8 (by decide) rfl wf_M_35 d_M_navigate_140 ?_
                  refine lv_iload hx hb d_M_navigate_143 (lv_at hl 3 rfl) ?_
                  refine jm_ild hc hh 8 (by decide) (by decide) jm_pr_ex d_M_navigate_145 ?_
                  refine lv_goto (tgt := 150) hx hb d_M_navigate_146 rfl ?_
                  have J150 : ∀  (ls : Array Slot), lv_has ls 8 [(0, .ref (ad 0))] → W p l e (jr 7) s m args below meth c H locs 0 0 Q (F0 m 150 ls [.int (jm_nd (jm_nh u url (u 6 (ix (jm_presentOf u n))) (jm_within (u 6 (ix (jm_presentOf u n))) url)) (jm_presentOf u n) (jm_within (u 6 (ix (jm_presentOf u n))) url)), .int (jm_push rep url (u 6 (ix (jm_presentOf u n)))), .int 0, .int url, .int n, .ref (ad 0)]) := by
                    intro  ls hl
                    refine jx_callV [.int n, .int url, .int 0, .int (jm_push rep url (u 6 (ix (jm_presentOf u n)))), .int (jm_nd (jm_nh u url (u 6 (ix (jm_presentOf u n))) (jm_within (u 6 (ix (jm_presentOf u n))) url)) (jm_presentOf u n) (jm_within (u 6 (ix (jm_presentOf u n))) url))] [] hc hh (m_enter l D aK ad cA (jm_nh u url (u 6 (ix (jm_presentOf u n))) (jm_within (u 6 (ix (jm_presentOf u n))) url)) n url 0 (jm_push rep url (u 6 (ix (jm_presentOf u n)))) (jm_nd (jm_nh u url (u 6 (ix (jm_presentOf u n))) (jm_within (u 6 (ix (jm_presentOf u n))) url)) (jm_presentOf u n) (jm_within (u 6 (ix (jm_presentOf u n))) url)) (jm_nh_Sh hS) (jm_shown_ex h19) (jm_btw_ub h8) (jm_nd_jq (jm_nh_Sh hS) jm_pr_ex) (jm_Nw_of hn jm_nh_21)) wy_M_159 ⟨by decide, rfl, rfl⟩ (by decide) rfl hl.1 rfl (by decide) ⟨Nat.zero_le _, Nat.zero_le _⟩ d_M_navigate_150 (fun r u9 H locs hp hh _ _ => ?_)
                    rw [hp.2] at hh
                    refine W.eq (g2 := F0 m 153 ls []) rfl ?_
                    refine lv_aload_n hx hb d_M_navigate_153 rfl (lv_at hl 0 rfl) ?_
                    refine jg_M hc hh 21 (by decide) rfl wf_M_130 d_M_navigate_154 ?_
                    exact jx_iret (r := ((jm_enter (jm_nh u url (u 6 (ix (jm_presentOf u n))) (jm_within (u 6 (ix (jm_presentOf u n))) url)) n url 0 (jm_push rep url (u 6 (ix (jm_presentOf u n)))) (jm_nd (jm_nh u url (u 6 (ix (jm_presentOf u n))) (jm_within (u 6 (ix (jm_presentOf u n))) url)) (jm_presentOf u n) (jm_within (u 6 (ix (jm_presentOf u n))) url))) 21 0)) hc hh hQ hlk hr rfl rfl ⟨by unfold jm_navigate jm_navF; rw [if_neg h8, if_neg h19, if_pos h64]; rfl, by unfold jm_navigate jm_navF; rw [if_neg h8, if_neg h19, if_pos h64]; rfl⟩ d_M_navigate_157
                  have e89 : (jm_nd (jm_nh u url (u 6 (ix (jm_presentOf u n))) (jm_within (u 6 (ix (jm_presentOf u n))) url)) (jm_presentOf u n) (jm_within (u 6 (ix (jm_presentOf u n))) url)) = ((jm_nh u url (u 6 (ix (jm_presentOf u n))) (jm_within (u 6 (ix (jm_presentOf u n))) url)) 8 (ix (jm_presentOf u n))) := by simp [jm_nd, h136]
                  refine W.eq (g2 := F0 m 150 ls [.int (jm_nd (jm_nh u url (u 6 (ix (jm_presentOf u n))) (jm_within (u 6 (ix (jm_presentOf u n))) url)) (jm_presentOf u n) (jm_within (u 6 (ix (jm_presentOf u n))) url)), .int (jm_push rep url (u 6 (ix (jm_presentOf u n)))), .int 0, .int url, .int n, .ref (ad 0)]) (by first | (rw [e89]; done) | (rw [e89]; rfl)) ?_
                  refine J150 _ ?_
                  exact lv_sub hl [0] rfl
                have e90 : (jm_nh u url (u 6 (ix (jm_presentOf u n))) (jm_within (u 6 (ix (jm_presentOf u n))) url)) = (js_up u 24 0 ((u 24 0) + 1)) := by simp [jm_nh, h109, h115]
                refine J128 _ _ _ ?_ ?_
                ·
                  try rw [e90]
                  exact hh
                try rw [e90]
                exact lv_sub hl [1, 2, 3, 4, 6, 0] rfl
              have e91 : (jm_within (u 6 (ix (jm_presentOf u n))) url) = 0 := by first | (simp [jm_within, h64, h72, h79, h85, h97]; done) | (simp [jm_within, eq_true h64, h72, h79, h85, h97]; done)
              refine W.eq (g2 := F0 m 105 ls [.int (jm_within (u 6 (ix (jm_presentOf u n))) url)]) (by first | (rw [e91]; done) | (rw [e91]; rfl)) ?_
              refine J105 _ _ _ ?_ ?_
              ·
                exact hh
              exact lv_sub hl [1, 2, 3, 4, 5, 0] rfl
            refine lv_iconst (v := 1) hx hb d_M_navigate_100 (by decide) ?_
            refine lv_goto (tgt := 105) hx hb d_M_navigate_101 rfl ?_
            have J105 : ∀  (H : Heap) (locs : List Loc) (ls : Array Slot), jx_H D 22 ad (jm_cell ad cA u) A s.heap H locs → lv_has ls 8 [(0, .ref (ad 0)), (1, .int n), (2, .int url), (4, .int (jm_presentOf u n)), (5, .int (u 6 (ix (jm_presentOf u n)))), (6, .int (jm_push rep url (u 6 (ix (jm_presentOf u n)))))] → W p l e (jr 7) s m args below meth c H locs 0 0 Q (F0 m 105 ls [.int (jm_within (u 6 (ix (jm_presentOf u n))) url)]) := by
              intro  H locs ls hh hl
              refine lv_istore (i := 7) (lv' := [(7, .int (jm_within (u 6 (ix (jm_presentOf u n))) url)), (0, .ref (ad 0)), (1, .int n), (2, .int url), (4, .int (jm_presentOf u n)), (5, .int (u 6 (ix (jm_presentOf u n)))), (6, .int (jm_push rep url (u 6 (ix (jm_presentOf u n)))))]) hx hb d_M_navigate_105 hl (by decide) rfl (fun ls hl => ?_)
              refine lv_iload hx hb d_M_navigate_107 (lv_at hl 0 rfl) ?_
              refine lv_if_eq (tgt := 128) hx hb d_M_navigate_109 rfl (fun h109 => ?_) (fun h109 => ?_)
              ·
                have J128 : ∀  (H : Heap) (locs : List Loc) (ls : Array Slot), jx_H D 22 ad (jm_cell ad cA (jm_nh u url (u 6 (ix (jm_presentOf u n))) (jm_within (u 6 (ix (jm_presentOf u n))) url))) A s.heap H locs → lv_has ls 8 [(0, .ref (ad 0)), (1, .int n), (2, .int url), (4, .int (jm_presentOf u n)), (6, .int (jm_push rep url (u 6 (ix (jm_presentOf u n))))), (7, .int (jm_within (u 6 (ix (jm_presentOf u n))) url))] → W p l e (jr 7) s m args below meth c H locs 0 0 Q (F0 m 128 ls []) := by
                  intro  H locs ls hh hl
                  refine lv_aload_n hx hb d_M_navigate_128 rfl (lv_at hl 0 rfl) ?_
                  refine lv_iload_n hx hb d_M_navigate_129 rfl (lv_at hl 1 rfl) ?_
                  refine lv_iload_n hx hb d_M_navigate_130 rfl (lv_at hl 2 rfl) ?_
                  refine lv_iconst (v := 0) hx hb d_M_navigate_131 (by decide) ?_
                  refine lv_iload hx hb d_M_navigate_132 (lv_at hl 4 rfl) ?_
                  refine lv_iload hx hb d_M_navigate_134 (lv_at hl 5 rfl) ?_
                  refine lv_if_eq (tgt := 149) hx hb d_M_navigate_136 rfl (fun h136 => ?_) (fun h136 => ?_)
                  ·
                    refine lv_iconst (v := -1) hx hb d_M_navigate_149 (by decide) ?_
                    have J150 : ∀  (ls : Array Slot), lv_has ls 8 [(0, .ref (ad 0))] → W p l e (jr 7) s m args below meth c H locs 0 0 Q (F0 m 150 ls [.int (jm_nd (jm_nh u url (u 6 (ix (jm_presentOf u n))) (jm_within (u 6 (ix (jm_presentOf u n))) url)) (jm_presentOf u n) (jm_within (u 6 (ix (jm_presentOf u n))) url)), .int (jm_push rep url (u 6 (ix (jm_presentOf u n)))), .int 0, .int url, .int n, .ref (ad 0)]) := by
                      intro  ls hl
                      refine jx_callV [.int n, .int url, .int 0, .int (jm_push rep url (u 6 (ix (jm_presentOf u n)))), .int (jm_nd (jm_nh u url (u 6 (ix (jm_presentOf u n))) (jm_within (u 6 (ix (jm_presentOf u n))) url)) (jm_presentOf u n) (jm_within (u 6 (ix (jm_presentOf u n))) url))] [] hc hh (m_enter l D aK ad cA (jm_nh u url (u 6 (ix (jm_presentOf u n))) (jm_within (u 6 (ix (jm_presentOf u n))) url)) n url 0 (jm_push rep url (u 6 (ix (jm_presentOf u n)))) (jm_nd (jm_nh u url (u 6 (ix (jm_presentOf u n))) (jm_within (u 6 (ix (jm_presentOf u n))) url)) (jm_presentOf u n) (jm_within (u 6 (ix (jm_presentOf u n))) url)) (jm_nh_Sh hS) (jm_shown_ex h19) (jm_btw_ub h8) (jm_nd_jq (jm_nh_Sh hS) jm_pr_ex) (jm_Nw_of hn jm_nh_21)) wy_M_159 ⟨by decide, rfl, rfl⟩ (by decide) rfl hl.1 rfl (by decide) ⟨Nat.zero_le _, Nat.zero_le _⟩ d_M_navigate_150 (fun r u9 H locs hp hh _ _ => ?_)
                      rw [hp.2] at hh
                      refine W.eq (g2 := F0 m 153 ls []) rfl ?_
                      refine lv_aload_n hx hb d_M_navigate_153 rfl (lv_at hl 0 rfl) ?_
                      refine jg_M hc hh 21 (by decide) rfl wf_M_130 d_M_navigate_154 ?_
                      exact jx_iret (r := ((jm_enter (jm_nh u url (u 6 (ix (jm_presentOf u n))) (jm_within (u 6 (ix (jm_presentOf u n))) url)) n url 0 (jm_push rep url (u 6 (ix (jm_presentOf u n)))) (jm_nd (jm_nh u url (u 6 (ix (jm_presentOf u n))) (jm_within (u 6 (ix (jm_presentOf u n))) url)) (jm_presentOf u n) (jm_within (u 6 (ix (jm_presentOf u n))) url))) 21 0)) hc hh hQ hlk hr rfl rfl ⟨by unfold jm_navigate jm_navF; rw [if_neg h8, if_neg h19, if_pos h64]; rfl, by unfold jm_navigate jm_navF; rw [if_neg h8, if_neg h19, if_pos h64]; rfl⟩ d_M_navigate_157
                    have e92 : (jm_nd (jm_nh u url (u 6 (ix (jm_presentOf u n))) (jm_within (u 6 (ix (jm_presentOf u n))) url)) (jm_presentOf u n) (jm_within (u 6 (ix (jm_presentOf u n))) url)) = (-1) := by first | (simp [jm_nd, h136]; done) | (simp [jm_nd, eq_true h136]; done)
                    refine W.eq (g2 := F0 m 150 ls [.int (jm_nd (jm_nh u url (u 6 (ix (jm_presentOf u n))) (jm_within (u 6 (ix (jm_presentOf u n))) url)) (jm_presentOf u n) (jm_within (u 6 (ix (jm_presentOf u n))) url)), .int (jm_push rep url (u 6 (ix (jm_presentOf u n)))), .int 0, .int url, .int n, .ref (ad 0)]) (by first | (rw [e92]; done) | (rw [e92]; rfl)) ?_
                    refine J150 _ ?_
                    exact lv_sub hl [0] rfl
                  refine lv_aload_n hx hb d_M_navigate_139 rfl (lv_at hl 0 rfl) ?_
                  refine jg_M hc hh 8 (by decide) rfl wf_M_35 d_M_navigate_140 ?_
                  refine lv_iload hx hb d_M_navigate_143 (lv_at hl 3 rfl) ?_
                  refine jm_ild hc hh 8 (by decide) (by decide) jm_pr_ex d_M_navigate_145 ?_
                  refine lv_goto (tgt := 150) hx hb d_M_navigate_146 rfl ?_
                  have J150 : ∀  (ls : Array Slot), lv_has ls 8 [(0, .ref (ad 0))] → W p l e (jr 7) s m args below meth c H locs 0 0 Q (F0 m 150 ls [.int (jm_nd (jm_nh u url (u 6 (ix (jm_presentOf u n))) (jm_within (u 6 (ix (jm_presentOf u n))) url)) (jm_presentOf u n) (jm_within (u 6 (ix (jm_presentOf u n))) url)), .int (jm_push rep url (u 6 (ix (jm_presentOf u n)))), .int 0, .int url, .int n, .ref (ad 0)]) := by
                    intro  ls hl
                    refine jx_callV [.int n, .int url, .int 0, .int (jm_push rep url (u 6 (ix (jm_presentOf u n)))), .int (jm_nd (jm_nh u url (u 6 (ix (jm_presentOf u n))) (jm_within (u 6 (ix (jm_presentOf u n))) url)) (jm_presentOf u n) (jm_within (u 6 (ix (jm_presentOf u n))) url))] [] hc hh (m_enter l D aK ad cA (jm_nh u url (u 6 (ix (jm_presentOf u n))) (jm_within (u 6 (ix (jm_presentOf u n))) url)) n url 0 (jm_push rep url (u 6 (ix (jm_presentOf u n)))) (jm_nd (jm_nh u url (u 6 (ix (jm_presentOf u n))) (jm_within (u 6 (ix (jm_presentOf u n))) url)) (jm_presentOf u n) (jm_within (u 6 (ix (jm_presentOf u n))) url)) (jm_nh_Sh hS) (jm_shown_ex h19) (jm_btw_ub h8) (jm_nd_jq (jm_nh_Sh hS) jm_pr_ex) (jm_Nw_of hn jm_nh_21)) wy_M_159 ⟨by decide, rfl, rfl⟩ (by decide) rfl hl.1 rfl (by decide) ⟨Nat.zero_le _, Nat.zero_le _⟩ d_M_navigate_150 (fun r u9 H locs hp hh _ _ => ?_)
                    rw [hp.2] at hh
                    refine W.eq (g2 := F0 m 153 ls []) rfl ?_
                    refine lv_aload_n hx hb d_M_navigate_153 rfl (lv_at hl 0 rfl) ?_
                    refine jg_M hc hh 21 (by decide) rfl wf_M_130 d_M_navigate_154 ?_
                    exact jx_iret (r := ((jm_enter (jm_nh u url (u 6 (ix (jm_presentOf u n))) (jm_within (u 6 (ix (jm_presentOf u n))) url)) n url 0 (jm_push rep url (u 6 (ix (jm_presentOf u n)))) (jm_nd (jm_nh u url (u 6 (ix (jm_presentOf u n))) (jm_within (u 6 (ix (jm_presentOf u n))) url)) (jm_presentOf u n) (jm_within (u 6 (ix (jm_presentOf u n))) url))) 21 0)) hc hh hQ hlk hr rfl rfl ⟨by unfold jm_navigate jm_navF; rw [if_neg h8, if_neg h19, if_pos h64]; rfl, by unfold jm_navigate jm_navF; rw [if_neg h8, if_neg h19, if_pos h64]; rfl⟩ d_M_navigate_157
                  have e93 : (jm_nd (jm_nh u url (u 6 (ix (jm_presentOf u n))) (jm_within (u 6 (ix (jm_presentOf u n))) url)) (jm_presentOf u n) (jm_within (u 6 (ix (jm_presentOf u n))) url)) = ((jm_nh u url (u 6 (ix (jm_presentOf u n))) (jm_within (u 6 (ix (jm_presentOf u n))) url)) 8 (ix (jm_presentOf u n))) := by simp [jm_nd, h136]
                  refine W.eq (g2 := F0 m 150 ls [.int (jm_nd (jm_nh u url (u 6 (ix (jm_presentOf u n))) (jm_within (u 6 (ix (jm_presentOf u n))) url)) (jm_presentOf u n) (jm_within (u 6 (ix (jm_presentOf u n))) url)), .int (jm_push rep url (u 6 (ix (jm_presentOf u n)))), .int 0, .int url, .int n, .ref (ad 0)]) (by first | (rw [e93]; done) | (rw [e93]; rfl)) ?_
                  refine J150 _ ?_
                  exact lv_sub hl [0] rfl
                have e94 : (jm_nh u url (u 6 (ix (jm_presentOf u n))) (jm_within (u 6 (ix (jm_presentOf u n))) url)) = u := by first | (simp [jm_nh, h109]; done) | (simp [jm_nh, eq_true h109]; done)
                refine J128 _ _ _ ?_ ?_
                ·
                  try rw [e94]
                  exact hh
                try rw [e94]
                exact lv_sub hl [1, 2, 3, 4, 6, 0] rfl
              refine lv_iload_n hx hb d_M_navigate_112 rfl (lv_at hl 3 rfl) ?_
              refine lv_iload hx hb d_M_navigate_113 (lv_at hl 5 rfl) ?_
              refine lv_icmp_eq (tgt := 128) hx hb d_M_navigate_115 rfl (fun h115 => ?_) (fun h115 => ?_)
              ·
                have J128 : ∀  (H : Heap) (locs : List Loc) (ls : Array Slot), jx_H D 22 ad (jm_cell ad cA (jm_nh u url (u 6 (ix (jm_presentOf u n))) (jm_within (u 6 (ix (jm_presentOf u n))) url))) A s.heap H locs → lv_has ls 8 [(0, .ref (ad 0)), (1, .int n), (2, .int url), (4, .int (jm_presentOf u n)), (6, .int (jm_push rep url (u 6 (ix (jm_presentOf u n))))), (7, .int (jm_within (u 6 (ix (jm_presentOf u n))) url))] → W p l e (jr 7) s m args below meth c H locs 0 0 Q (F0 m 128 ls []) := by
                  intro  H locs ls hh hl
                  refine lv_aload_n hx hb d_M_navigate_128 rfl (lv_at hl 0 rfl) ?_
                  refine lv_iload_n hx hb d_M_navigate_129 rfl (lv_at hl 1 rfl) ?_
                  refine lv_iload_n hx hb d_M_navigate_130 rfl (lv_at hl 2 rfl) ?_
                  refine lv_iconst (v := 0) hx hb d_M_navigate_131 (by decide) ?_
                  refine lv_iload hx hb d_M_navigate_132 (lv_at hl 4 rfl) ?_
                  refine lv_iload hx hb d_M_navigate_134 (lv_at hl 5 rfl) ?_
                  refine lv_if_eq (tgt := 149) hx hb d_M_navigate_136 rfl (fun h136 => ?_) (fun h136 => ?_)
                  ·
                    refine lv_iconst (v := -1) hx hb d_M_navigate_149 (by decide) ?_
                    have J150 : ∀  (ls : Array Slot), lv_has ls 8 [(0, .ref (ad 0))] → W p l e (jr 7) s m args below meth c H locs 0 0 Q (F0 m 150 ls [.int (jm_nd (jm_nh u url (u 6 (ix (jm_presentOf u n))) (jm_within (u 6 (ix (jm_presentOf u n))) url)) (jm_presentOf u n) (jm_within (u 6 (ix (jm_presentOf u n))) url)), .int (jm_push rep url (u 6 (ix (jm_presentOf u n)))), .int 0, .int url, .int n, .ref (ad 0)]) := by
                      intro  ls hl
                      refine jx_callV [.int n, .int url, .int 0, .int (jm_push rep url (u 6 (ix (jm_presentOf u n)))), .int (jm_nd (jm_nh u url (u 6 (ix (jm_presentOf u n))) (jm_within (u 6 (ix (jm_presentOf u n))) url)) (jm_presentOf u n) (jm_within (u 6 (ix (jm_presentOf u n))) url))] [] hc hh (m_enter l D aK ad cA (jm_nh u url (u 6 (ix (jm_presentOf u n))) (jm_within (u 6 (ix (jm_presentOf u n))) url)) n url 0 (jm_push rep url (u 6 (ix (jm_presentOf u n)))) (jm_nd (jm_nh u url (u 6 (ix (jm_presentOf u n))) (jm_within (u 6 (ix (jm_presentOf u n))) url)) (jm_presentOf u n) (jm_within (u 6 (ix (jm_presentOf u n))) url)) (jm_nh_Sh hS) (jm_shown_ex h19) (jm_btw_ub h8) (jm_nd_jq (jm_nh_Sh hS) jm_pr_ex) (jm_Nw_of hn jm_nh_21)) wy_M_159 ⟨by decide, rfl, rfl⟩ (by decide) rfl hl.1 rfl (by decide) ⟨Nat.zero_le _, Nat.zero_le _⟩ d_M_navigate_150 (fun r u9 H locs hp hh _ _ => ?_)
                      rw [hp.2] at hh
                      refine W.eq (g2 := F0 m 153 ls []) rfl ?_
                      refine lv_aload_n hx hb d_M_navigate_153 rfl (lv_at hl 0 rfl) ?_
                      refine jg_M hc hh 21 (by decide) rfl wf_M_130 d_M_navigate_154 ?_
                      exact jx_iret (r := ((jm_enter (jm_nh u url (u 6 (ix (jm_presentOf u n))) (jm_within (u 6 (ix (jm_presentOf u n))) url)) n url 0 (jm_push rep url (u 6 (ix (jm_presentOf u n)))) (jm_nd (jm_nh u url (u 6 (ix (jm_presentOf u n))) (jm_within (u 6 (ix (jm_presentOf u n))) url)) (jm_presentOf u n) (jm_within (u 6 (ix (jm_presentOf u n))) url))) 21 0)) hc hh hQ hlk hr rfl rfl ⟨by unfold jm_navigate jm_navF; rw [if_neg h8, if_neg h19, if_pos h64]; rfl, by unfold jm_navigate jm_navF; rw [if_neg h8, if_neg h19, if_pos h64]; rfl⟩ d_M_navigate_157
                    have e95 : (jm_nd (jm_nh u url (u 6 (ix (jm_presentOf u n))) (jm_within (u 6 (ix (jm_presentOf u n))) url)) (jm_presentOf u n) (jm_within (u 6 (ix (jm_presentOf u n))) url)) = (-1) := by first | (simp [jm_nd, h136]; done) | (simp [jm_nd, eq_true h136]; done)
                    refine W.eq (g2 := F0 m 150 ls [.int (jm_nd (jm_nh u url (u 6 (ix (jm_presentOf u n))) (jm_within (u 6 (ix (jm_presentOf u n))) url)) (jm_presentOf u n) (jm_within (u 6 (ix (jm_presentOf u n))) url)), .int (jm_push rep url (u 6 (ix (jm_presentOf u n)))), .int 0, .int url, .int n, .ref (ad 0)]) (by first | (rw [e95]; done) | (rw [e95]; rfl)) ?_
                    refine J150 _ ?_
                    exact lv_sub hl [0] rfl
                  refine lv_aload_n hx hb d_M_navigate_139 rfl (lv_at hl 0 rfl) ?_
                  refine jg_M hc hh 8 (by decide) rfl wf_M_35 d_M_navigate_140 ?_
                  refine lv_iload hx hb d_M_navigate_143 (lv_at hl 3 rfl) ?_
                  refine jm_ild hc hh 8 (by decide) (by decide) jm_pr_ex d_M_navigate_145 ?_
                  refine lv_goto (tgt := 150) hx hb d_M_navigate_146 rfl ?_
                  have J150 : ∀  (ls : Array Slot), lv_has ls 8 [(0, .ref (ad 0))] → W p l e (jr 7) s m args below meth c H locs 0 0 Q (F0 m 150 ls [.int (jm_nd (jm_nh u url (u 6 (ix (jm_presentOf u n))) (jm_within (u 6 (ix (jm_presentOf u n))) url)) (jm_presentOf u n) (jm_within (u 6 (ix (jm_presentOf u n))) url)), .int (jm_push rep url (u 6 (ix (jm_presentOf u n)))), .int 0, .int url, .int n, .ref (ad 0)]) := by
                    intro  ls hl
                    refine jx_callV [.int n, .int url, .int 0, .int (jm_push rep url (u 6 (ix (jm_presentOf u n)))), .int (jm_nd (jm_nh u url (u 6 (ix (jm_presentOf u n))) (jm_within (u 6 (ix (jm_presentOf u n))) url)) (jm_presentOf u n) (jm_within (u 6 (ix (jm_presentOf u n))) url))] [] hc hh (m_enter l D aK ad cA (jm_nh u url (u 6 (ix (jm_presentOf u n))) (jm_within (u 6 (ix (jm_presentOf u n))) url)) n url 0 (jm_push rep url (u 6 (ix (jm_presentOf u n)))) (jm_nd (jm_nh u url (u 6 (ix (jm_presentOf u n))) (jm_within (u 6 (ix (jm_presentOf u n))) url)) (jm_presentOf u n) (jm_within (u 6 (ix (jm_presentOf u n))) url)) (jm_nh_Sh hS) (jm_shown_ex h19) (jm_btw_ub h8) (jm_nd_jq (jm_nh_Sh hS) jm_pr_ex) (jm_Nw_of hn jm_nh_21)) wy_M_159 ⟨by decide, rfl, rfl⟩ (by decide) rfl hl.1 rfl (by decide) ⟨Nat.zero_le _, Nat.zero_le _⟩ d_M_navigate_150 (fun r u9 H locs hp hh _ _ => ?_)
                    rw [hp.2] at hh
                    refine W.eq (g2 := F0 m 153 ls []) rfl ?_
                    refine lv_aload_n hx hb d_M_navigate_153 rfl (lv_at hl 0 rfl) ?_
                    refine jg_M hc hh 21 (by decide) rfl wf_M_130 d_M_navigate_154 ?_
                    exact jx_iret (r := ((jm_enter (jm_nh u url (u 6 (ix (jm_presentOf u n))) (jm_within (u 6 (ix (jm_presentOf u n))) url)) n url 0 (jm_push rep url (u 6 (ix (jm_presentOf u n)))) (jm_nd (jm_nh u url (u 6 (ix (jm_presentOf u n))) (jm_within (u 6 (ix (jm_presentOf u n))) url)) (jm_presentOf u n) (jm_within (u 6 (ix (jm_presentOf u n))) url))) 21 0)) hc hh hQ hlk hr rfl rfl ⟨by unfold jm_navigate jm_navF; rw [if_neg h8, if_neg h19, if_pos h64]; rfl, by unfold jm_navigate jm_navF; rw [if_neg h8, if_neg h19, if_pos h64]; rfl⟩ d_M_navigate_157
                  have e96 : (jm_nd (jm_nh u url (u 6 (ix (jm_presentOf u n))) (jm_within (u 6 (ix (jm_presentOf u n))) url)) (jm_presentOf u n) (jm_within (u 6 (ix (jm_presentOf u n))) url)) = ((jm_nh u url (u 6 (ix (jm_presentOf u n))) (jm_within (u 6 (ix (jm_presentOf u n))) url)) 8 (ix (jm_presentOf u n))) := by simp [jm_nd, h136]
                  refine W.eq (g2 := F0 m 150 ls [.int (jm_nd (jm_nh u url (u 6 (ix (jm_presentOf u n))) (jm_within (u 6 (ix (jm_presentOf u n))) url)) (jm_presentOf u n) (jm_within (u 6 (ix (jm_presentOf u n))) url)), .int (jm_push rep url (u 6 (ix (jm_presentOf u n)))), .int 0, .int url, .int n, .ref (ad 0)]) (by first | (rw [e96]; done) | (rw [e96]; rfl)) ?_
                  refine J150 _ ?_
                  exact lv_sub hl [0] rfl
                have e97 : (jm_nh u url (u 6 (ix (jm_presentOf u n))) (jm_within (u 6 (ix (jm_presentOf u n))) url)) = u := by first | (simp [jm_nh, h109, h115]; done) | (simp [jm_nh, h109, eq_true h115]; done)
                refine J128 _ _ _ ?_ ?_
                ·
                  try rw [e97]
                  exact hh
                try rw [e97]
                exact lv_sub hl [1, 2, 3, 4, 6, 0] rfl
              refine lv_aload_n hx hb d_M_navigate_118 rfl (lv_at hl 1 rfl) ?_
              refine lv_dup hx hb d_M_navigate_119 rfl ?_
              refine jg_M hc hh 24 (by decide) rfl wf_M_156 d_M_navigate_120 ?_
              refine lv_iconst (v := 1) hx hb d_M_navigate_123 (by decide) ?_
              refine lv_iadd hx hb d_M_navigate_124 ?_
              refine jpm_24 hc hh wf_M_156 d_M_navigate_125 (fun H locs hh => ?_)
              have J128 : ∀  (H : Heap) (locs : List Loc) (ls : Array Slot), jx_H D 22 ad (jm_cell ad cA (jm_nh u url (u 6 (ix (jm_presentOf u n))) (jm_within (u 6 (ix (jm_presentOf u n))) url))) A s.heap H locs → lv_has ls 8 [(0, .ref (ad 0)), (1, .int n), (2, .int url), (4, .int (jm_presentOf u n)), (6, .int (jm_push rep url (u 6 (ix (jm_presentOf u n))))), (7, .int (jm_within (u 6 (ix (jm_presentOf u n))) url))] → W p l e (jr 7) s m args below meth c H locs 0 0 Q (F0 m 128 ls []) := by
                intro  H locs ls hh hl
                refine lv_aload_n hx hb d_M_navigate_128 rfl (lv_at hl 0 rfl) ?_
                refine lv_iload_n hx hb d_M_navigate_129 rfl (lv_at hl 1 rfl) ?_
                refine lv_iload_n hx hb d_M_navigate_130 rfl (lv_at hl 2 rfl) ?_
                refine lv_iconst (v := 0) hx hb d_M_navigate_131 (by decide) ?_
                refine lv_iload hx hb d_M_navigate_132 (lv_at hl 4 rfl) ?_
                refine lv_iload hx hb d_M_navigate_134 (lv_at hl 5 rfl) ?_
                refine lv_if_eq (tgt := 149) hx hb d_M_navigate_136 rfl (fun h136 => ?_) (fun h136 => ?_)
                ·
                  refine lv_iconst (v := -1) hx hb d_M_navigate_149 (by decide) ?_
                  have J150 : ∀  (ls : Array Slot), lv_has ls 8 [(0, .ref (ad 0))] → W p l e (jr 7) s m args below meth c H locs 0 0 Q (F0 m 150 ls [.int (jm_nd (jm_nh u url (u 6 (ix (jm_presentOf u n))) (jm_within (u 6 (ix (jm_presentOf u n))) url)) (jm_presentOf u n) (jm_within (u 6 (ix (jm_presentOf u n))) url)), .int (jm_push rep url (u 6 (ix (jm_presentOf u n)))), .int 0, .int url, .int n, .ref (ad 0)]) := by
                    intro  ls hl
                    refine jx_callV [.int n, .int url, .int 0, .int (jm_push rep url (u 6 (ix (jm_presentOf u n)))), .int (jm_nd (jm_nh u url (u 6 (ix (jm_presentOf u n))) (jm_within (u 6 (ix (jm_presentOf u n))) url)) (jm_presentOf u n) (jm_within (u 6 (ix (jm_presentOf u n))) url))] [] hc hh (m_enter l D aK ad cA (jm_nh u url (u 6 (ix (jm_presentOf u n))) (jm_within (u 6 (ix (jm_presentOf u n))) url)) n url 0 (jm_push rep url (u 6 (ix (jm_presentOf u n)))) (jm_nd (jm_nh u url (u 6 (ix (jm_presentOf u n))) (jm_within (u 6 (ix (jm_presentOf u n))) url)) (jm_presentOf u n) (jm_within (u 6 (ix (jm_presentOf u n))) url)) (jm_nh_Sh hS) (jm_shown_ex h19) (jm_btw_ub h8) (jm_nd_jq (jm_nh_Sh hS) jm_pr_ex) (jm_Nw_of hn jm_nh_21)) wy_M_159 ⟨by decide, rfl, rfl⟩ (by decide) rfl hl.1 rfl (by decide) ⟨Nat.zero_le _, Nat.zero_le _⟩ d_M_navigate_150 (fun r u9 H locs hp hh _ _ => ?_)
                    rw [hp.2] at hh
                    refine W.eq (g2 := F0 m 153 ls []) rfl ?_
                    refine lv_aload_n hx hb d_M_navigate_153 rfl (lv_at hl 0 rfl) ?_
                    refine jg_M hc hh 21 (by decide) rfl wf_M_130 d_M_navigate_154 ?_
                    exact jx_iret (r := ((jm_enter (jm_nh u url (u 6 (ix (jm_presentOf u n))) (jm_within (u 6 (ix (jm_presentOf u n))) url)) n url 0 (jm_push rep url (u 6 (ix (jm_presentOf u n)))) (jm_nd (jm_nh u url (u 6 (ix (jm_presentOf u n))) (jm_within (u 6 (ix (jm_presentOf u n))) url)) (jm_presentOf u n) (jm_within (u 6 (ix (jm_presentOf u n))) url))) 21 0)) hc hh hQ hlk hr rfl rfl ⟨by unfold jm_navigate jm_navF; rw [if_neg h8, if_neg h19, if_pos h64]; rfl, by unfold jm_navigate jm_navF; rw [if_neg h8, if_neg h19, if_pos h64]; rfl⟩ d_M_navigate_157
                  have e98 : (jm_nd (jm_nh u url (u 6 (ix (jm_presentOf u n))) (jm_within (u 6 (ix (jm_presentOf u n))) url)) (jm_presentOf u n) (jm_within (u 6 (ix (jm_presentOf u n))) url)) = (-1) := by first | (simp [jm_nd, h136]; done) | (simp [jm_nd, eq_true h136]; done)
                  refine W.eq (g2 := F0 m 150 ls [.int (jm_nd (jm_nh u url (u 6 (ix (jm_presentOf u n))) (jm_within (u 6 (ix (jm_presentOf u n))) url)) (jm_presentOf u n) (jm_within (u 6 (ix (jm_presentOf u n))) url)), .int (jm_push rep url (u 6 (ix (jm_presentOf u n)))), .int 0, .int url, .int n, .ref (ad 0)]) (by first | (rw [e98]; done) | (rw [e98]; rfl)) ?_
                  refine J150 _ ?_
                  exact lv_sub hl [0] rfl
                refine lv_aload_n hx hb d_M_navigate_139 rfl (lv_at hl 0 rfl) ?_
                refine jg_M hc hh 8 (by decide) rfl wf_M_35 d_M_navigate_140 ?_
                refine lv_iload hx hb d_M_navigate_143 (lv_at hl 3 rfl) ?_
                refine jm_ild hc hh 8 (by decide) (by decide) jm_pr_ex d_M_navigate_145 ?_
                refine lv_goto (tgt := 150) hx hb d_M_navigate_146 rfl ?_
                have J150 : ∀  (ls : Array Slot), lv_has ls 8 [(0, .ref (ad 0))] → W p l e (jr 7) s m args below meth c H locs 0 0 Q (F0 m 150 ls [.int (jm_nd (jm_nh u url (u 6 (ix (jm_presentOf u n))) (jm_within (u 6 (ix (jm_presentOf u n))) url)) (jm_presentOf u n) (jm_within (u 6 (ix (jm_presentOf u n))) url)), .int (jm_push rep url (u 6 (ix (jm_presentOf u n)))), .int 0, .int url, .int n, .ref (ad 0)]) := by
                  intro  ls hl
                  refine jx_callV [.int n, .int url, .int 0, .int (jm_push rep url (u 6 (ix (jm_presentOf u n)))), .int (jm_nd (jm_nh u url (u 6 (ix (jm_presentOf u n))) (jm_within (u 6 (ix (jm_presentOf u n))) url)) (jm_presentOf u n) (jm_within (u 6 (ix (jm_presentOf u n))) url))] [] hc hh (m_enter l D aK ad cA (jm_nh u url (u 6 (ix (jm_presentOf u n))) (jm_within (u 6 (ix (jm_presentOf u n))) url)) n url 0 (jm_push rep url (u 6 (ix (jm_presentOf u n)))) (jm_nd (jm_nh u url (u 6 (ix (jm_presentOf u n))) (jm_within (u 6 (ix (jm_presentOf u n))) url)) (jm_presentOf u n) (jm_within (u 6 (ix (jm_presentOf u n))) url)) (jm_nh_Sh hS) (jm_shown_ex h19) (jm_btw_ub h8) (jm_nd_jq (jm_nh_Sh hS) jm_pr_ex) (jm_Nw_of hn jm_nh_21)) wy_M_159 ⟨by decide, rfl, rfl⟩ (by decide) rfl hl.1 rfl (by decide) ⟨Nat.zero_le _, Nat.zero_le _⟩ d_M_navigate_150 (fun r u9 H locs hp hh _ _ => ?_)
                  rw [hp.2] at hh
                  refine W.eq (g2 := F0 m 153 ls []) rfl ?_
                  refine lv_aload_n hx hb d_M_navigate_153 rfl (lv_at hl 0 rfl) ?_
                  refine jg_M hc hh 21 (by decide) rfl wf_M_130 d_M_navigate_154 ?_
                  exact jx_iret (r := ((jm_enter (jm_nh u url (u 6 (ix (jm_presentOf u n))) (jm_within (u 6 (ix (jm_presentOf u n))) url)) n url 0 (jm_push rep url (u 6 (ix (jm_presentOf u n)))) (jm_nd (jm_nh u url (u 6 (ix (jm_presentOf u n))) (jm_within (u 6 (ix (jm_presentOf u n))) url)) (jm_presentOf u n) (jm_within (u 6 (ix (jm_presentOf u n))) url))) 21 0)) hc hh hQ hlk hr rfl rfl ⟨by unfold jm_navigate jm_navF; rw [if_neg h8, if_neg h19, if_pos h64]; rfl, by unfold jm_navigate jm_navF; rw [if_neg h8, if_neg h19, if_pos h64]; rfl⟩ d_M_navigate_157
                have e99 : (jm_nd (jm_nh u url (u 6 (ix (jm_presentOf u n))) (jm_within (u 6 (ix (jm_presentOf u n))) url)) (jm_presentOf u n) (jm_within (u 6 (ix (jm_presentOf u n))) url)) = ((jm_nh u url (u 6 (ix (jm_presentOf u n))) (jm_within (u 6 (ix (jm_presentOf u n))) url)) 8 (ix (jm_presentOf u n))) := by simp [jm_nd, h136]
                refine W.eq (g2 := F0 m 150 ls [.int (jm_nd (jm_nh u url (u 6 (ix (jm_presentOf u n))) (jm_within (u 6 (ix (jm_presentOf u n))) url)) (jm_presentOf u n) (jm_within (u 6 (ix (jm_presentOf u n))) url)), .int (jm_push rep url (u 6 (ix (jm_presentOf u n)))), .int 0, .int url, .int n, .ref (ad 0)]) (by first | (rw [e99]; done) | (rw [e99]; rfl)) ?_
                refine J150 _ ?_
                exact lv_sub hl [0] rfl
              have e100 : (jm_nh u url (u 6 (ix (jm_presentOf u n))) (jm_within (u 6 (ix (jm_presentOf u n))) url)) = (js_up u 24 0 ((u 24 0) + 1)) := by simp [jm_nh, h109, h115]
              refine J128 _ _ _ ?_ ?_
              ·
                try rw [e100]
                exact hh
              try rw [e100]
              exact lv_sub hl [1, 2, 3, 4, 6, 0] rfl
            have e101 : (jm_within (u 6 (ix (jm_presentOf u n))) url) = 1 := by first | (simp [jm_within, h64, h72, h79, h85, h97]; done) | (simp [jm_within, eq_true h64, h72, h79, h85, eq_true h97]; done)
            refine W.eq (g2 := F0 m 105 ls [.int (jm_within (u 6 (ix (jm_presentOf u n))) url)]) (by first | (rw [e101]; done) | (rw [e101]; rfl)) ?_
            refine J105 _ _ _ ?_ ?_
            ·
              exact hh
            exact lv_sub hl [1, 2, 3, 4, 5, 0] rfl
          refine lv_bipush (v := -5) hx hb d_M_navigate_67 (by decide) ?_
          exact jx_iret (r := (-5)) hc hh hQ hlk hr rfl rfl ⟨by rw [show jm_navigate u n url rep = (-5, u) from by unfold jm_navigate jm_navF; rw [if_neg h8, if_neg h19, if_neg h64]], by rw [show jm_navigate u n url rep = (-5, u) from by unfold jm_navigate jm_navF; rw [if_neg h8, if_neg h19, if_neg h64]]⟩ d_M_navigate_69
        have e102 : (jm_push rep url (u 6 (ix (jm_presentOf u n)))) = 0 := by first | (simp [jm_push, h8, h19, h42, h48]; done) | (simp [jm_push, h8, h19, eq_true h42, eq_true h48]; done)
        refine W.eq (g2 := F0 m 56 ls [.int (jm_push rep url (u 6 (ix (jm_presentOf u n))))]) (by first | (rw [e102]; done) | (rw [e102]; rfl)) ?_
        refine J56 _ _ _ ?_ ?_
        ·
          exact hh
        exact lv_sub hl [2, 3, 4, 1, 0] rfl
      refine lv_iconst (v := 1) hx hb d_M_navigate_51 (by decide) ?_
      refine lv_goto (tgt := 56) hx hb d_M_navigate_52 rfl ?_
      have J56 : ∀  (H : Heap) (locs : List Loc) (ls : Array Slot), jx_H D 22 ad (jm_cell ad cA u) A s.heap H locs → lv_has ls 8 [(0, .ref (ad 0)), (1, .int n), (2, .int url), (4, .int (jm_presentOf u n)), (5, .int (u 6 (ix (jm_presentOf u n))))] → W p l e (jr 7) s m args below meth c H locs 0 0 Q (F0 m 56 ls [.int (jm_push rep url (u 6 (ix (jm_presentOf u n))))]) := by
        intro  H locs ls hh hl
        refine lv_istore (i := 6) (lv' := [(6, .int (jm_push rep url (u 6 (ix (jm_presentOf u n))))), (0, .ref (ad 0)), (1, .int n), (2, .int url), (4, .int (jm_presentOf u n)), (5, .int (u 6 (ix (jm_presentOf u n))))]) hx hb d_M_navigate_56 hl (by decide) rfl (fun ls hl => ?_)
        refine lv_aload_n hx hb d_M_navigate_58 rfl (lv_at hl 1 rfl) ?_
        refine lv_iload hx hb d_M_navigate_59 (lv_at hl 0 rfl) ?_
        refine jx_callV [.int (jm_push rep url (u 6 (ix (jm_presentOf u n))))] [] hc hh (m_full l D aK ad cA u (jm_push rep url (u 6 (ix (jm_presentOf u n))))) wy_M_149 ⟨by decide, rfl, rfl⟩ (by decide) rfl hl.1 rfl (by decide) ⟨Nat.zero_le _, Nat.zero_le _⟩ d_M_navigate_61 (fun r u9 H locs hp hh _ _ => ?_)
        rw [hp.2] at hh
        refine W.eq (g2 := F0 m 64 ls [.int (jm_full u (jm_push rep url (u 6 (ix (jm_presentOf u n)))))]) (by rw [hp.1]; rfl) ?_
        refine lv_if_eq (tgt := 70) hx hb d_M_navigate_64 rfl (fun h64 => ?_) (fun h64 => ?_)
        ·
          refine lv_iload_n hx hb d_M_navigate_70 rfl (lv_at hl 3 rfl) ?_
          refine lv_iconst (v := -1) hx hb d_M_navigate_71 (by decide) ?_
          refine lv_icmp_eq (tgt := 104) hx hb d_M_navigate_72 rfl (fun h72 => ?_) (fun h72 => ?_)
          ·
            refine lv_iconst (v := 0) hx hb d_M_navigate_104 (by decide) ?_
            have J105 : ∀  (H : Heap) (locs : List Loc) (ls : Array Slot), jx_H D 22 ad (jm_cell ad cA u) A s.heap H locs → lv_has ls 8 [(0, .ref (ad 0)), (1, .int n), (2, .int url), (4, .int (jm_presentOf u n)), (5, .int (u 6 (ix (jm_presentOf u n)))), (6, .int (jm_push rep url (u 6 (ix (jm_presentOf u n)))))] → W p l e (jr 7) s m args below meth c H locs 0 0 Q (F0 m 105 ls [.int (jm_within (u 6 (ix (jm_presentOf u n))) url)]) := by
              intro  H locs ls hh hl
              refine lv_istore (i := 7) (lv' := [(7, .int (jm_within (u 6 (ix (jm_presentOf u n))) url)), (0, .ref (ad 0)), (1, .int n), (2, .int url), (4, .int (jm_presentOf u n)), (5, .int (u 6 (ix (jm_presentOf u n)))), (6, .int (jm_push rep url (u 6 (ix (jm_presentOf u n)))))]) hx hb d_M_navigate_105 hl (by decide) rfl (fun ls hl => ?_)
              refine lv_iload hx hb d_M_navigate_107 (lv_at hl 0 rfl) ?_
              refine lv_if_eq (tgt := 128) hx hb d_M_navigate_109 rfl (fun h109 => ?_) (fun h109 => ?_)
              ·
                have J128 : ∀  (H : Heap) (locs : List Loc) (ls : Array Slot), jx_H D 22 ad (jm_cell ad cA (jm_nh u url (u 6 (ix (jm_presentOf u n))) (jm_within (u 6 (ix (jm_presentOf u n))) url))) A s.heap H locs → lv_has ls 8 [(0, .ref (ad 0)), (1, .int n), (2, .int url), (4, .int (jm_presentOf u n)), (6, .int (jm_push rep url (u 6 (ix (jm_presentOf u n))))), (7, .int (jm_within (u 6 (ix (jm_presentOf u n))) url))] → W p l e (jr 7) s m args below meth c H locs 0 0 Q (F0 m 128 ls []) := by
                  intro  H locs ls hh hl
                  refine lv_aload_n hx hb d_M_navigate_128 rfl (lv_at hl 0 rfl) ?_
                  refine lv_iload_n hx hb d_M_navigate_129 rfl (lv_at hl 1 rfl) ?_
                  refine lv_iload_n hx hb d_M_navigate_130 rfl (lv_at hl 2 rfl) ?_
                  refine lv_iconst (v := 0) hx hb d_M_navigate_131 (by decide) ?_
                  refine lv_iload hx hb d_M_navigate_132 (lv_at hl 4 rfl) ?_
                  refine lv_iload hx hb d_M_navigate_134 (lv_at hl 5 rfl) ?_
                  refine lv_if_eq (tgt := 149) hx hb d_M_navigate_136 rfl (fun h136 => ?_) (fun h136 => ?_)
                  ·
                    refine lv_iconst (v := -1) hx hb d_M_navigate_149 (by decide) ?_
                    have J150 : ∀  (ls : Array Slot), lv_has ls 8 [(0, .ref (ad 0))] → W p l e (jr 7) s m args below meth c H locs 0 0 Q (F0 m 150 ls [.int (jm_nd (jm_nh u url (u 6 (ix (jm_presentOf u n))) (jm_within (u 6 (ix (jm_presentOf u n))) url)) (jm_presentOf u n) (jm_within (u 6 (ix (jm_presentOf u n))) url)), .int (jm_push rep url (u 6 (ix (jm_presentOf u n)))), .int 0, .int url, .int n, .ref (ad 0)]) := by
                      intro  ls hl
                      refine jx_callV [.int n, .int url, .int 0, .int (jm_push rep url (u 6 (ix (jm_presentOf u n)))), .int (jm_nd (jm_nh u url (u 6 (ix (jm_presentOf u n))) (jm_within (u 6 (ix (jm_presentOf u n))) url)) (jm_presentOf u n) (jm_within (u 6 (ix (jm_presentOf u n))) url))] [] hc hh (m_enter l D aK ad cA (jm_nh u url (u 6 (ix (jm_presentOf u n))) (jm_within (u 6 (ix (jm_presentOf u n))) url)) n url 0 (jm_push rep url (u 6 (ix (jm_presentOf u n)))) (jm_nd (jm_nh u url (u 6 (ix (jm_presentOf u n))) (jm_within (u 6 (ix (jm_presentOf u n))) url)) (jm_presentOf u n) (jm_within (u 6 (ix (jm_presentOf u n))) url)) (jm_nh_Sh hS) (jm_shown_ex h19) (jm_btw_ub h8) (jm_nd_jq (jm_nh_Sh hS) jm_pr_ex) (jm_Nw_of hn jm_nh_21)) wy_M_159 ⟨by decide, rfl, rfl⟩ (by decide) rfl hl.1 rfl (by decide) ⟨Nat.zero_le _, Nat.zero_le _⟩ d_M_navigate_150 (fun r u9 H locs hp hh _ _ => ?_)
                      rw [hp.2] at hh
                      refine W.eq (g2 := F0 m 153 ls []) rfl ?_
                      refine lv_aload_n hx hb d_M_navigate_153 rfl (lv_at hl 0 rfl) ?_
                      refine jg_M hc hh 21 (by decide) rfl wf_M_130 d_M_navigate_154 ?_
                      exact jx_iret (r := ((jm_enter (jm_nh u url (u 6 (ix (jm_presentOf u n))) (jm_within (u 6 (ix (jm_presentOf u n))) url)) n url 0 (jm_push rep url (u 6 (ix (jm_presentOf u n)))) (jm_nd (jm_nh u url (u 6 (ix (jm_presentOf u n))) (jm_within (u 6 (ix (jm_presentOf u n))) url)) (jm_presentOf u n) (jm_within (u 6 (ix (jm_presentOf u n))) url))) 21 0)) hc hh hQ hlk hr rfl rfl ⟨by unfold jm_navigate jm_navF; rw [if_neg h8, if_neg h19, if_pos h64]; rfl, by unfold jm_navigate jm_navF; rw [if_neg h8, if_neg h19, if_pos h64]; rfl⟩ d_M_navigate_157
                    have e103 : (jm_nd (jm_nh u url (u 6 (ix (jm_presentOf u n))) (jm_within (u 6 (ix (jm_presentOf u n))) url)) (jm_presentOf u n) (jm_within (u 6 (ix (jm_presentOf u n))) url)) = (-1) := by first | (simp [jm_nd, h136]; done) | (simp [jm_nd, eq_true h136]; done)
                    refine W.eq (g2 := F0 m 150 ls [.int (jm_nd (jm_nh u url (u 6 (ix (jm_presentOf u n))) (jm_within (u 6 (ix (jm_presentOf u n))) url)) (jm_presentOf u n) (jm_within (u 6 (ix (jm_presentOf u n))) url)), .int (jm_push rep url (u 6 (ix (jm_presentOf u n)))), .int 0, .int url, .int n, .ref (ad 0)]) (by first | (rw [e103]; done) | (rw [e103]; rfl)) ?_
                    refine J150 _ ?_
                    exact lv_sub hl [0] rfl
                  refine lv_aload_n hx hb d_M_navigate_139 rfl (lv_at hl 0 rfl) ?_
                  refine jg_M hc hh 8 (by decide) rfl wf_M_35 d_M_navigate_140 ?_
                  refine lv_iload hx hb d_M_navigate_143 (lv_at hl 3 rfl) ?_
                  refine jm_ild hc hh 8 (by decide) (by decide) jm_pr_ex d_M_navigate_145 ?_
                  refine lv_goto (tgt := 150) hx hb d_M_navigate_146 rfl ?_
                  have J150 : ∀  (ls : Array Slot), lv_has ls 8 [(0, .ref (ad 0))] → W p l e (jr 7) s m args below meth c H locs 0 0 Q (F0 m 150 ls [.int (jm_nd (jm_nh u url (u 6 (ix (jm_presentOf u n))) (jm_within (u 6 (ix (jm_presentOf u n))) url)) (jm_presentOf u n) (jm_within (u 6 (ix (jm_presentOf u n))) url)), .int (jm_push rep url (u 6 (ix (jm_presentOf u n)))), .int 0, .int url, .int n, .ref (ad 0)]) := by
                    intro  ls hl
                    refine jx_callV [.int n, .int url, .int 0, .int (jm_push rep url (u 6 (ix (jm_presentOf u n)))), .int (jm_nd (jm_nh u url (u 6 (ix (jm_presentOf u n))) (jm_within (u 6 (ix (jm_presentOf u n))) url)) (jm_presentOf u n) (jm_within (u 6 (ix (jm_presentOf u n))) url))] [] hc hh (m_enter l D aK ad cA (jm_nh u url (u 6 (ix (jm_presentOf u n))) (jm_within (u 6 (ix (jm_presentOf u n))) url)) n url 0 (jm_push rep url (u 6 (ix (jm_presentOf u n)))) (jm_nd (jm_nh u url (u 6 (ix (jm_presentOf u n))) (jm_within (u 6 (ix (jm_presentOf u n))) url)) (jm_presentOf u n) (jm_within (u 6 (ix (jm_presentOf u n))) url)) (jm_nh_Sh hS) (jm_shown_ex h19) (jm_btw_ub h8) (jm_nd_jq (jm_nh_Sh hS) jm_pr_ex) (jm_Nw_of hn jm_nh_21)) wy_M_159 ⟨by decide, rfl, rfl⟩ (by decide) rfl hl.1 rfl (by decide) ⟨Nat.zero_le _, Nat.zero_le _⟩ d_M_navigate_150 (fun r u9 H locs hp hh _ _ => ?_)
                    rw [hp.2] at hh
                    refine W.eq (g2 := F0 m 153 ls []) rfl ?_
                    refine lv_aload_n hx hb d_M_navigate_153 rfl (lv_at hl 0 rfl) ?_
                    refine jg_M hc hh 21 (by decide) rfl wf_M_130 d_M_navigate_154 ?_
                    exact jx_iret (r := ((jm_enter (jm_nh u url (u 6 (ix (jm_presentOf u n))) (jm_within (u 6 (ix (jm_presentOf u n))) url)) n url 0 (jm_push rep url (u 6 (ix (jm_presentOf u n)))) (jm_nd (jm_nh u url (u 6 (ix (jm_presentOf u n))) (jm_within (u 6 (ix (jm_presentOf u n))) url)) (jm_presentOf u n) (jm_within (u 6 (ix (jm_presentOf u n))) url))) 21 0)) hc hh hQ hlk hr rfl rfl ⟨by unfold jm_navigate jm_navF; rw [if_neg h8, if_neg h19, if_pos h64]; rfl, by unfold jm_navigate jm_navF; rw [if_neg h8, if_neg h19, if_pos h64]; rfl⟩ d_M_navigate_157
                  have e104 : (jm_nd (jm_nh u url (u 6 (ix (jm_presentOf u n))) (jm_within (u 6 (ix (jm_presentOf u n))) url)) (jm_presentOf u n) (jm_within (u 6 (ix (jm_presentOf u n))) url)) = ((jm_nh u url (u 6 (ix (jm_presentOf u n))) (jm_within (u 6 (ix (jm_presentOf u n))) url)) 8 (ix (jm_presentOf u n))) := by simp [jm_nd, h136]
                  refine W.eq (g2 := F0 m 150 ls [.int (jm_nd (jm_nh u url (u 6 (ix (jm_presentOf u n))) (jm_within (u 6 (ix (jm_presentOf u n))) url)) (jm_presentOf u n) (jm_within (u 6 (ix (jm_presentOf u n))) url)), .int (jm_push rep url (u 6 (ix (jm_presentOf u n)))), .int 0, .int url, .int n, .ref (ad 0)]) (by first | (rw [e104]; done) | (rw [e104]; rfl)) ?_
                  refine J150 _ ?_
                  exact lv_sub hl [0] rfl
                have e105 : (jm_nh u url (u 6 (ix (jm_presentOf u n))) (jm_within (u 6 (ix (jm_presentOf u n))) url)) = u := by first | (simp [jm_nh, h109]; done) | (simp [jm_nh, eq_true h109]; done)
                refine J128 _ _ _ ?_ ?_
                ·
                  try rw [e105]
                  exact hh
                try rw [e105]
                exact lv_sub hl [1, 2, 3, 4, 6, 0] rfl
              refine lv_iload_n hx hb d_M_navigate_112 rfl (lv_at hl 3 rfl) ?_
              refine lv_iload hx hb d_M_navigate_113 (lv_at hl 5 rfl) ?_
              refine lv_icmp_eq (tgt := 128) hx hb d_M_navigate_115 rfl (fun h115 => ?_) (fun h115 => ?_)
              ·
                have J128 : ∀  (H : Heap) (locs : List Loc) (ls : Array Slot), jx_H D 22 ad (jm_cell ad cA (jm_nh u url (u 6 (ix (jm_presentOf u n))) (jm_within (u 6 (ix (jm_presentOf u n))) url))) A s.heap H locs → lv_has ls 8 [(0, .ref (ad 0)), (1, .int n), (2, .int url), (4, .int (jm_presentOf u n)), (6, .int (jm_push rep url (u 6 (ix (jm_presentOf u n))))), (7, .int (jm_within (u 6 (ix (jm_presentOf u n))) url))] → W p l e (jr 7) s m args below meth c H locs 0 0 Q (F0 m 128 ls []) := by
                  intro  H locs ls hh hl
                  refine lv_aload_n hx hb d_M_navigate_128 rfl (lv_at hl 0 rfl) ?_
                  refine lv_iload_n hx hb d_M_navigate_129 rfl (lv_at hl 1 rfl) ?_
                  refine lv_iload_n hx hb d_M_navigate_130 rfl (lv_at hl 2 rfl) ?_
                  refine lv_iconst (v := 0) hx hb d_M_navigate_131 (by decide) ?_
                  refine lv_iload hx hb d_M_navigate_132 (lv_at hl 4 rfl) ?_
                  refine lv_iload hx hb d_M_navigate_134 (lv_at hl 5 rfl) ?_
                  refine lv_if_eq (tgt := 149) hx hb d_M_navigate_136 rfl (fun h136 => ?_) (fun h136 => ?_)
                  ·
                    refine lv_iconst (v := -1) hx hb d_M_navigate_149 (by decide) ?_
                    have J150 : ∀  (ls : Array Slot), lv_has ls 8 [(0, .ref (ad 0))] → W p l e (jr 7) s m args below meth c H locs 0 0 Q (F0 m 150 ls [.int (jm_nd (jm_nh u url (u 6 (ix (jm_presentOf u n))) (jm_within (u 6 (ix (jm_presentOf u n))) url)) (jm_presentOf u n) (jm_within (u 6 (ix (jm_presentOf u n))) url)), .int (jm_push rep url (u 6 (ix (jm_presentOf u n)))), .int 0, .int url, .int n, .ref (ad 0)]) := by
                      intro  ls hl
                      refine jx_callV [.int n, .int url, .int 0, .int (jm_push rep url (u 6 (ix (jm_presentOf u n)))), .int (jm_nd (jm_nh u url (u 6 (ix (jm_presentOf u n))) (jm_within (u 6 (ix (jm_presentOf u n))) url)) (jm_presentOf u n) (jm_within (u 6 (ix (jm_presentOf u n))) url))] [] hc hh (m_enter l D aK ad cA (jm_nh u url (u 6 (ix (jm_presentOf u n))) (jm_within (u 6 (ix (jm_presentOf u n))) url)) n url 0 (jm_push rep url (u 6 (ix (jm_presentOf u n)))) (jm_nd (jm_nh u url (u 6 (ix (jm_presentOf u n))) (jm_within (u 6 (ix (jm_presentOf u n))) url)) (jm_presentOf u n) (jm_within (u 6 (ix (jm_presentOf u n))) url)) (jm_nh_Sh hS) (jm_shown_ex h19) (jm_btw_ub h8) (jm_nd_jq (jm_nh_Sh hS) jm_pr_ex) (jm_Nw_of hn jm_nh_21)) wy_M_159 ⟨by decide, rfl, rfl⟩ (by decide) rfl hl.1 rfl (by decide) ⟨Nat.zero_le _, Nat.zero_le _⟩ d_M_navigate_150 (fun r u9 H locs hp hh _ _ => ?_)
                      rw [hp.2] at hh
                      refine W.eq (g2 := F0 m 153 ls []) rfl ?_
                      refine lv_aload_n hx hb d_M_navigate_153 rfl (lv_at hl 0 rfl) ?_
                      refine jg_M hc hh 21 (by decide) rfl wf_M_130 d_M_navigate_154 ?_
                      exact jx_iret (r := ((jm_enter (jm_nh u url (u 6 (ix (jm_presentOf u n))) (jm_within (u 6 (ix (jm_presentOf u n))) url)) n url 0 (jm_push rep url (u 6 (ix (jm_presentOf u n)))) (jm_nd (jm_nh u url (u 6 (ix (jm_presentOf u n))) (jm_within (u 6 (ix (jm_presentOf u n))) url)) (jm_presentOf u n) (jm_within (u 6 (ix (jm_presentOf u n))) url))) 21 0)) hc hh hQ hlk hr rfl rfl ⟨by unfold jm_navigate jm_navF; rw [if_neg h8, if_neg h19, if_pos h64]; rfl, by unfold jm_navigate jm_navF; rw [if_neg h8, if_neg h19, if_pos h64]; rfl⟩ d_M_navigate_157
                    have e106 : (jm_nd (jm_nh u url (u 6 (ix (jm_presentOf u n))) (jm_within (u 6 (ix (jm_presentOf u n))) url)) (jm_presentOf u n) (jm_within (u 6 (ix (jm_presentOf u n))) url)) = (-1) := by first | (simp [jm_nd, h136]; done) | (simp [jm_nd, eq_true h136]; done)
                    refine W.eq (g2 := F0 m 150 ls [.int (jm_nd (jm_nh u url (u 6 (ix (jm_presentOf u n))) (jm_within (u 6 (ix (jm_presentOf u n))) url)) (jm_presentOf u n) (jm_within (u 6 (ix (jm_presentOf u n))) url)), .int (jm_push rep url (u 6 (ix (jm_presentOf u n)))), .int 0, .int url, .int n, .ref (ad 0)]) (by first | (rw [e106]; done) | (rw [e106]; rfl)) ?_
                    refine J150 _ ?_
                    exact lv_sub hl [0] rfl
                  refine lv_aload_n hx hb d_M_navigate_139 rfl (lv_at hl 0 rfl) ?_
                  refine jg_M hc hh 8 (by decide) rfl wf_M_35 d_M_navigate_140 ?_
                  refine lv_iload hx hb d_M_navigate_143 (lv_at hl 3 rfl) ?_
                  refine jm_ild hc hh 8 (by decide) (by decide) jm_pr_ex d_M_navigate_145 ?_
                  refine lv_goto (tgt := 150) hx hb d_M_navigate_146 rfl ?_
                  have J150 : ∀  (ls : Array Slot), lv_has ls 8 [(0, .ref (ad 0))] → W p l e (jr 7) s m args below meth c H locs 0 0 Q (F0 m 150 ls [.int (jm_nd (jm_nh u url (u 6 (ix (jm_presentOf u n))) (jm_within (u 6 (ix (jm_presentOf u n))) url)) (jm_presentOf u n) (jm_within (u 6 (ix (jm_presentOf u n))) url)), .int (jm_push rep url (u 6 (ix (jm_presentOf u n)))), .int 0, .int url, .int n, .ref (ad 0)]) := by
                    intro  ls hl
                    refine jx_callV [.int n, .int url, .int 0, .int (jm_push rep url (u 6 (ix (jm_presentOf u n)))), .int (jm_nd (jm_nh u url (u 6 (ix (jm_presentOf u n))) (jm_within (u 6 (ix (jm_presentOf u n))) url)) (jm_presentOf u n) (jm_within (u 6 (ix (jm_presentOf u n))) url))] [] hc hh (m_enter l D aK ad cA (jm_nh u url (u 6 (ix (jm_presentOf u n))) (jm_within (u 6 (ix (jm_presentOf u n))) url)) n url 0 (jm_push rep url (u 6 (ix (jm_presentOf u n)))) (jm_nd (jm_nh u url (u 6 (ix (jm_presentOf u n))) (jm_within (u 6 (ix (jm_presentOf u n))) url)) (jm_presentOf u n) (jm_within (u 6 (ix (jm_presentOf u n))) url)) (jm_nh_Sh hS) (jm_shown_ex h19) (jm_btw_ub h8) (jm_nd_jq (jm_nh_Sh hS) jm_pr_ex) (jm_Nw_of hn jm_nh_21)) wy_M_159 ⟨by decide, rfl, rfl⟩ (by decide) rfl hl.1 rfl (by decide) ⟨Nat.zero_le _, Nat.zero_le _⟩ d_M_navigate_150 (fun r u9 H locs hp hh _ _ => ?_)
                    rw [hp.2] at hh
                    refine W.eq (g2 := F0 m 153 ls []) rfl ?_
                    refine lv_aload_n hx hb d_M_navigate_153 rfl (lv_at hl 0 rfl) ?_
                    refine jg_M hc hh 21 (by decide) rfl wf_M_130 d_M_navigate_154 ?_
                    exact jx_iret (r := ((jm_enter (jm_nh u url (u 6 (ix (jm_presentOf u n))) (jm_within (u 6 (ix (jm_presentOf u n))) url)) n url 0 (jm_push rep url (u 6 (ix (jm_presentOf u n)))) (jm_nd (jm_nh u url (u 6 (ix (jm_presentOf u n))) (jm_within (u 6 (ix (jm_presentOf u n))) url)) (jm_presentOf u n) (jm_within (u 6 (ix (jm_presentOf u n))) url))) 21 0)) hc hh hQ hlk hr rfl rfl ⟨by unfold jm_navigate jm_navF; rw [if_neg h8, if_neg h19, if_pos h64]; rfl, by unfold jm_navigate jm_navF; rw [if_neg h8, if_neg h19, if_pos h64]; rfl⟩ d_M_navigate_157
                  have e107 : (jm_nd (jm_nh u url (u 6 (ix (jm_presentOf u n))) (jm_within (u 6 (ix (jm_presentOf u n))) url)) (jm_presentOf u n) (jm_within (u 6 (ix (jm_presentOf u n))) url)) = ((jm_nh u url (u 6 (ix (jm_presentOf u n))) (jm_within (u 6 (ix (jm_presentOf u n))) url)) 8 (ix (jm_presentOf u n))) := by simp [jm_nd, h136]
                  refine W.eq (g2 := F0 m 150 ls [.int (jm_nd (jm_nh u url (u 6 (ix (jm_presentOf u n))) (jm_within (u 6 (ix (jm_presentOf u n))) url)) (jm_presentOf u n) (jm_within (u 6 (ix (jm_presentOf u n))) url)), .int (jm_push rep url (u 6 (ix (jm_presentOf u n)))), .int 0, .int url, .int n, .ref (ad 0)]) (by first | (rw [e107]; done) | (rw [e107]; rfl)) ?_
                  refine J150 _ ?_
                  exact lv_sub hl [0] rfl
                have e108 : (jm_nh u url (u 6 (ix (jm_presentOf u n))) (jm_within (u 6 (ix (jm_presentOf u n))) url)) = u := by first | (simp [jm_nh, h109, h115]; done) | (simp [jm_nh, h109, eq_true h115]; done)
                refine J128 _ _ _ ?_ ?_
                ·
                  try rw [e108]
                  exact hh
                try rw [e108]
                exact lv_sub hl [1, 2, 3, 4, 6, 0] rfl
              refine lv_aload_n hx hb d_M_navigate_118 rfl (lv_at hl 1 rfl) ?_
              refine lv_dup hx hb d_M_navigate_119 rfl ?_
              refine jg_M hc hh 24 (by decide) rfl wf_M_156 d_M_navigate_120 ?_
              refine lv_iconst (v := 1) hx hb d_M_navigate_123 (by decide) ?_
              refine lv_iadd hx hb d_M_navigate_124 ?_
              refine jpm_24 hc hh wf_M_156 d_M_navigate_125 (fun H locs hh => ?_)
              have J128 : ∀  (H : Heap) (locs : List Loc) (ls : Array Slot), jx_H D 22 ad (jm_cell ad cA (jm_nh u url (u 6 (ix (jm_presentOf u n))) (jm_within (u 6 (ix (jm_presentOf u n))) url))) A s.heap H locs → lv_has ls 8 [(0, .ref (ad 0)), (1, .int n), (2, .int url), (4, .int (jm_presentOf u n)), (6, .int (jm_push rep url (u 6 (ix (jm_presentOf u n))))), (7, .int (jm_within (u 6 (ix (jm_presentOf u n))) url))] → W p l e (jr 7) s m args below meth c H locs 0 0 Q (F0 m 128 ls []) := by
                intro  H locs ls hh hl
                refine lv_aload_n hx hb d_M_navigate_128 rfl (lv_at hl 0 rfl) ?_
                refine lv_iload_n hx hb d_M_navigate_129 rfl (lv_at hl 1 rfl) ?_
                refine lv_iload_n hx hb d_M_navigate_130 rfl (lv_at hl 2 rfl) ?_
                refine lv_iconst (v := 0) hx hb d_M_navigate_131 (by decide) ?_
                refine lv_iload hx hb d_M_navigate_132 (lv_at hl 4 rfl) ?_
                refine lv_iload hx hb d_M_navigate_134 (lv_at hl 5 rfl) ?_
                refine lv_if_eq (tgt := 149) hx hb d_M_navigate_136 rfl (fun h136 => ?_) (fun h136 => ?_)
                ·
                  refine lv_iconst (v := -1) hx hb d_M_navigate_149 (by decide) ?_
                  have J150 : ∀  (ls : Array Slot), lv_has ls 8 [(0, .ref (ad 0))] → W p l e (jr 7) s m args below meth c H locs 0 0 Q (F0 m 150 ls [.int (jm_nd (jm_nh u url (u 6 (ix (jm_presentOf u n))) (jm_within (u 6 (ix (jm_presentOf u n))) url)) (jm_presentOf u n) (jm_within (u 6 (ix (jm_presentOf u n))) url)), .int (jm_push rep url (u 6 (ix (jm_presentOf u n)))), .int 0, .int url, .int n, .ref (ad 0)]) := by
                    intro  ls hl
                    refine jx_callV [.int n, .int url, .int 0, .int (jm_push rep url (u 6 (ix (jm_presentOf u n)))), .int (jm_nd (jm_nh u url (u 6 (ix (jm_presentOf u n))) (jm_within (u 6 (ix (jm_presentOf u n))) url)) (jm_presentOf u n) (jm_within (u 6 (ix (jm_presentOf u n))) url))] [] hc hh (m_enter l D aK ad cA (jm_nh u url (u 6 (ix (jm_presentOf u n))) (jm_within (u 6 (ix (jm_presentOf u n))) url)) n url 0 (jm_push rep url (u 6 (ix (jm_presentOf u n)))) (jm_nd (jm_nh u url (u 6 (ix (jm_presentOf u n))) (jm_within (u 6 (ix (jm_presentOf u n))) url)) (jm_presentOf u n) (jm_within (u 6 (ix (jm_presentOf u n))) url)) (jm_nh_Sh hS) (jm_shown_ex h19) (jm_btw_ub h8) (jm_nd_jq (jm_nh_Sh hS) jm_pr_ex) (jm_Nw_of hn jm_nh_21)) wy_M_159 ⟨by decide, rfl, rfl⟩ (by decide) rfl hl.1 rfl (by decide) ⟨Nat.zero_le _, Nat.zero_le _⟩ d_M_navigate_150 (fun r u9 H locs hp hh _ _ => ?_)
                    rw [hp.2] at hh
                    refine W.eq (g2 := F0 m 153 ls []) rfl ?_
                    refine lv_aload_n hx hb d_M_navigate_153 rfl (lv_at hl 0 rfl) ?_
                    refine jg_M hc hh 21 (by decide) rfl wf_M_130 d_M_navigate_154 ?_
                    exact jx_iret (r := ((jm_enter (jm_nh u url (u 6 (ix (jm_presentOf u n))) (jm_within (u 6 (ix (jm_presentOf u n))) url)) n url 0 (jm_push rep url (u 6 (ix (jm_presentOf u n)))) (jm_nd (jm_nh u url (u 6 (ix (jm_presentOf u n))) (jm_within (u 6 (ix (jm_presentOf u n))) url)) (jm_presentOf u n) (jm_within (u 6 (ix (jm_presentOf u n))) url))) 21 0)) hc hh hQ hlk hr rfl rfl ⟨by unfold jm_navigate jm_navF; rw [if_neg h8, if_neg h19, if_pos h64]; rfl, by unfold jm_navigate jm_navF; rw [if_neg h8, if_neg h19, if_pos h64]; rfl⟩ d_M_navigate_157
                  have e109 : (jm_nd (jm_nh u url (u 6 (ix (jm_presentOf u n))) (jm_within (u 6 (ix (jm_presentOf u n))) url)) (jm_presentOf u n) (jm_within (u 6 (ix (jm_presentOf u n))) url)) = (-1) := by first | (simp [jm_nd, h136]; done) | (simp [jm_nd, eq_true h136]; done)
                  refine W.eq (g2 := F0 m 150 ls [.int (jm_nd (jm_nh u url (u 6 (ix (jm_presentOf u n))) (jm_within (u 6 (ix (jm_presentOf u n))) url)) (jm_presentOf u n) (jm_within (u 6 (ix (jm_presentOf u n))) url)), .int (jm_push rep url (u 6 (ix (jm_presentOf u n)))), .int 0, .int url, .int n, .ref (ad 0)]) (by first | (rw [e109]; done) | (rw [e109]; rfl)) ?_
                  refine J150 _ ?_
                  exact lv_sub hl [0] rfl
                refine lv_aload_n hx hb d_M_navigate_139 rfl (lv_at hl 0 rfl) ?_
                refine jg_M hc hh 8 (by decide) rfl wf_M_35 d_M_navigate_140 ?_
                refine lv_iload hx hb d_M_navigate_143 (lv_at hl 3 rfl) ?_
                refine jm_ild hc hh 8 (by decide) (by decide) jm_pr_ex d_M_navigate_145 ?_
                refine lv_goto (tgt := 150) hx hb d_M_navigate_146 rfl ?_
                have J150 : ∀  (ls : Array Slot), lv_has ls 8 [(0, .ref (ad 0))] → W p l e (jr 7) s m args below meth c H locs 0 0 Q (F0 m 150 ls [.int (jm_nd (jm_nh u url (u 6 (ix (jm_presentOf u n))) (jm_within (u 6 (ix (jm_presentOf u n))) url)) (jm_presentOf u n) (jm_within (u 6 (ix (jm_presentOf u n))) url)), .int (jm_push rep url (u 6 (ix (jm_presentOf u n)))), .int 0, .int url, .int n, .ref (ad 0)]) := by
                  intro  ls hl
                  refine jx_callV [.int n, .int url, .int 0, .int (jm_push rep url (u 6 (ix (jm_presentOf u n)))), .int (jm_nd (jm_nh u url (u 6 (ix (jm_presentOf u n))) (jm_within (u 6 (ix (jm_presentOf u n))) url)) (jm_presentOf u n) (jm_within (u 6 (ix (jm_presentOf u n))) url))] [] hc hh (m_enter l D aK ad cA (jm_nh u url (u 6 (ix (jm_presentOf u n))) (jm_within (u 6 (ix (jm_presentOf u n))) url)) n url 0 (jm_push rep url (u 6 (ix (jm_presentOf u n)))) (jm_nd (jm_nh u url (u 6 (ix (jm_presentOf u n))) (jm_within (u 6 (ix (jm_presentOf u n))) url)) (jm_presentOf u n) (jm_within (u 6 (ix (jm_presentOf u n))) url)) (jm_nh_Sh hS) (jm_shown_ex h19) (jm_btw_ub h8) (jm_nd_jq (jm_nh_Sh hS) jm_pr_ex) (jm_Nw_of hn jm_nh_21)) wy_M_159 ⟨by decide, rfl, rfl⟩ (by decide) rfl hl.1 rfl (by decide) ⟨Nat.zero_le _, Nat.zero_le _⟩ d_M_navigate_150 (fun r u9 H locs hp hh _ _ => ?_)
                  rw [hp.2] at hh
                  refine W.eq (g2 := F0 m 153 ls []) rfl ?_
                  refine lv_aload_n hx hb d_M_navigate_153 rfl (lv_at hl 0 rfl) ?_
                  refine jg_M hc hh 21 (by decide) rfl wf_M_130 d_M_navigate_154 ?_
                  exact jx_iret (r := ((jm_enter (jm_nh u url (u 6 (ix (jm_presentOf u n))) (jm_within (u 6 (ix (jm_presentOf u n))) url)) n url 0 (jm_push rep url (u 6 (ix (jm_presentOf u n)))) (jm_nd (jm_nh u url (u 6 (ix (jm_presentOf u n))) (jm_within (u 6 (ix (jm_presentOf u n))) url)) (jm_presentOf u n) (jm_within (u 6 (ix (jm_presentOf u n))) url))) 21 0)) hc hh hQ hlk hr rfl rfl ⟨by unfold jm_navigate jm_navF; rw [if_neg h8, if_neg h19, if_pos h64]; rfl, by unfold jm_navigate jm_navF; rw [if_neg h8, if_neg h19, if_pos h64]; rfl⟩ d_M_navigate_157
                have e110 : (jm_nd (jm_nh u url (u 6 (ix (jm_presentOf u n))) (jm_within (u 6 (ix (jm_presentOf u n))) url)) (jm_presentOf u n) (jm_within (u 6 (ix (jm_presentOf u n))) url)) = ((jm_nh u url (u 6 (ix (jm_presentOf u n))) (jm_within (u 6 (ix (jm_presentOf u n))) url)) 8 (ix (jm_presentOf u n))) := by simp [jm_nd, h136]
                refine W.eq (g2 := F0 m 150 ls [.int (jm_nd (jm_nh u url (u 6 (ix (jm_presentOf u n))) (jm_within (u 6 (ix (jm_presentOf u n))) url)) (jm_presentOf u n) (jm_within (u 6 (ix (jm_presentOf u n))) url)), .int (jm_push rep url (u 6 (ix (jm_presentOf u n)))), .int 0, .int url, .int n, .ref (ad 0)]) (by first | (rw [e110]; done) | (rw [e110]; rfl)) ?_
                refine J150 _ ?_
                exact lv_sub hl [0] rfl
              have e111 : (jm_nh u url (u 6 (ix (jm_presentOf u n))) (jm_within (u 6 (ix (jm_presentOf u n))) url)) = (js_up u 24 0 ((u 24 0) + 1)) := by simp [jm_nh, h109, h115]
              refine J128 _ _ _ ?_ ?_
              ·
                try rw [e111]
                exact hh
              try rw [e111]
              exact lv_sub hl [1, 2, 3, 4, 6, 0] rfl
            have e112 : (jm_within (u 6 (ix (jm_presentOf u n))) url) = 0 := by first | (simp [jm_within, h64, h72]; done) | (simp [jm_within, eq_true h64, eq_true h72]; done)
            refine W.eq (g2 := F0 m 105 ls [.int (jm_within (u 6 (ix (jm_presentOf u n))) url)]) (by first | (rw [e112]; done) | (rw [e112]; rfl)) ?_
            refine J105 _ _ _ ?_ ?_
            ·
              exact hh
            exact lv_sub hl [1, 2, 3, 4, 5, 0] rfl
          refine lv_iload_n hx hb d_M_navigate_75 rfl (lv_at hl 3 rfl) ?_
          refine jx_callS [.int url] [] hc hh (m_fragment l D aK ad cA u url) wy_M_153 (by decide) rfl hl.1 rfl (by decide) ⟨Nat.zero_le _, Nat.zero_le _⟩ d_M_navigate_76 (fun r u9 H locs hp hh _ _ => ?_)
          rw [hp.2] at hh
          refine W.eq (g2 := F0 m 79 ls [.int (jm_frag url)]) (by rw [hp.1]; rfl) ?_
          refine lv_if_eq (tgt := 104) hx hb d_M_navigate_79 rfl (fun h79 => ?_) (fun h79 => ?_)
          ·
            refine lv_iconst (v := 0) hx hb d_M_navigate_104 (by decide) ?_
            have J105 : ∀  (H : Heap) (locs : List Loc) (ls : Array Slot), jx_H D 22 ad (jm_cell ad cA u) A s.heap H locs → lv_has ls 8 [(0, .ref (ad 0)), (1, .int n), (2, .int url), (4, .int (jm_presentOf u n)), (5, .int (u 6 (ix (jm_presentOf u n)))), (6, .int (jm_push rep url (u 6 (ix (jm_presentOf u n)))))] → W p l e (jr 7) s m args below meth c H locs 0 0 Q (F0 m 105 ls [.int (jm_within (u 6 (ix (jm_presentOf u n))) url)]) := by
              intro  H locs ls hh hl
              refine lv_istore (i := 7) (lv' := [(7, .int (jm_within (u 6 (ix (jm_presentOf u n))) url)), (0, .ref (ad 0)), (1, .int n), (2, .int url), (4, .int (jm_presentOf u n)), (5, .int (u 6 (ix (jm_presentOf u n)))), (6, .int (jm_push rep url (u 6 (ix (jm_presentOf u n)))))]) hx hb d_M_navigate_105 hl (by decide) rfl (fun ls hl => ?_)
              refine lv_iload hx hb d_M_navigate_107 (lv_at hl 0 rfl) ?_
              refine lv_if_eq (tgt := 128) hx hb d_M_navigate_109 rfl (fun h109 => ?_) (fun h109 => ?_)
              ·
                have J128 : ∀  (H : Heap) (locs : List Loc) (ls : Array Slot), jx_H D 22 ad (jm_cell ad cA (jm_nh u url (u 6 (ix (jm_presentOf u n))) (jm_within (u 6 (ix (jm_presentOf u n))) url))) A s.heap H locs → lv_has ls 8 [(0, .ref (ad 0)), (1, .int n), (2, .int url), (4, .int (jm_presentOf u n)), (6, .int (jm_push rep url (u 6 (ix (jm_presentOf u n))))), (7, .int (jm_within (u 6 (ix (jm_presentOf u n))) url))] → W p l e (jr 7) s m args below meth c H locs 0 0 Q (F0 m 128 ls []) := by
                  intro  H locs ls hh hl
                  refine lv_aload_n hx hb d_M_navigate_128 rfl (lv_at hl 0 rfl) ?_
                  refine lv_iload_n hx hb d_M_navigate_129 rfl (lv_at hl 1 rfl) ?_
                  refine lv_iload_n hx hb d_M_navigate_130 rfl (lv_at hl 2 rfl) ?_
                  refine lv_iconst (v := 0) hx hb d_M_navigate_131 (by decide) ?_
                  refine lv_iload hx hb d_M_navigate_132 (lv_at hl 4 rfl) ?_
                  refine lv_iload hx hb d_M_navigate_134 (lv_at hl 5 rfl) ?_
                  refine lv_if_eq (tgt := 149) hx hb d_M_navigate_136 rfl (fun h136 => ?_) (fun h136 => ?_)
                  ·
                    refine lv_iconst (v := -1) hx hb d_M_navigate_149 (by decide) ?_
                    have J150 : ∀  (ls : Array Slot), lv_has ls 8 [(0, .ref (ad 0))] → W p l e (jr 7) s m args below meth c H locs 0 0 Q (F0 m 150 ls [.int (jm_nd (jm_nh u url (u 6 (ix (jm_presentOf u n))) (jm_within (u 6 (ix (jm_presentOf u n))) url)) (jm_presentOf u n) (jm_within (u 6 (ix (jm_presentOf u n))) url)), .int (jm_push rep url (u 6 (ix (jm_presentOf u n)))), .int 0, .int url, .int n, .ref (ad 0)]) := by
                      intro  ls hl
                      refine jx_callV [.int n, .int url, .int 0, .int (jm_push rep url (u 6 (ix (jm_presentOf u n)))), .int (jm_nd (jm_nh u url (u 6 (ix (jm_presentOf u n))) (jm_within (u 6 (ix (jm_presentOf u n))) url)) (jm_presentOf u n) (jm_within (u 6 (ix (jm_presentOf u n))) url))] [] hc hh (m_enter l D aK ad cA (jm_nh u url (u 6 (ix (jm_presentOf u n))) (jm_within (u 6 (ix (jm_presentOf u n))) url)) n url 0 (jm_push rep url (u 6 (ix (jm_presentOf u n)))) (jm_nd (jm_nh u url (u 6 (ix (jm_presentOf u n))) (jm_within (u 6 (ix (jm_presentOf u n))) url)) (jm_presentOf u n) (jm_within (u 6 (ix (jm_presentOf u n))) url)) (jm_nh_Sh hS) (jm_shown_ex h19) (jm_btw_ub h8) (jm_nd_jq (jm_nh_Sh hS) jm_pr_ex) (jm_Nw_of hn jm_nh_21)) wy_M_159 ⟨by decide, rfl, rfl⟩ (by decide) rfl hl.1 rfl (by decide) ⟨Nat.zero_le _, Nat.zero_le _⟩ d_M_navigate_150 (fun r u9 H locs hp hh _ _ => ?_)
                      rw [hp.2] at hh
                      refine W.eq (g2 := F0 m 153 ls []) rfl ?_
                      refine lv_aload_n hx hb d_M_navigate_153 rfl (lv_at hl 0 rfl) ?_
                      refine jg_M hc hh 21 (by decide) rfl wf_M_130 d_M_navigate_154 ?_
                      exact jx_iret (r := ((jm_enter (jm_nh u url (u 6 (ix (jm_presentOf u n))) (jm_within (u 6 (ix (jm_presentOf u n))) url)) n url 0 (jm_push rep url (u 6 (ix (jm_presentOf u n)))) (jm_nd (jm_nh u url (u 6 (ix (jm_presentOf u n))) (jm_within (u 6 (ix (jm_presentOf u n))) url)) (jm_presentOf u n) (jm_within (u 6 (ix (jm_presentOf u n))) url))) 21 0)) hc hh hQ hlk hr rfl rfl ⟨by unfold jm_navigate jm_navF; rw [if_neg h8, if_neg h19, if_pos h64]; rfl, by unfold jm_navigate jm_navF; rw [if_neg h8, if_neg h19, if_pos h64]; rfl⟩ d_M_navigate_157
                    have e113 : (jm_nd (jm_nh u url (u 6 (ix (jm_presentOf u n))) (jm_within (u 6 (ix (jm_presentOf u n))) url)) (jm_presentOf u n) (jm_within (u 6 (ix (jm_presentOf u n))) url)) = (-1) := by first | (simp [jm_nd, h136]; done) | (simp [jm_nd, eq_true h136]; done)
                    refine W.eq (g2 := F0 m 150 ls [.int (jm_nd (jm_nh u url (u 6 (ix (jm_presentOf u n))) (jm_within (u 6 (ix (jm_presentOf u n))) url)) (jm_presentOf u n) (jm_within (u 6 (ix (jm_presentOf u n))) url)), .int (jm_push rep url (u 6 (ix (jm_presentOf u n)))), .int 0, .int url, .int n, .ref (ad 0)]) (by first | (rw [e113]; done) | (rw [e113]; rfl)) ?_
                    refine J150 _ ?_
                    exact lv_sub hl [0] rfl
                  refine lv_aload_n hx hb d_M_navigate_139 rfl (lv_at hl 0 rfl) ?_
                  refine jg_M hc hh 8 (by decide) rfl wf_M_35 d_M_navigate_140 ?_
                  refine lv_iload hx hb d_M_navigate_143 (lv_at hl 3 rfl) ?_
                  refine jm_ild hc hh 8 (by decide) (by decide) jm_pr_ex d_M_navigate_145 ?_
                  refine lv_goto (tgt := 150) hx hb d_M_navigate_146 rfl ?_
                  have J150 : ∀  (ls : Array Slot), lv_has ls 8 [(0, .ref (ad 0))] → W p l e (jr 7) s m args below meth c H locs 0 0 Q (F0 m 150 ls [.int (jm_nd (jm_nh u url (u 6 (ix (jm_presentOf u n))) (jm_within (u 6 (ix (jm_presentOf u n))) url)) (jm_presentOf u n) (jm_within (u 6 (ix (jm_presentOf u n))) url)), .int (jm_push rep url (u 6 (ix (jm_presentOf u n)))), .int 0, .int url, .int n, .ref (ad 0)]) := by
                    intro  ls hl
                    refine jx_callV [.int n, .int url, .int 0, .int (jm_push rep url (u 6 (ix (jm_presentOf u n)))), .int (jm_nd (jm_nh u url (u 6 (ix (jm_presentOf u n))) (jm_within (u 6 (ix (jm_presentOf u n))) url)) (jm_presentOf u n) (jm_within (u 6 (ix (jm_presentOf u n))) url))] [] hc hh (m_enter l D aK ad cA (jm_nh u url (u 6 (ix (jm_presentOf u n))) (jm_within (u 6 (ix (jm_presentOf u n))) url)) n url 0 (jm_push rep url (u 6 (ix (jm_presentOf u n)))) (jm_nd (jm_nh u url (u 6 (ix (jm_presentOf u n))) (jm_within (u 6 (ix (jm_presentOf u n))) url)) (jm_presentOf u n) (jm_within (u 6 (ix (jm_presentOf u n))) url)) (jm_nh_Sh hS) (jm_shown_ex h19) (jm_btw_ub h8) (jm_nd_jq (jm_nh_Sh hS) jm_pr_ex) (jm_Nw_of hn jm_nh_21)) wy_M_159 ⟨by decide, rfl, rfl⟩ (by decide) rfl hl.1 rfl (by decide) ⟨Nat.zero_le _, Nat.zero_le _⟩ d_M_navigate_150 (fun r u9 H locs hp hh _ _ => ?_)
                    rw [hp.2] at hh
                    refine W.eq (g2 := F0 m 153 ls []) rfl ?_
                    refine lv_aload_n hx hb d_M_navigate_153 rfl (lv_at hl 0 rfl) ?_
                    refine jg_M hc hh 21 (by decide) rfl wf_M_130 d_M_navigate_154 ?_
                    exact jx_iret (r := ((jm_enter (jm_nh u url (u 6 (ix (jm_presentOf u n))) (jm_within (u 6 (ix (jm_presentOf u n))) url)) n url 0 (jm_push rep url (u 6 (ix (jm_presentOf u n)))) (jm_nd (jm_nh u url (u 6 (ix (jm_presentOf u n))) (jm_within (u 6 (ix (jm_presentOf u n))) url)) (jm_presentOf u n) (jm_within (u 6 (ix (jm_presentOf u n))) url))) 21 0)) hc hh hQ hlk hr rfl rfl ⟨by unfold jm_navigate jm_navF; rw [if_neg h8, if_neg h19, if_pos h64]; rfl, by unfold jm_navigate jm_navF; rw [if_neg h8, if_neg h19, if_pos h64]; rfl⟩ d_M_navigate_157
                  have e114 : (jm_nd (jm_nh u url (u 6 (ix (jm_presentOf u n))) (jm_within (u 6 (ix (jm_presentOf u n))) url)) (jm_presentOf u n) (jm_within (u 6 (ix (jm_presentOf u n))) url)) = ((jm_nh u url (u 6 (ix (jm_presentOf u n))) (jm_within (u 6 (ix (jm_presentOf u n))) url)) 8 (ix (jm_presentOf u n))) := by simp [jm_nd, h136]
                  refine W.eq (g2 := F0 m 150 ls [.int (jm_nd (jm_nh u url (u 6 (ix (jm_presentOf u n))) (jm_within (u 6 (ix (jm_presentOf u n))) url)) (jm_presentOf u n) (jm_within (u 6 (ix (jm_presentOf u n))) url)), .int (jm_push rep url (u 6 (ix (jm_presentOf u n)))), .int 0, .int url, .int n, .ref (ad 0)]) (by first | (rw [e114]; done) | (rw [e114]; rfl)) ?_
                  refine J150 _ ?_
                  exact lv_sub hl [0] rfl
                have e115 : (jm_nh u url (u 6 (ix (jm_presentOf u n))) (jm_within (u 6 (ix (jm_presentOf u n))) url)) = u := by first | (simp [jm_nh, h109]; done) | (simp [jm_nh, eq_true h109]; done)
                refine J128 _ _ _ ?_ ?_
                ·
                  try rw [e115]
                  exact hh
                try rw [e115]
                exact lv_sub hl [1, 2, 3, 4, 6, 0] rfl
              refine lv_iload_n hx hb d_M_navigate_112 rfl (lv_at hl 3 rfl) ?_
              refine lv_iload hx hb d_M_navigate_113 (lv_at hl 5 rfl) ?_
              refine lv_icmp_eq (tgt := 128) hx hb d_M_navigate_115 rfl (fun h115 => ?_) (fun h115 => ?_)
              ·
                have J128 : ∀  (H : Heap) (locs : List Loc) (ls : Array Slot), jx_H D 22 ad (jm_cell ad cA (jm_nh u url (u 6 (ix (jm_presentOf u n))) (jm_within (u 6 (ix (jm_presentOf u n))) url))) A s.heap H locs → lv_has ls 8 [(0, .ref (ad 0)), (1, .int n), (2, .int url), (4, .int (jm_presentOf u n)), (6, .int (jm_push rep url (u 6 (ix (jm_presentOf u n))))), (7, .int (jm_within (u 6 (ix (jm_presentOf u n))) url))] → W p l e (jr 7) s m args below meth c H locs 0 0 Q (F0 m 128 ls []) := by
                  intro  H locs ls hh hl
                  refine lv_aload_n hx hb d_M_navigate_128 rfl (lv_at hl 0 rfl) ?_
                  refine lv_iload_n hx hb d_M_navigate_129 rfl (lv_at hl 1 rfl) ?_
                  refine lv_iload_n hx hb d_M_navigate_130 rfl (lv_at hl 2 rfl) ?_
                  refine lv_iconst (v := 0) hx hb d_M_navigate_131 (by decide) ?_
                  refine lv_iload hx hb d_M_navigate_132 (lv_at hl 4 rfl) ?_
                  refine lv_iload hx hb d_M_navigate_134 (lv_at hl 5 rfl) ?_
                  refine lv_if_eq (tgt := 149) hx hb d_M_navigate_136 rfl (fun h136 => ?_) (fun h136 => ?_)
                  ·
                    refine lv_iconst (v := -1) hx hb d_M_navigate_149 (by decide) ?_
                    have J150 : ∀  (ls : Array Slot), lv_has ls 8 [(0, .ref (ad 0))] → W p l e (jr 7) s m args below meth c H locs 0 0 Q (F0 m 150 ls [.int (jm_nd (jm_nh u url (u 6 (ix (jm_presentOf u n))) (jm_within (u 6 (ix (jm_presentOf u n))) url)) (jm_presentOf u n) (jm_within (u 6 (ix (jm_presentOf u n))) url)), .int (jm_push rep url (u 6 (ix (jm_presentOf u n)))), .int 0, .int url, .int n, .ref (ad 0)]) := by
                      intro  ls hl
                      refine jx_callV [.int n, .int url, .int 0, .int (jm_push rep url (u 6 (ix (jm_presentOf u n)))), .int (jm_nd (jm_nh u url (u 6 (ix (jm_presentOf u n))) (jm_within (u 6 (ix (jm_presentOf u n))) url)) (jm_presentOf u n) (jm_within (u 6 (ix (jm_presentOf u n))) url))] [] hc hh (m_enter l D aK ad cA (jm_nh u url (u 6 (ix (jm_presentOf u n))) (jm_within (u 6 (ix (jm_presentOf u n))) url)) n url 0 (jm_push rep url (u 6 (ix (jm_presentOf u n)))) (jm_nd (jm_nh u url (u 6 (ix (jm_presentOf u n))) (jm_within (u 6 (ix (jm_presentOf u n))) url)) (jm_presentOf u n) (jm_within (u 6 (ix (jm_presentOf u n))) url)) (jm_nh_Sh hS) (jm_shown_ex h19) (jm_btw_ub h8) (jm_nd_jq (jm_nh_Sh hS) jm_pr_ex) (jm_Nw_of hn jm_nh_21)) wy_M_159 ⟨by decide, rfl, rfl⟩ (by decide) rfl hl.1 rfl (by decide) ⟨Nat.zero_le _, Nat.zero_le _⟩ d_M_navigate_150 (fun r u9 H locs hp hh _ _ => ?_)
                      rw [hp.2] at hh
                      refine W.eq (g2 := F0 m 153 ls []) rfl ?_
                      refine lv_aload_n hx hb d_M_navigate_153 rfl (lv_at hl 0 rfl) ?_
                      refine jg_M hc hh 21 (by decide) rfl wf_M_130 d_M_navigate_154 ?_
                      exact jx_iret (r := ((jm_enter (jm_nh u url (u 6 (ix (jm_presentOf u n))) (jm_within (u 6 (ix (jm_presentOf u n))) url)) n url 0 (jm_push rep url (u 6 (ix (jm_presentOf u n)))) (jm_nd (jm_nh u url (u 6 (ix (jm_presentOf u n))) (jm_within (u 6 (ix (jm_presentOf u n))) url)) (jm_presentOf u n) (jm_within (u 6 (ix (jm_presentOf u n))) url))) 21 0)) hc hh hQ hlk hr rfl rfl ⟨by unfold jm_navigate jm_navF; rw [if_neg h8, if_neg h19, if_pos h64]; rfl, by unfold jm_navigate jm_navF; rw [if_neg h8, if_neg h19, if_pos h64]; rfl⟩ d_M_navigate_157
                    have e116 : (jm_nd (jm_nh u url (u 6 (ix (jm_presentOf u n))) (jm_within (u 6 (ix (jm_presentOf u n))) url)) (jm_presentOf u n) (jm_within (u 6 (ix (jm_presentOf u n))) url)) = (-1) := by first | (simp [jm_nd, h136]; done) | (simp [jm_nd, eq_true h136]; done)
                    refine W.eq (g2 := F0 m 150 ls [.int (jm_nd (jm_nh u url (u 6 (ix (jm_presentOf u n))) (jm_within (u 6 (ix (jm_presentOf u n))) url)) (jm_presentOf u n) (jm_within (u 6 (ix (jm_presentOf u n))) url)), .int (jm_push rep url (u 6 (ix (jm_presentOf u n)))), .int 0, .int url, .int n, .ref (ad 0)]) (by first | (rw [e116]; done) | (rw [e116]; rfl)) ?_
                    refine J150 _ ?_
                    exact lv_sub hl [0] rfl
                  refine lv_aload_n hx hb d_M_navigate_139 rfl (lv_at hl 0 rfl) ?_
                  refine jg_M hc hh 8 (by decide) rfl wf_M_35 d_M_navigate_140 ?_
                  refine lv_iload hx hb d_M_navigate_143 (lv_at hl 3 rfl) ?_
                  refine jm_ild hc hh 8 (by decide) (by decide) jm_pr_ex d_M_navigate_145 ?_
                  refine lv_goto (tgt := 150) hx hb d_M_navigate_146 rfl ?_
                  have J150 : ∀  (ls : Array Slot), lv_has ls 8 [(0, .ref (ad 0))] → W p l e (jr 7) s m args below meth c H locs 0 0 Q (F0 m 150 ls [.int (jm_nd (jm_nh u url (u 6 (ix (jm_presentOf u n))) (jm_within (u 6 (ix (jm_presentOf u n))) url)) (jm_presentOf u n) (jm_within (u 6 (ix (jm_presentOf u n))) url)), .int (jm_push rep url (u 6 (ix (jm_presentOf u n)))), .int 0, .int url, .int n, .ref (ad 0)]) := by
                    intro  ls hl
                    refine jx_callV [.int n, .int url, .int 0, .int (jm_push rep url (u 6 (ix (jm_presentOf u n)))), .int (jm_nd (jm_nh u url (u 6 (ix (jm_presentOf u n))) (jm_within (u 6 (ix (jm_presentOf u n))) url)) (jm_presentOf u n) (jm_within (u 6 (ix (jm_presentOf u n))) url))] [] hc hh (m_enter l D aK ad cA (jm_nh u url (u 6 (ix (jm_presentOf u n))) (jm_within (u 6 (ix (jm_presentOf u n))) url)) n url 0 (jm_push rep url (u 6 (ix (jm_presentOf u n)))) (jm_nd (jm_nh u url (u 6 (ix (jm_presentOf u n))) (jm_within (u 6 (ix (jm_presentOf u n))) url)) (jm_presentOf u n) (jm_within (u 6 (ix (jm_presentOf u n))) url)) (jm_nh_Sh hS) (jm_shown_ex h19) (jm_btw_ub h8) (jm_nd_jq (jm_nh_Sh hS) jm_pr_ex) (jm_Nw_of hn jm_nh_21)) wy_M_159 ⟨by decide, rfl, rfl⟩ (by decide) rfl hl.1 rfl (by decide) ⟨Nat.zero_le _, Nat.zero_le _⟩ d_M_navigate_150 (fun r u9 H locs hp hh _ _ => ?_)
                    rw [hp.2] at hh
                    refine W.eq (g2 := F0 m 153 ls []) rfl ?_
                    refine lv_aload_n hx hb d_M_navigate_153 rfl (lv_at hl 0 rfl) ?_
                    refine jg_M hc hh 21 (by decide) rfl wf_M_130 d_M_navigate_154 ?_
                    exact jx_iret (r := ((jm_enter (jm_nh u url (u 6 (ix (jm_presentOf u n))) (jm_within (u 6 (ix (jm_presentOf u n))) url)) n url 0 (jm_push rep url (u 6 (ix (jm_presentOf u n)))) (jm_nd (jm_nh u url (u 6 (ix (jm_presentOf u n))) (jm_within (u 6 (ix (jm_presentOf u n))) url)) (jm_presentOf u n) (jm_within (u 6 (ix (jm_presentOf u n))) url))) 21 0)) hc hh hQ hlk hr rfl rfl ⟨by unfold jm_navigate jm_navF; rw [if_neg h8, if_neg h19, if_pos h64]; rfl, by unfold jm_navigate jm_navF; rw [if_neg h8, if_neg h19, if_pos h64]; rfl⟩ d_M_navigate_157
                  have e117 : (jm_nd (jm_nh u url (u 6 (ix (jm_presentOf u n))) (jm_within (u 6 (ix (jm_presentOf u n))) url)) (jm_presentOf u n) (jm_within (u 6 (ix (jm_presentOf u n))) url)) = ((jm_nh u url (u 6 (ix (jm_presentOf u n))) (jm_within (u 6 (ix (jm_presentOf u n))) url)) 8 (ix (jm_presentOf u n))) := by simp [jm_nd, h136]
                  refine W.eq (g2 := F0 m 150 ls [.int (jm_nd (jm_nh u url (u 6 (ix (jm_presentOf u n))) (jm_within (u 6 (ix (jm_presentOf u n))) url)) (jm_presentOf u n) (jm_within (u 6 (ix (jm_presentOf u n))) url)), .int (jm_push rep url (u 6 (ix (jm_presentOf u n)))), .int 0, .int url, .int n, .ref (ad 0)]) (by first | (rw [e117]; done) | (rw [e117]; rfl)) ?_
                  refine J150 _ ?_
                  exact lv_sub hl [0] rfl
                have e118 : (jm_nh u url (u 6 (ix (jm_presentOf u n))) (jm_within (u 6 (ix (jm_presentOf u n))) url)) = u := by first | (simp [jm_nh, h109, h115]; done) | (simp [jm_nh, h109, eq_true h115]; done)
                refine J128 _ _ _ ?_ ?_
                ·
                  try rw [e118]
                  exact hh
                try rw [e118]
                exact lv_sub hl [1, 2, 3, 4, 6, 0] rfl
              refine lv_aload_n hx hb d_M_navigate_118 rfl (lv_at hl 1 rfl) ?_
              refine lv_dup hx hb d_M_navigate_119 rfl ?_
              refine jg_M hc hh 24 (by decide) rfl wf_M_156 d_M_navigate_120 ?_
              refine lv_iconst (v := 1) hx hb d_M_navigate_123 (by decide) ?_
              refine lv_iadd hx hb d_M_navigate_124 ?_
              refine jpm_24 hc hh wf_M_156 d_M_navigate_125 (fun H locs hh => ?_)
              have J128 : ∀  (H : Heap) (locs : List Loc) (ls : Array Slot), jx_H D 22 ad (jm_cell ad cA (jm_nh u url (u 6 (ix (jm_presentOf u n))) (jm_within (u 6 (ix (jm_presentOf u n))) url))) A s.heap H locs → lv_has ls 8 [(0, .ref (ad 0)), (1, .int n), (2, .int url), (4, .int (jm_presentOf u n)), (6, .int (jm_push rep url (u 6 (ix (jm_presentOf u n))))), (7, .int (jm_within (u 6 (ix (jm_presentOf u n))) url))] → W p l e (jr 7) s m args below meth c H locs 0 0 Q (F0 m 128 ls []) := by
                intro  H locs ls hh hl
                refine lv_aload_n hx hb d_M_navigate_128 rfl (lv_at hl 0 rfl) ?_
                refine lv_iload_n hx hb d_M_navigate_129 rfl (lv_at hl 1 rfl) ?_
                refine lv_iload_n hx hb d_M_navigate_130 rfl (lv_at hl 2 rfl) ?_
                refine lv_iconst (v := 0) hx hb d_M_navigate_131 (by decide) ?_
                refine lv_iload hx hb d_M_navigate_132 (lv_at hl 4 rfl) ?_
                refine lv_iload hx hb d_M_navigate_134 (lv_at hl 5 rfl) ?_
                refine lv_if_eq (tgt := 149) hx hb d_M_navigate_136 rfl (fun h136 => ?_) (fun h136 => ?_)
                ·
                  refine lv_iconst (v := -1) hx hb d_M_navigate_149 (by decide) ?_
                  have J150 : ∀  (ls : Array Slot), lv_has ls 8 [(0, .ref (ad 0))] → W p l e (jr 7) s m args below meth c H locs 0 0 Q (F0 m 150 ls [.int (jm_nd (jm_nh u url (u 6 (ix (jm_presentOf u n))) (jm_within (u 6 (ix (jm_presentOf u n))) url)) (jm_presentOf u n) (jm_within (u 6 (ix (jm_presentOf u n))) url)), .int (jm_push rep url (u 6 (ix (jm_presentOf u n)))), .int 0, .int url, .int n, .ref (ad 0)]) := by
                    intro  ls hl
                    refine jx_callV [.int n, .int url, .int 0, .int (jm_push rep url (u 6 (ix (jm_presentOf u n)))), .int (jm_nd (jm_nh u url (u 6 (ix (jm_presentOf u n))) (jm_within (u 6 (ix (jm_presentOf u n))) url)) (jm_presentOf u n) (jm_within (u 6 (ix (jm_presentOf u n))) url))] [] hc hh (m_enter l D aK ad cA (jm_nh u url (u 6 (ix (jm_presentOf u n))) (jm_within (u 6 (ix (jm_presentOf u n))) url)) n url 0 (jm_push rep url (u 6 (ix (jm_presentOf u n)))) (jm_nd (jm_nh u url (u 6 (ix (jm_presentOf u n))) (jm_within (u 6 (ix (jm_presentOf u n))) url)) (jm_presentOf u n) (jm_within (u 6 (ix (jm_presentOf u n))) url)) (jm_nh_Sh hS) (jm_shown_ex h19) (jm_btw_ub h8) (jm_nd_jq (jm_nh_Sh hS) jm_pr_ex) (jm_Nw_of hn jm_nh_21)) wy_M_159 ⟨by decide, rfl, rfl⟩ (by decide) rfl hl.1 rfl (by decide) ⟨Nat.zero_le _, Nat.zero_le _⟩ d_M_navigate_150 (fun r u9 H locs hp hh _ _ => ?_)
                    rw [hp.2] at hh
                    refine W.eq (g2 := F0 m 153 ls []) rfl ?_
                    refine lv_aload_n hx hb d_M_navigate_153 rfl (lv_at hl 0 rfl) ?_
                    refine jg_M hc hh 21 (by decide) rfl wf_M_130 d_M_navigate_154 ?_
                    exact jx_iret (r := ((jm_enter (jm_nh u url (u 6 (ix (jm_presentOf u n))) (jm_within (u 6 (ix (jm_presentOf u n))) url)) n url 0 (jm_push rep url (u 6 (ix (jm_presentOf u n)))) (jm_nd (jm_nh u url (u 6 (ix (jm_presentOf u n))) (jm_within (u 6 (ix (jm_presentOf u n))) url)) (jm_presentOf u n) (jm_within (u 6 (ix (jm_presentOf u n))) url))) 21 0)) hc hh hQ hlk hr rfl rfl ⟨by unfold jm_navigate jm_navF; rw [if_neg h8, if_neg h19, if_pos h64]; rfl, by unfold jm_navigate jm_navF; rw [if_neg h8, if_neg h19, if_pos h64]; rfl⟩ d_M_navigate_157
                  have e119 : (jm_nd (jm_nh u url (u 6 (ix (jm_presentOf u n))) (jm_within (u 6 (ix (jm_presentOf u n))) url)) (jm_presentOf u n) (jm_within (u 6 (ix (jm_presentOf u n))) url)) = (-1) := by first | (simp [jm_nd, h136]; done) | (simp [jm_nd, eq_true h136]; done)
                  refine W.eq (g2 := F0 m 150 ls [.int (jm_nd (jm_nh u url (u 6 (ix (jm_presentOf u n))) (jm_within (u 6 (ix (jm_presentOf u n))) url)) (jm_presentOf u n) (jm_within (u 6 (ix (jm_presentOf u n))) url)), .int (jm_push rep url (u 6 (ix (jm_presentOf u n)))), .int 0, .int url, .int n, .ref (ad 0)]) (by first | (rw [e119]; done) | (rw [e119]; rfl)) ?_
                  refine J150 _ ?_
                  exact lv_sub hl [0] rfl
                refine lv_aload_n hx hb d_M_navigate_139 rfl (lv_at hl 0 rfl) ?_
                refine jg_M hc hh 8 (by decide) rfl wf_M_35 d_M_navigate_140 ?_
                refine lv_iload hx hb d_M_navigate_143 (lv_at hl 3 rfl) ?_
                refine jm_ild hc hh 8 (by decide) (by decide) jm_pr_ex d_M_navigate_145 ?_
                refine lv_goto (tgt := 150) hx hb d_M_navigate_146 rfl ?_
                have J150 : ∀  (ls : Array Slot), lv_has ls 8 [(0, .ref (ad 0))] → W p l e (jr 7) s m args below meth c H locs 0 0 Q (F0 m 150 ls [.int (jm_nd (jm_nh u url (u 6 (ix (jm_presentOf u n))) (jm_within (u 6 (ix (jm_presentOf u n))) url)) (jm_presentOf u n) (jm_within (u 6 (ix (jm_presentOf u n))) url)), .int (jm_push rep url (u 6 (ix (jm_presentOf u n)))), .int 0, .int url, .int n, .ref (ad 0)]) := by
                  intro  ls hl
                  refine jx_callV [.int n, .int url, .int 0, .int (jm_push rep url (u 6 (ix (jm_presentOf u n)))), .int (jm_nd (jm_nh u url (u 6 (ix (jm_presentOf u n))) (jm_within (u 6 (ix (jm_presentOf u n))) url)) (jm_presentOf u n) (jm_within (u 6 (ix (jm_presentOf u n))) url))] [] hc hh (m_enter l D aK ad cA (jm_nh u url (u 6 (ix (jm_presentOf u n))) (jm_within (u 6 (ix (jm_presentOf u n))) url)) n url 0 (jm_push rep url (u 6 (ix (jm_presentOf u n)))) (jm_nd (jm_nh u url (u 6 (ix (jm_presentOf u n))) (jm_within (u 6 (ix (jm_presentOf u n))) url)) (jm_presentOf u n) (jm_within (u 6 (ix (jm_presentOf u n))) url)) (jm_nh_Sh hS) (jm_shown_ex h19) (jm_btw_ub h8) (jm_nd_jq (jm_nh_Sh hS) jm_pr_ex) (jm_Nw_of hn jm_nh_21)) wy_M_159 ⟨by decide, rfl, rfl⟩ (by decide) rfl hl.1 rfl (by decide) ⟨Nat.zero_le _, Nat.zero_le _⟩ d_M_navigate_150 (fun r u9 H locs hp hh _ _ => ?_)
                  rw [hp.2] at hh
                  refine W.eq (g2 := F0 m 153 ls []) rfl ?_
                  refine lv_aload_n hx hb d_M_navigate_153 rfl (lv_at hl 0 rfl) ?_
                  refine jg_M hc hh 21 (by decide) rfl wf_M_130 d_M_navigate_154 ?_
                  exact jx_iret (r := ((jm_enter (jm_nh u url (u 6 (ix (jm_presentOf u n))) (jm_within (u 6 (ix (jm_presentOf u n))) url)) n url 0 (jm_push rep url (u 6 (ix (jm_presentOf u n)))) (jm_nd (jm_nh u url (u 6 (ix (jm_presentOf u n))) (jm_within (u 6 (ix (jm_presentOf u n))) url)) (jm_presentOf u n) (jm_within (u 6 (ix (jm_presentOf u n))) url))) 21 0)) hc hh hQ hlk hr rfl rfl ⟨by unfold jm_navigate jm_navF; rw [if_neg h8, if_neg h19, if_pos h64]; rfl, by unfold jm_navigate jm_navF; rw [if_neg h8, if_neg h19, if_pos h64]; rfl⟩ d_M_navigate_157
                have e120 : (jm_nd (jm_nh u url (u 6 (ix (jm_presentOf u n))) (jm_within (u 6 (ix (jm_presentOf u n))) url)) (jm_presentOf u n) (jm_within (u 6 (ix (jm_presentOf u n))) url)) = ((jm_nh u url (u 6 (ix (jm_presentOf u n))) (jm_within (u 6 (ix (jm_presentOf u n))) url)) 8 (ix (jm_presentOf u n))) := by simp [jm_nd, h136]
                refine W.eq (g2 := F0 m 150 ls [.int (jm_nd (jm_nh u url (u 6 (ix (jm_presentOf u n))) (jm_within (u 6 (ix (jm_presentOf u n))) url)) (jm_presentOf u n) (jm_within (u 6 (ix (jm_presentOf u n))) url)), .int (jm_push rep url (u 6 (ix (jm_presentOf u n)))), .int 0, .int url, .int n, .ref (ad 0)]) (by first | (rw [e120]; done) | (rw [e120]; rfl)) ?_
                refine J150 _ ?_
                exact lv_sub hl [0] rfl
              have e121 : (jm_nh u url (u 6 (ix (jm_presentOf u n))) (jm_within (u 6 (ix (jm_presentOf u n))) url)) = (js_up u 24 0 ((u 24 0) + 1)) := by simp [jm_nh, h109, h115]
              refine J128 _ _ _ ?_ ?_
              ·
                try rw [e121]
                exact hh
              try rw [e121]
              exact lv_sub hl [1, 2, 3, 4, 6, 0] rfl
            have e122 : (jm_within (u 6 (ix (jm_presentOf u n))) url) = 0 := by first | (simp [jm_within, h64, h72, h79]; done) | (simp [jm_within, eq_true h64, h72, eq_true h79]; done)
            refine W.eq (g2 := F0 m 105 ls [.int (jm_within (u 6 (ix (jm_presentOf u n))) url)]) (by first | (rw [e122]; done) | (rw [e122]; rfl)) ?_
            refine J105 _ _ _ ?_ ?_
            ·
              exact hh
            exact lv_sub hl [1, 2, 3, 4, 5, 0] rfl
          refine lv_iload hx hb d_M_navigate_82 (lv_at hl 5 rfl) ?_
          refine lv_iconst (v := -1) hx hb d_M_navigate_84 (by decide) ?_
          refine lv_icmp_eq (tgt := 104) hx hb d_M_navigate_85 rfl (fun h85 => ?_) (fun h85 => ?_)
          ·
            refine lv_iconst (v := 0) hx hb d_M_navigate_104 (by decide) ?_
            have J105 : ∀  (H : Heap) (locs : List Loc) (ls : Array Slot), jx_H D 22 ad (jm_cell ad cA u) A s.heap H locs → lv_has ls 8 [(0, .ref (ad 0)), (1, .int n), (2, .int url), (4, .int (jm_presentOf u n)), (5, .int (u 6 (ix (jm_presentOf u n)))), (6, .int (jm_push rep url (u 6 (ix (jm_presentOf u n)))))] → W p l e (jr 7) s m args below meth c H locs 0 0 Q (F0 m 105 ls [.int (jm_within (u 6 (ix (jm_presentOf u n))) url)]) := by
              intro  H locs ls hh hl
              refine lv_istore (i := 7) (lv' := [(7, .int (jm_within (u 6 (ix (jm_presentOf u n))) url)), (0, .ref (ad 0)), (1, .int n), (2, .int url), (4, .int (jm_presentOf u n)), (5, .int (u 6 (ix (jm_presentOf u n)))), (6, .int (jm_push rep url (u 6 (ix (jm_presentOf u n)))))]) hx hb d_M_navigate_105 hl (by decide) rfl (fun ls hl => ?_)
              refine lv_iload hx hb d_M_navigate_107 (lv_at hl 0 rfl) ?_
              refine lv_if_eq (tgt := 128) hx hb d_M_navigate_109 rfl (fun h109 => ?_) (fun h109 => ?_)
              ·
                have J128 : ∀  (H : Heap) (locs : List Loc) (ls : Array Slot), jx_H D 22 ad (jm_cell ad cA (jm_nh u url (u 6 (ix (jm_presentOf u n))) (jm_within (u 6 (ix (jm_presentOf u n))) url))) A s.heap H locs → lv_has ls 8 [(0, .ref (ad 0)), (1, .int n), (2, .int url), (4, .int (jm_presentOf u n)), (6, .int (jm_push rep url (u 6 (ix (jm_presentOf u n))))), (7, .int (jm_within (u 6 (ix (jm_presentOf u n))) url))] → W p l e (jr 7) s m args below meth c H locs 0 0 Q (F0 m 128 ls []) := by
                  intro  H locs ls hh hl
                  refine lv_aload_n hx hb d_M_navigate_128 rfl (lv_at hl 0 rfl) ?_
                  refine lv_iload_n hx hb d_M_navigate_129 rfl (lv_at hl 1 rfl) ?_
                  refine lv_iload_n hx hb d_M_navigate_130 rfl (lv_at hl 2 rfl) ?_
                  refine lv_iconst (v := 0) hx hb d_M_navigate_131 (by decide) ?_
                  refine lv_iload hx hb d_M_navigate_132 (lv_at hl 4 rfl) ?_
                  refine lv_iload hx hb d_M_navigate_134 (lv_at hl 5 rfl) ?_
                  refine lv_if_eq (tgt := 149) hx hb d_M_navigate_136 rfl (fun h136 => ?_) (fun h136 => ?_)
                  ·
                    refine lv_iconst (v := -1) hx hb d_M_navigate_149 (by decide) ?_
                    have J150 : ∀  (ls : Array Slot), lv_has ls 8 [(0, .ref (ad 0))] → W p l e (jr 7) s m args below meth c H locs 0 0 Q (F0 m 150 ls [.int (jm_nd (jm_nh u url (u 6 (ix (jm_presentOf u n))) (jm_within (u 6 (ix (jm_presentOf u n))) url)) (jm_presentOf u n) (jm_within (u 6 (ix (jm_presentOf u n))) url)), .int (jm_push rep url (u 6 (ix (jm_presentOf u n)))), .int 0, .int url, .int n, .ref (ad 0)]) := by
                      intro  ls hl
                      refine jx_callV [.int n, .int url, .int 0, .int (jm_push rep url (u 6 (ix (jm_presentOf u n)))), .int (jm_nd (jm_nh u url (u 6 (ix (jm_presentOf u n))) (jm_within (u 6 (ix (jm_presentOf u n))) url)) (jm_presentOf u n) (jm_within (u 6 (ix (jm_presentOf u n))) url))] [] hc hh (m_enter l D aK ad cA (jm_nh u url (u 6 (ix (jm_presentOf u n))) (jm_within (u 6 (ix (jm_presentOf u n))) url)) n url 0 (jm_push rep url (u 6 (ix (jm_presentOf u n)))) (jm_nd (jm_nh u url (u 6 (ix (jm_presentOf u n))) (jm_within (u 6 (ix (jm_presentOf u n))) url)) (jm_presentOf u n) (jm_within (u 6 (ix (jm_presentOf u n))) url)) (jm_nh_Sh hS) (jm_shown_ex h19) (jm_btw_ub h8) (jm_nd_jq (jm_nh_Sh hS) jm_pr_ex) (jm_Nw_of hn jm_nh_21)) wy_M_159 ⟨by decide, rfl, rfl⟩ (by decide) rfl hl.1 rfl (by decide) ⟨Nat.zero_le _, Nat.zero_le _⟩ d_M_navigate_150 (fun r u9 H locs hp hh _ _ => ?_)
                      rw [hp.2] at hh
                      refine W.eq (g2 := F0 m 153 ls []) rfl ?_
                      refine lv_aload_n hx hb d_M_navigate_153 rfl (lv_at hl 0 rfl) ?_
                      refine jg_M hc hh 21 (by decide) rfl wf_M_130 d_M_navigate_154 ?_
                      exact jx_iret (r := ((jm_enter (jm_nh u url (u 6 (ix (jm_presentOf u n))) (jm_within (u 6 (ix (jm_presentOf u n))) url)) n url 0 (jm_push rep url (u 6 (ix (jm_presentOf u n)))) (jm_nd (jm_nh u url (u 6 (ix (jm_presentOf u n))) (jm_within (u 6 (ix (jm_presentOf u n))) url)) (jm_presentOf u n) (jm_within (u 6 (ix (jm_presentOf u n))) url))) 21 0)) hc hh hQ hlk hr rfl rfl ⟨by unfold jm_navigate jm_navF; rw [if_neg h8, if_neg h19, if_pos h64]; rfl, by unfold jm_navigate jm_navF; rw [if_neg h8, if_neg h19, if_pos h64]; rfl⟩ d_M_navigate_157
                    have e123 : (jm_nd (jm_nh u url (u 6 (ix (jm_presentOf u n))) (jm_within (u 6 (ix (jm_presentOf u n))) url)) (jm_presentOf u n) (jm_within (u 6 (ix (jm_presentOf u n))) url)) = (-1) := by first | (simp [jm_nd, h136]; done) | (simp [jm_nd, eq_true h136]; done)
                    refine W.eq (g2 := F0 m 150 ls [.int (jm_nd (jm_nh u url (u 6 (ix (jm_presentOf u n))) (jm_within (u 6 (ix (jm_presentOf u n))) url)) (jm_presentOf u n) (jm_within (u 6 (ix (jm_presentOf u n))) url)), .int (jm_push rep url (u 6 (ix (jm_presentOf u n)))), .int 0, .int url, .int n, .ref (ad 0)]) (by first | (rw [e123]; done) | (rw [e123]; rfl)) ?_
                    refine J150 _ ?_
                    exact lv_sub hl [0] rfl
                  refine lv_aload_n hx hb d_M_navigate_139 rfl (lv_at hl 0 rfl) ?_
                  refine jg_M hc hh 8 (by decide) rfl wf_M_35 d_M_navigate_140 ?_
                  refine lv_iload hx hb d_M_navigate_143 (lv_at hl 3 rfl) ?_
                  refine jm_ild hc hh 8 (by decide) (by decide) jm_pr_ex d_M_navigate_145 ?_
                  refine lv_goto (tgt := 150) hx hb d_M_navigate_146 rfl ?_
                  have J150 : ∀  (ls : Array Slot), lv_has ls 8 [(0, .ref (ad 0))] → W p l e (jr 7) s m args below meth c H locs 0 0 Q (F0 m 150 ls [.int (jm_nd (jm_nh u url (u 6 (ix (jm_presentOf u n))) (jm_within (u 6 (ix (jm_presentOf u n))) url)) (jm_presentOf u n) (jm_within (u 6 (ix (jm_presentOf u n))) url)), .int (jm_push rep url (u 6 (ix (jm_presentOf u n)))), .int 0, .int url, .int n, .ref (ad 0)]) := by
                    intro  ls hl
                    refine jx_callV [.int n, .int url, .int 0, .int (jm_push rep url (u 6 (ix (jm_presentOf u n)))), .int (jm_nd (jm_nh u url (u 6 (ix (jm_presentOf u n))) (jm_within (u 6 (ix (jm_presentOf u n))) url)) (jm_presentOf u n) (jm_within (u 6 (ix (jm_presentOf u n))) url))] [] hc hh (m_enter l D aK ad cA (jm_nh u url (u 6 (ix (jm_presentOf u n))) (jm_within (u 6 (ix (jm_presentOf u n))) url)) n url 0 (jm_push rep url (u 6 (ix (jm_presentOf u n)))) (jm_nd (jm_nh u url (u 6 (ix (jm_presentOf u n))) (jm_within (u 6 (ix (jm_presentOf u n))) url)) (jm_presentOf u n) (jm_within (u 6 (ix (jm_presentOf u n))) url)) (jm_nh_Sh hS) (jm_shown_ex h19) (jm_btw_ub h8) (jm_nd_jq (jm_nh_Sh hS) jm_pr_ex) (jm_Nw_of hn jm_nh_21)) wy_M_159 ⟨by decide, rfl, rfl⟩ (by decide) rfl hl.1 rfl (by decide) ⟨Nat.zero_le _, Nat.zero_le _⟩ d_M_navigate_150 (fun r u9 H locs hp hh _ _ => ?_)
                    rw [hp.2] at hh
                    refine W.eq (g2 := F0 m 153 ls []) rfl ?_
                    refine lv_aload_n hx hb d_M_navigate_153 rfl (lv_at hl 0 rfl) ?_
                    refine jg_M hc hh 21 (by decide) rfl wf_M_130 d_M_navigate_154 ?_
                    exact jx_iret (r := ((jm_enter (jm_nh u url (u 6 (ix (jm_presentOf u n))) (jm_within (u 6 (ix (jm_presentOf u n))) url)) n url 0 (jm_push rep url (u 6 (ix (jm_presentOf u n)))) (jm_nd (jm_nh u url (u 6 (ix (jm_presentOf u n))) (jm_within (u 6 (ix (jm_presentOf u n))) url)) (jm_presentOf u n) (jm_within (u 6 (ix (jm_presentOf u n))) url))) 21 0)) hc hh hQ hlk hr rfl rfl ⟨by unfold jm_navigate jm_navF; rw [if_neg h8, if_neg h19, if_pos h64]; rfl, by unfold jm_navigate jm_navF; rw [if_neg h8, if_neg h19, if_pos h64]; rfl⟩ d_M_navigate_157
                  have e124 : (jm_nd (jm_nh u url (u 6 (ix (jm_presentOf u n))) (jm_within (u 6 (ix (jm_presentOf u n))) url)) (jm_presentOf u n) (jm_within (u 6 (ix (jm_presentOf u n))) url)) = ((jm_nh u url (u 6 (ix (jm_presentOf u n))) (jm_within (u 6 (ix (jm_presentOf u n))) url)) 8 (ix (jm_presentOf u n))) := by simp [jm_nd, h136]
                  refine W.eq (g2 := F0 m 150 ls [.int (jm_nd (jm_nh u url (u 6 (ix (jm_presentOf u n))) (jm_within (u 6 (ix (jm_presentOf u n))) url)) (jm_presentOf u n) (jm_within (u 6 (ix (jm_presentOf u n))) url)), .int (jm_push rep url (u 6 (ix (jm_presentOf u n)))), .int 0, .int url, .int n, .ref (ad 0)]) (by first | (rw [e124]; done) | (rw [e124]; rfl)) ?_
                  refine J150 _ ?_
                  exact lv_sub hl [0] rfl
                have e125 : (jm_nh u url (u 6 (ix (jm_presentOf u n))) (jm_within (u 6 (ix (jm_presentOf u n))) url)) = u := by first | (simp [jm_nh, h109]; done) | (simp [jm_nh, eq_true h109]; done)
                refine J128 _ _ _ ?_ ?_
                ·
                  try rw [e125]
                  exact hh
                try rw [e125]
                exact lv_sub hl [1, 2, 3, 4, 6, 0] rfl
              refine lv_iload_n hx hb d_M_navigate_112 rfl (lv_at hl 3 rfl) ?_
              refine lv_iload hx hb d_M_navigate_113 (lv_at hl 5 rfl) ?_
              refine lv_icmp_eq (tgt := 128) hx hb d_M_navigate_115 rfl (fun h115 => ?_) (fun h115 => ?_)
              ·
                have J128 : ∀  (H : Heap) (locs : List Loc) (ls : Array Slot), jx_H D 22 ad (jm_cell ad cA (jm_nh u url (u 6 (ix (jm_presentOf u n))) (jm_within (u 6 (ix (jm_presentOf u n))) url))) A s.heap H locs → lv_has ls 8 [(0, .ref (ad 0)), (1, .int n), (2, .int url), (4, .int (jm_presentOf u n)), (6, .int (jm_push rep url (u 6 (ix (jm_presentOf u n))))), (7, .int (jm_within (u 6 (ix (jm_presentOf u n))) url))] → W p l e (jr 7) s m args below meth c H locs 0 0 Q (F0 m 128 ls []) := by
                  intro  H locs ls hh hl
                  refine lv_aload_n hx hb d_M_navigate_128 rfl (lv_at hl 0 rfl) ?_
                  refine lv_iload_n hx hb d_M_navigate_129 rfl (lv_at hl 1 rfl) ?_
                  refine lv_iload_n hx hb d_M_navigate_130 rfl (lv_at hl 2 rfl) ?_
                  refine lv_iconst (v := 0) hx hb d_M_navigate_131 (by decide) ?_
                  refine lv_iload hx hb d_M_navigate_132 (lv_at hl 4 rfl) ?_
                  refine lv_iload hx hb d_M_navigate_134 (lv_at hl 5 rfl) ?_
                  refine lv_if_eq (tgt := 149) hx hb d_M_navigate_136 rfl (fun h136 => ?_) (fun h136 => ?_)
                  ·
                    refine lv_iconst (v := -1) hx hb d_M_navigate_149 (by decide) ?_
                    have J150 : ∀  (ls : Array Slot), lv_has ls 8 [(0, .ref (ad 0))] → W p l e (jr 7) s m args below meth c H locs 0 0 Q (F0 m 150 ls [.int (jm_nd (jm_nh u url (u 6 (ix (jm_presentOf u n))) (jm_within (u 6 (ix (jm_presentOf u n))) url)) (jm_presentOf u n) (jm_within (u 6 (ix (jm_presentOf u n))) url)), .int (jm_push rep url (u 6 (ix (jm_presentOf u n)))), .int 0, .int url, .int n, .ref (ad 0)]) := by
                      intro  ls hl
                      refine jx_callV [.int n, .int url, .int 0, .int (jm_push rep url (u 6 (ix (jm_presentOf u n)))), .int (jm_nd (jm_nh u url (u 6 (ix (jm_presentOf u n))) (jm_within (u 6 (ix (jm_presentOf u n))) url)) (jm_presentOf u n) (jm_within (u 6 (ix (jm_presentOf u n))) url))] [] hc hh (m_enter l D aK ad cA (jm_nh u url (u 6 (ix (jm_presentOf u n))) (jm_within (u 6 (ix (jm_presentOf u n))) url)) n url 0 (jm_push rep url (u 6 (ix (jm_presentOf u n)))) (jm_nd (jm_nh u url (u 6 (ix (jm_presentOf u n))) (jm_within (u 6 (ix (jm_presentOf u n))) url)) (jm_presentOf u n) (jm_within (u 6 (ix (jm_presentOf u n))) url)) (jm_nh_Sh hS) (jm_shown_ex h19) (jm_btw_ub h8) (jm_nd_jq (jm_nh_Sh hS) jm_pr_ex) (jm_Nw_of hn jm_nh_21)) wy_M_159 ⟨by decide, rfl, rfl⟩ (by decide) rfl hl.1 rfl (by decide) ⟨Nat.zero_le _, Nat.zero_le _⟩ d_M_navigate_150 (fun r u9 H locs hp hh _ _ => ?_)
                      rw [hp.2] at hh
                      refine W.eq (g2 := F0 m 153 ls []) rfl ?_
                      refine lv_aload_n hx hb d_M_navigate_153 rfl (lv_at hl 0 rfl) ?_
                      refine jg_M hc hh 21 (by decide) rfl wf_M_130 d_M_navigate_154 ?_
                      exact jx_iret (r := ((jm_enter (jm_nh u url (u 6 (ix (jm_presentOf u n))) (jm_within (u 6 (ix (jm_presentOf u n))) url)) n url 0 (jm_push rep url (u 6 (ix (jm_presentOf u n)))) (jm_nd (jm_nh u url (u 6 (ix (jm_presentOf u n))) (jm_within (u 6 (ix (jm_presentOf u n))) url)) (jm_presentOf u n) (jm_within (u 6 (ix (jm_presentOf u n))) url))) 21 0)) hc hh hQ hlk hr rfl rfl ⟨by unfold jm_navigate jm_navF; rw [if_neg h8, if_neg h19, if_pos h64]; rfl, by unfold jm_navigate jm_navF; rw [if_neg h8, if_neg h19, if_pos h64]; rfl⟩ d_M_navigate_157
                    have e126 : (jm_nd (jm_nh u url (u 6 (ix (jm_presentOf u n))) (jm_within (u 6 (ix (jm_presentOf u n))) url)) (jm_presentOf u n) (jm_within (u 6 (ix (jm_presentOf u n))) url)) = (-1) := by first | (simp [jm_nd, h136]; done) | (simp [jm_nd, eq_true h136]; done)
                    refine W.eq (g2 := F0 m 150 ls [.int (jm_nd (jm_nh u url (u 6 (ix (jm_presentOf u n))) (jm_within (u 6 (ix (jm_presentOf u n))) url)) (jm_presentOf u n) (jm_within (u 6 (ix (jm_presentOf u n))) url)), .int (jm_push rep url (u 6 (ix (jm_presentOf u n)))), .int 0, .int url, .int n, .ref (ad 0)]) (by first | (rw [e126]; done) | (rw [e126]; rfl)) ?_
                    refine J150 _ ?_
                    exact lv_sub hl [0] rfl
                  refine lv_aload_n hx hb d_M_navigate_139 rfl (lv_at hl 0 rfl) ?_
                  refine jg_M hc hh 8 (by decide) rfl wf_M_35 d_M_navigate_140 ?_
                  refine lv_iload hx hb d_M_navigate_143 (lv_at hl 3 rfl) ?_
                  refine jm_ild hc hh 8 (by decide) (by decide) jm_pr_ex d_M_navigate_145 ?_
                  refine lv_goto (tgt := 150) hx hb d_M_navigate_146 rfl ?_
                  have J150 : ∀  (ls : Array Slot), lv_has ls 8 [(0, .ref (ad 0))] → W p l e (jr 7) s m args below meth c H locs 0 0 Q (F0 m 150 ls [.int (jm_nd (jm_nh u url (u 6 (ix (jm_presentOf u n))) (jm_within (u 6 (ix (jm_presentOf u n))) url)) (jm_presentOf u n) (jm_within (u 6 (ix (jm_presentOf u n))) url)), .int (jm_push rep url (u 6 (ix (jm_presentOf u n)))), .int 0, .int url, .int n, .ref (ad 0)]) := by
                    intro  ls hl
                    refine jx_callV [.int n, .int url, .int 0, .int (jm_push rep url (u 6 (ix (jm_presentOf u n)))), .int (jm_nd (jm_nh u url (u 6 (ix (jm_presentOf u n))) (jm_within (u 6 (ix (jm_presentOf u n))) url)) (jm_presentOf u n) (jm_within (u 6 (ix (jm_presentOf u n))) url))] [] hc hh (m_enter l D aK ad cA (jm_nh u url (u 6 (ix (jm_presentOf u n))) (jm_within (u 6 (ix (jm_presentOf u n))) url)) n url 0 (jm_push rep url (u 6 (ix (jm_presentOf u n)))) (jm_nd (jm_nh u url (u 6 (ix (jm_presentOf u n))) (jm_within (u 6 (ix (jm_presentOf u n))) url)) (jm_presentOf u n) (jm_within (u 6 (ix (jm_presentOf u n))) url)) (jm_nh_Sh hS) (jm_shown_ex h19) (jm_btw_ub h8) (jm_nd_jq (jm_nh_Sh hS) jm_pr_ex) (jm_Nw_of hn jm_nh_21)) wy_M_159 ⟨by decide, rfl, rfl⟩ (by decide) rfl hl.1 rfl (by decide) ⟨Nat.zero_le _, Nat.zero_le _⟩ d_M_navigate_150 (fun r u9 H locs hp hh _ _ => ?_)
                    rw [hp.2] at hh
                    refine W.eq (g2 := F0 m 153 ls []) rfl ?_
                    refine lv_aload_n hx hb d_M_navigate_153 rfl (lv_at hl 0 rfl) ?_
                    refine jg_M hc hh 21 (by decide) rfl wf_M_130 d_M_navigate_154 ?_
                    exact jx_iret (r := ((jm_enter (jm_nh u url (u 6 (ix (jm_presentOf u n))) (jm_within (u 6 (ix (jm_presentOf u n))) url)) n url 0 (jm_push rep url (u 6 (ix (jm_presentOf u n)))) (jm_nd (jm_nh u url (u 6 (ix (jm_presentOf u n))) (jm_within (u 6 (ix (jm_presentOf u n))) url)) (jm_presentOf u n) (jm_within (u 6 (ix (jm_presentOf u n))) url))) 21 0)) hc hh hQ hlk hr rfl rfl ⟨by unfold jm_navigate jm_navF; rw [if_neg h8, if_neg h19, if_pos h64]; rfl, by unfold jm_navigate jm_navF; rw [if_neg h8, if_neg h19, if_pos h64]; rfl⟩ d_M_navigate_157
                  have e127 : (jm_nd (jm_nh u url (u 6 (ix (jm_presentOf u n))) (jm_within (u 6 (ix (jm_presentOf u n))) url)) (jm_presentOf u n) (jm_within (u 6 (ix (jm_presentOf u n))) url)) = ((jm_nh u url (u 6 (ix (jm_presentOf u n))) (jm_within (u 6 (ix (jm_presentOf u n))) url)) 8 (ix (jm_presentOf u n))) := by simp [jm_nd, h136]
                  refine W.eq (g2 := F0 m 150 ls [.int (jm_nd (jm_nh u url (u 6 (ix (jm_presentOf u n))) (jm_within (u 6 (ix (jm_presentOf u n))) url)) (jm_presentOf u n) (jm_within (u 6 (ix (jm_presentOf u n))) url)), .int (jm_push rep url (u 6 (ix (jm_presentOf u n)))), .int 0, .int url, .int n, .ref (ad 0)]) (by first | (rw [e127]; done) | (rw [e127]; rfl)) ?_
                  refine J150 _ ?_
                  exact lv_sub hl [0] rfl
                have e128 : (jm_nh u url (u 6 (ix (jm_presentOf u n))) (jm_within (u 6 (ix (jm_presentOf u n))) url)) = u := by first | (simp [jm_nh, h109, h115]; done) | (simp [jm_nh, h109, eq_true h115]; done)
                refine J128 _ _ _ ?_ ?_
                ·
                  try rw [e128]
                  exact hh
                try rw [e128]
                exact lv_sub hl [1, 2, 3, 4, 6, 0] rfl
              refine lv_aload_n hx hb d_M_navigate_118 rfl (lv_at hl 1 rfl) ?_
              refine lv_dup hx hb d_M_navigate_119 rfl ?_
              refine jg_M hc hh 24 (by decide) rfl wf_M_156 d_M_navigate_120 ?_
              refine lv_iconst (v := 1) hx hb d_M_navigate_123 (by decide) ?_
              refine lv_iadd hx hb d_M_navigate_124 ?_
              refine jpm_24 hc hh wf_M_156 d_M_navigate_125 (fun H locs hh => ?_)
              have J128 : ∀  (H : Heap) (locs : List Loc) (ls : Array Slot), jx_H D 22 ad (jm_cell ad cA (jm_nh u url (u 6 (ix (jm_presentOf u n))) (jm_within (u 6 (ix (jm_presentOf u n))) url))) A s.heap H locs → lv_has ls 8 [(0, .ref (ad 0)), (1, .int n), (2, .int url), (4, .int (jm_presentOf u n)), (6, .int (jm_push rep url (u 6 (ix (jm_presentOf u n))))), (7, .int (jm_within (u 6 (ix (jm_presentOf u n))) url))] → W p l e (jr 7) s m args below meth c H locs 0 0 Q (F0 m 128 ls []) := by
                intro  H locs ls hh hl
                refine lv_aload_n hx hb d_M_navigate_128 rfl (lv_at hl 0 rfl) ?_
                refine lv_iload_n hx hb d_M_navigate_129 rfl (lv_at hl 1 rfl) ?_
                refine lv_iload_n hx hb d_M_navigate_130 rfl (lv_at hl 2 rfl) ?_
                refine lv_iconst (v := 0) hx hb d_M_navigate_131 (by decide) ?_
                refine lv_iload hx hb d_M_navigate_132 (lv_at hl 4 rfl) ?_
                refine lv_iload hx hb d_M_navigate_134 (lv_at hl 5 rfl) ?_
                refine lv_if_eq (tgt := 149) hx hb d_M_navigate_136 rfl (fun h136 => ?_) (fun h136 => ?_)
                ·
                  refine lv_iconst (v := -1) hx hb d_M_navigate_149 (by decide) ?_
                  have J150 : ∀  (ls : Array Slot), lv_has ls 8 [(0, .ref (ad 0))] → W p l e (jr 7) s m args below meth c H locs 0 0 Q (F0 m 150 ls [.int (jm_nd (jm_nh u url (u 6 (ix (jm_presentOf u n))) (jm_within (u 6 (ix (jm_presentOf u n))) url)) (jm_presentOf u n) (jm_within (u 6 (ix (jm_presentOf u n))) url)), .int (jm_push rep url (u 6 (ix (jm_presentOf u n)))), .int 0, .int url, .int n, .ref (ad 0)]) := by
                    intro  ls hl
                    refine jx_callV [.int n, .int url, .int 0, .int (jm_push rep url (u 6 (ix (jm_presentOf u n)))), .int (jm_nd (jm_nh u url (u 6 (ix (jm_presentOf u n))) (jm_within (u 6 (ix (jm_presentOf u n))) url)) (jm_presentOf u n) (jm_within (u 6 (ix (jm_presentOf u n))) url))] [] hc hh (m_enter l D aK ad cA (jm_nh u url (u 6 (ix (jm_presentOf u n))) (jm_within (u 6 (ix (jm_presentOf u n))) url)) n url 0 (jm_push rep url (u 6 (ix (jm_presentOf u n)))) (jm_nd (jm_nh u url (u 6 (ix (jm_presentOf u n))) (jm_within (u 6 (ix (jm_presentOf u n))) url)) (jm_presentOf u n) (jm_within (u 6 (ix (jm_presentOf u n))) url)) (jm_nh_Sh hS) (jm_shown_ex h19) (jm_btw_ub h8) (jm_nd_jq (jm_nh_Sh hS) jm_pr_ex) (jm_Nw_of hn jm_nh_21)) wy_M_159 ⟨by decide, rfl, rfl⟩ (by decide) rfl hl.1 rfl (by decide) ⟨Nat.zero_le _, Nat.zero_le _⟩ d_M_navigate_150 (fun r u9 H locs hp hh _ _ => ?_)
                    rw [hp.2] at hh
                    refine W.eq (g2 := F0 m 153 ls []) rfl ?_
                    refine lv_aload_n hx hb d_M_navigate_153 rfl (lv_at hl 0 rfl) ?_
                    refine jg_M hc hh 21 (by decide) rfl wf_M_130 d_M_navigate_154 ?_
                    exact jx_iret (r := ((jm_enter (jm_nh u url (u 6 (ix (jm_presentOf u n))) (jm_within (u 6 (ix (jm_presentOf u n))) url)) n url 0 (jm_push rep url (u 6 (ix (jm_presentOf u n)))) (jm_nd (jm_nh u url (u 6 (ix (jm_presentOf u n))) (jm_within (u 6 (ix (jm_presentOf u n))) url)) (jm_presentOf u n) (jm_within (u 6 (ix (jm_presentOf u n))) url))) 21 0)) hc hh hQ hlk hr rfl rfl ⟨by unfold jm_navigate jm_navF; rw [if_neg h8, if_neg h19, if_pos h64]; rfl, by unfold jm_navigate jm_navF; rw [if_neg h8, if_neg h19, if_pos h64]; rfl⟩ d_M_navigate_157
                  have e129 : (jm_nd (jm_nh u url (u 6 (ix (jm_presentOf u n))) (jm_within (u 6 (ix (jm_presentOf u n))) url)) (jm_presentOf u n) (jm_within (u 6 (ix (jm_presentOf u n))) url)) = (-1) := by first | (simp [jm_nd, h136]; done) | (simp [jm_nd, eq_true h136]; done)
                  refine W.eq (g2 := F0 m 150 ls [.int (jm_nd (jm_nh u url (u 6 (ix (jm_presentOf u n))) (jm_within (u 6 (ix (jm_presentOf u n))) url)) (jm_presentOf u n) (jm_within (u 6 (ix (jm_presentOf u n))) url)), .int (jm_push rep url (u 6 (ix (jm_presentOf u n)))), .int 0, .int url, .int n, .ref (ad 0)]) (by first | (rw [e129]; done) | (rw [e129]; rfl)) ?_
                  refine J150 _ ?_
                  exact lv_sub hl [0] rfl
                refine lv_aload_n hx hb d_M_navigate_139 rfl (lv_at hl 0 rfl) ?_
                refine jg_M hc hh 8 (by decide) rfl wf_M_35 d_M_navigate_140 ?_
                refine lv_iload hx hb d_M_navigate_143 (lv_at hl 3 rfl) ?_
                refine jm_ild hc hh 8 (by decide) (by decide) jm_pr_ex d_M_navigate_145 ?_
                refine lv_goto (tgt := 150) hx hb d_M_navigate_146 rfl ?_
                have J150 : ∀  (ls : Array Slot), lv_has ls 8 [(0, .ref (ad 0))] → W p l e (jr 7) s m args below meth c H locs 0 0 Q (F0 m 150 ls [.int (jm_nd (jm_nh u url (u 6 (ix (jm_presentOf u n))) (jm_within (u 6 (ix (jm_presentOf u n))) url)) (jm_presentOf u n) (jm_within (u 6 (ix (jm_presentOf u n))) url)), .int (jm_push rep url (u 6 (ix (jm_presentOf u n)))), .int 0, .int url, .int n, .ref (ad 0)]) := by
                  intro  ls hl
                  refine jx_callV [.int n, .int url, .int 0, .int (jm_push rep url (u 6 (ix (jm_presentOf u n)))), .int (jm_nd (jm_nh u url (u 6 (ix (jm_presentOf u n))) (jm_within (u 6 (ix (jm_presentOf u n))) url)) (jm_presentOf u n) (jm_within (u 6 (ix (jm_presentOf u n))) url))] [] hc hh (m_enter l D aK ad cA (jm_nh u url (u 6 (ix (jm_presentOf u n))) (jm_within (u 6 (ix (jm_presentOf u n))) url)) n url 0 (jm_push rep url (u 6 (ix (jm_presentOf u n)))) (jm_nd (jm_nh u url (u 6 (ix (jm_presentOf u n))) (jm_within (u 6 (ix (jm_presentOf u n))) url)) (jm_presentOf u n) (jm_within (u 6 (ix (jm_presentOf u n))) url)) (jm_nh_Sh hS) (jm_shown_ex h19) (jm_btw_ub h8) (jm_nd_jq (jm_nh_Sh hS) jm_pr_ex) (jm_Nw_of hn jm_nh_21)) wy_M_159 ⟨by decide, rfl, rfl⟩ (by decide) rfl hl.1 rfl (by decide) ⟨Nat.zero_le _, Nat.zero_le _⟩ d_M_navigate_150 (fun r u9 H locs hp hh _ _ => ?_)
                  rw [hp.2] at hh
                  refine W.eq (g2 := F0 m 153 ls []) rfl ?_
                  refine lv_aload_n hx hb d_M_navigate_153 rfl (lv_at hl 0 rfl) ?_
                  refine jg_M hc hh 21 (by decide) rfl wf_M_130 d_M_navigate_154 ?_
                  exact jx_iret (r := ((jm_enter (jm_nh u url (u 6 (ix (jm_presentOf u n))) (jm_within (u 6 (ix (jm_presentOf u n))) url)) n url 0 (jm_push rep url (u 6 (ix (jm_presentOf u n)))) (jm_nd (jm_nh u url (u 6 (ix (jm_presentOf u n))) (jm_within (u 6 (ix (jm_presentOf u n))) url)) (jm_presentOf u n) (jm_within (u 6 (ix (jm_presentOf u n))) url))) 21 0)) hc hh hQ hlk hr rfl rfl ⟨by unfold jm_navigate jm_navF; rw [if_neg h8, if_neg h19, if_pos h64]; rfl, by unfold jm_navigate jm_navF; rw [if_neg h8, if_neg h19, if_pos h64]; rfl⟩ d_M_navigate_157
                have e130 : (jm_nd (jm_nh u url (u 6 (ix (jm_presentOf u n))) (jm_within (u 6 (ix (jm_presentOf u n))) url)) (jm_presentOf u n) (jm_within (u 6 (ix (jm_presentOf u n))) url)) = ((jm_nh u url (u 6 (ix (jm_presentOf u n))) (jm_within (u 6 (ix (jm_presentOf u n))) url)) 8 (ix (jm_presentOf u n))) := by simp [jm_nd, h136]
                refine W.eq (g2 := F0 m 150 ls [.int (jm_nd (jm_nh u url (u 6 (ix (jm_presentOf u n))) (jm_within (u 6 (ix (jm_presentOf u n))) url)) (jm_presentOf u n) (jm_within (u 6 (ix (jm_presentOf u n))) url)), .int (jm_push rep url (u 6 (ix (jm_presentOf u n)))), .int 0, .int url, .int n, .ref (ad 0)]) (by first | (rw [e130]; done) | (rw [e130]; rfl)) ?_
                refine J150 _ ?_
                exact lv_sub hl [0] rfl
              have e131 : (jm_nh u url (u 6 (ix (jm_presentOf u n))) (jm_within (u 6 (ix (jm_presentOf u n))) url)) = (js_up u 24 0 ((u 24 0) + 1)) := by simp [jm_nh, h109, h115]
              refine J128 _ _ _ ?_ ?_
              ·
                try rw [e131]
                exact hh
              try rw [e131]
              exact lv_sub hl [1, 2, 3, 4, 6, 0] rfl
            have e132 : (jm_within (u 6 (ix (jm_presentOf u n))) url) = 0 := by first | (simp [jm_within, h64, h72, h79, h85]; done) | (simp [jm_within, eq_true h64, h72, h79, eq_true h85]; done)
            refine W.eq (g2 := F0 m 105 ls [.int (jm_within (u 6 (ix (jm_presentOf u n))) url)]) (by first | (rw [e132]; done) | (rw [e132]; rfl)) ?_
            refine J105 _ _ _ ?_ ?_
            ·
              exact hh
            exact lv_sub hl [1, 2, 3, 4, 5, 0] rfl
          refine lv_iload hx hb d_M_navigate_88 (lv_at hl 5 rfl) ?_
          refine lv_bipush (v := 8) hx hb d_M_navigate_90 (by decide) ?_
          refine lv_idiv hx hb d_M_navigate_92 (by decide) ?_
          refine lv_iload_n hx hb d_M_navigate_93 rfl (lv_at hl 3 rfl) ?_
          refine lv_bipush (v := 8) hx hb d_M_navigate_94 (by decide) ?_
          refine lv_idiv hx hb d_M_navigate_96 (by decide) ?_
          refine lv_icmp_ne (tgt := 104) hx hb d_M_navigate_97 rfl (fun h97 => ?_) (fun h97 => ?_)
          ·
            refine lv_iconst (v := 0) hx hb d_M_navigate_104 (by decide) ?_
            have J105 : ∀  (H : Heap) (locs : List Loc) (ls : Array Slot), jx_H D 22 ad (jm_cell ad cA u) A s.heap H locs → lv_has ls 8 [(0, .ref (ad 0)), (1, .int n), (2, .int url), (4, .int (jm_presentOf u n)), (5, .int (u 6 (ix (jm_presentOf u n)))), (6, .int (jm_push rep url (u 6 (ix (jm_presentOf u n)))))] → W p l e (jr 7) s m args below meth c H locs 0 0 Q (F0 m 105 ls [.int (jm_within (u 6 (ix (jm_presentOf u n))) url)]) := by
              intro  H locs ls hh hl
              refine lv_istore (i := 7) (lv' := [(7, .int (jm_within (u 6 (ix (jm_presentOf u n))) url)), (0, .ref (ad 0)), (1, .int n), (2, .int url), (4, .int (jm_presentOf u n)), (5, .int (u 6 (ix (jm_presentOf u n)))), (6, .int (jm_push rep url (u 6 (ix (jm_presentOf u n)))))]) hx hb d_M_navigate_105 hl (by decide) rfl (fun ls hl => ?_)
              refine lv_iload hx hb d_M_navigate_107 (lv_at hl 0 rfl) ?_
              refine lv_if_eq (tgt := 128) hx hb d_M_navigate_109 rfl (fun h109 => ?_) (fun h109 => ?_)
              ·
                have J128 : ∀  (H : Heap) (locs : List Loc) (ls : Array Slot), jx_H D 22 ad (jm_cell ad cA (jm_nh u url (u 6 (ix (jm_presentOf u n))) (jm_within (u 6 (ix (jm_presentOf u n))) url))) A s.heap H locs → lv_has ls 8 [(0, .ref (ad 0)), (1, .int n), (2, .int url), (4, .int (jm_presentOf u n)), (6, .int (jm_push rep url (u 6 (ix (jm_presentOf u n))))), (7, .int (jm_within (u 6 (ix (jm_presentOf u n))) url))] → W p l e (jr 7) s m args below meth c H locs 0 0 Q (F0 m 128 ls []) := by
                  intro  H locs ls hh hl
                  refine lv_aload_n hx hb d_M_navigate_128 rfl (lv_at hl 0 rfl) ?_
                  refine lv_iload_n hx hb d_M_navigate_129 rfl (lv_at hl 1 rfl) ?_
                  refine lv_iload_n hx hb d_M_navigate_130 rfl (lv_at hl 2 rfl) ?_
                  refine lv_iconst (v := 0) hx hb d_M_navigate_131 (by decide) ?_
                  refine lv_iload hx hb d_M_navigate_132 (lv_at hl 4 rfl) ?_
                  refine lv_iload hx hb d_M_navigate_134 (lv_at hl 5 rfl) ?_
                  refine lv_if_eq (tgt := 149) hx hb d_M_navigate_136 rfl (fun h136 => ?_) (fun h136 => ?_)
                  ·
                    refine lv_iconst (v := -1) hx hb d_M_navigate_149 (by decide) ?_
                    have J150 : ∀  (ls : Array Slot), lv_has ls 8 [(0, .ref (ad 0))] → W p l e (jr 7) s m args below meth c H locs 0 0 Q (F0 m 150 ls [.int (jm_nd (jm_nh u url (u 6 (ix (jm_presentOf u n))) (jm_within (u 6 (ix (jm_presentOf u n))) url)) (jm_presentOf u n) (jm_within (u 6 (ix (jm_presentOf u n))) url)), .int (jm_push rep url (u 6 (ix (jm_presentOf u n)))), .int 0, .int url, .int n, .ref (ad 0)]) := by
                      intro  ls hl
                      refine jx_callV [.int n, .int url, .int 0, .int (jm_push rep url (u 6 (ix (jm_presentOf u n)))), .int (jm_nd (jm_nh u url (u 6 (ix (jm_presentOf u n))) (jm_within (u 6 (ix (jm_presentOf u n))) url)) (jm_presentOf u n) (jm_within (u 6 (ix (jm_presentOf u n))) url))] [] hc hh (m_enter l D aK ad cA (jm_nh u url (u 6 (ix (jm_presentOf u n))) (jm_within (u 6 (ix (jm_presentOf u n))) url)) n url 0 (jm_push rep url (u 6 (ix (jm_presentOf u n)))) (jm_nd (jm_nh u url (u 6 (ix (jm_presentOf u n))) (jm_within (u 6 (ix (jm_presentOf u n))) url)) (jm_presentOf u n) (jm_within (u 6 (ix (jm_presentOf u n))) url)) (jm_nh_Sh hS) (jm_shown_ex h19) (jm_btw_ub h8) (jm_nd_jq (jm_nh_Sh hS) jm_pr_ex) (jm_Nw_of hn jm_nh_21)) wy_M_159 ⟨by decide, rfl, rfl⟩ (by decide) rfl hl.1 rfl (by decide) ⟨Nat.zero_le _, Nat.zero_le _⟩ d_M_navigate_150 (fun r u9 H locs hp hh _ _ => ?_)
                      rw [hp.2] at hh
                      refine W.eq (g2 := F0 m 153 ls []) rfl ?_
                      refine lv_aload_n hx hb d_M_navigate_153 rfl (lv_at hl 0 rfl) ?_
                      refine jg_M hc hh 21 (by decide) rfl wf_M_130 d_M_navigate_154 ?_
                      exact jx_iret (r := ((jm_enter (jm_nh u url (u 6 (ix (jm_presentOf u n))) (jm_within (u 6 (ix (jm_presentOf u n))) url)) n url 0 (jm_push rep url (u 6 (ix (jm_presentOf u n)))) (jm_nd (jm_nh u url (u 6 (ix (jm_presentOf u n))) (jm_within (u 6 (ix (jm_presentOf u n))) url)) (jm_presentOf u n) (jm_within (u 6 (ix (jm_presentOf u n))) url))) 21 0)) hc hh hQ hlk hr rfl rfl ⟨by unfold jm_navigate jm_navF; rw [if_neg h8, if_neg h19, if_pos h64]; rfl, by unfold jm_navigate jm_navF; rw [if_neg h8, if_neg h19, if_pos h64]; rfl⟩ d_M_navigate_157
                    have e133 : (jm_nd (jm_nh u url (u 6 (ix (jm_presentOf u n))) (jm_within (u 6 (ix (jm_presentOf u n))) url)) (jm_presentOf u n) (jm_within (u 6 (ix (jm_presentOf u n))) url)) = (-1) := by first | (simp [jm_nd, h136]; done) | (simp [jm_nd, eq_true h136]; done)
                    refine W.eq (g2 := F0 m 150 ls [.int (jm_nd (jm_nh u url (u 6 (ix (jm_presentOf u n))) (jm_within (u 6 (ix (jm_presentOf u n))) url)) (jm_presentOf u n) (jm_within (u 6 (ix (jm_presentOf u n))) url)), .int (jm_push rep url (u 6 (ix (jm_presentOf u n)))), .int 0, .int url, .int n, .ref (ad 0)]) (by first | (rw [e133]; done) | (rw [e133]; rfl)) ?_
                    refine J150 _ ?_
                    exact lv_sub hl [0] rfl
                  refine lv_aload_n hx hb d_M_navigate_139 rfl (lv_at hl 0 rfl) ?_
                  refine jg_M hc hh 8 (by decide) rfl wf_M_35 d_M_navigate_140 ?_
                  refine lv_iload hx hb d_M_navigate_143 (lv_at hl 3 rfl) ?_
                  refine jm_ild hc hh 8 (by decide) (by decide) jm_pr_ex d_M_navigate_145 ?_
                  refine lv_goto (tgt := 150) hx hb d_M_navigate_146 rfl ?_
                  have J150 : ∀  (ls : Array Slot), lv_has ls 8 [(0, .ref (ad 0))] → W p l e (jr 7) s m args below meth c H locs 0 0 Q (F0 m 150 ls [.int (jm_nd (jm_nh u url (u 6 (ix (jm_presentOf u n))) (jm_within (u 6 (ix (jm_presentOf u n))) url)) (jm_presentOf u n) (jm_within (u 6 (ix (jm_presentOf u n))) url)), .int (jm_push rep url (u 6 (ix (jm_presentOf u n)))), .int 0, .int url, .int n, .ref (ad 0)]) := by
                    intro  ls hl
                    refine jx_callV [.int n, .int url, .int 0, .int (jm_push rep url (u 6 (ix (jm_presentOf u n)))), .int (jm_nd (jm_nh u url (u 6 (ix (jm_presentOf u n))) (jm_within (u 6 (ix (jm_presentOf u n))) url)) (jm_presentOf u n) (jm_within (u 6 (ix (jm_presentOf u n))) url))] [] hc hh (m_enter l D aK ad cA (jm_nh u url (u 6 (ix (jm_presentOf u n))) (jm_within (u 6 (ix (jm_presentOf u n))) url)) n url 0 (jm_push rep url (u 6 (ix (jm_presentOf u n)))) (jm_nd (jm_nh u url (u 6 (ix (jm_presentOf u n))) (jm_within (u 6 (ix (jm_presentOf u n))) url)) (jm_presentOf u n) (jm_within (u 6 (ix (jm_presentOf u n))) url)) (jm_nh_Sh hS) (jm_shown_ex h19) (jm_btw_ub h8) (jm_nd_jq (jm_nh_Sh hS) jm_pr_ex) (jm_Nw_of hn jm_nh_21)) wy_M_159 ⟨by decide, rfl, rfl⟩ (by decide) rfl hl.1 rfl (by decide) ⟨Nat.zero_le _, Nat.zero_le _⟩ d_M_navigate_150 (fun r u9 H locs hp hh _ _ => ?_)
                    rw [hp.2] at hh
                    refine W.eq (g2 := F0 m 153 ls []) rfl ?_
                    refine lv_aload_n hx hb d_M_navigate_153 rfl (lv_at hl 0 rfl) ?_
                    refine jg_M hc hh 21 (by decide) rfl wf_M_130 d_M_navigate_154 ?_
                    exact jx_iret (r := ((jm_enter (jm_nh u url (u 6 (ix (jm_presentOf u n))) (jm_within (u 6 (ix (jm_presentOf u n))) url)) n url 0 (jm_push rep url (u 6 (ix (jm_presentOf u n)))) (jm_nd (jm_nh u url (u 6 (ix (jm_presentOf u n))) (jm_within (u 6 (ix (jm_presentOf u n))) url)) (jm_presentOf u n) (jm_within (u 6 (ix (jm_presentOf u n))) url))) 21 0)) hc hh hQ hlk hr rfl rfl ⟨by unfold jm_navigate jm_navF; rw [if_neg h8, if_neg h19, if_pos h64]; rfl, by unfold jm_navigate jm_navF; rw [if_neg h8, if_neg h19, if_pos h64]; rfl⟩ d_M_navigate_157
                  have e134 : (jm_nd (jm_nh u url (u 6 (ix (jm_presentOf u n))) (jm_within (u 6 (ix (jm_presentOf u n))) url)) (jm_presentOf u n) (jm_within (u 6 (ix (jm_presentOf u n))) url)) = ((jm_nh u url (u 6 (ix (jm_presentOf u n))) (jm_within (u 6 (ix (jm_presentOf u n))) url)) 8 (ix (jm_presentOf u n))) := by simp [jm_nd, h136]
                  refine W.eq (g2 := F0 m 150 ls [.int (jm_nd (jm_nh u url (u 6 (ix (jm_presentOf u n))) (jm_within (u 6 (ix (jm_presentOf u n))) url)) (jm_presentOf u n) (jm_within (u 6 (ix (jm_presentOf u n))) url)), .int (jm_push rep url (u 6 (ix (jm_presentOf u n)))), .int 0, .int url, .int n, .ref (ad 0)]) (by first | (rw [e134]; done) | (rw [e134]; rfl)) ?_
                  refine J150 _ ?_
                  exact lv_sub hl [0] rfl
                have e135 : (jm_nh u url (u 6 (ix (jm_presentOf u n))) (jm_within (u 6 (ix (jm_presentOf u n))) url)) = u := by first | (simp [jm_nh, h109]; done) | (simp [jm_nh, eq_true h109]; done)
                refine J128 _ _ _ ?_ ?_
                ·
                  try rw [e135]
                  exact hh
                try rw [e135]
                exact lv_sub hl [1, 2, 3, 4, 6, 0] rfl
              refine lv_iload_n hx hb d_M_navigate_112 rfl (lv_at hl 3 rfl) ?_
              refine lv_iload hx hb d_M_navigate_113 (lv_at hl 5 rfl) ?_
              refine lv_icmp_eq (tgt := 128) hx hb d_M_navigate_115 rfl (fun h115 => ?_) (fun h115 => ?_)
              ·
                have J128 : ∀  (H : Heap) (locs : List Loc) (ls : Array Slot), jx_H D 22 ad (jm_cell ad cA (jm_nh u url (u 6 (ix (jm_presentOf u n))) (jm_within (u 6 (ix (jm_presentOf u n))) url))) A s.heap H locs → lv_has ls 8 [(0, .ref (ad 0)), (1, .int n), (2, .int url), (4, .int (jm_presentOf u n)), (6, .int (jm_push rep url (u 6 (ix (jm_presentOf u n))))), (7, .int (jm_within (u 6 (ix (jm_presentOf u n))) url))] → W p l e (jr 7) s m args below meth c H locs 0 0 Q (F0 m 128 ls []) := by
                  intro  H locs ls hh hl
                  refine lv_aload_n hx hb d_M_navigate_128 rfl (lv_at hl 0 rfl) ?_
                  refine lv_iload_n hx hb d_M_navigate_129 rfl (lv_at hl 1 rfl) ?_
                  refine lv_iload_n hx hb d_M_navigate_130 rfl (lv_at hl 2 rfl) ?_
                  refine lv_iconst (v := 0) hx hb d_M_navigate_131 (by decide) ?_
                  refine lv_iload hx hb d_M_navigate_132 (lv_at hl 4 rfl) ?_
                  refine lv_iload hx hb d_M_navigate_134 (lv_at hl 5 rfl) ?_
                  refine lv_if_eq (tgt := 149) hx hb d_M_navigate_136 rfl (fun h136 => ?_) (fun h136 => ?_)
                  ·
                    refine lv_iconst (v := -1) hx hb d_M_navigate_149 (by decide) ?_
                    have J150 : ∀  (ls : Array Slot), lv_has ls 8 [(0, .ref (ad 0))] → W p l e (jr 7) s m args below meth c H locs 0 0 Q (F0 m 150 ls [.int (jm_nd (jm_nh u url (u 6 (ix (jm_presentOf u n))) (jm_within (u 6 (ix (jm_presentOf u n))) url)) (jm_presentOf u n) (jm_within (u 6 (ix (jm_presentOf u n))) url)), .int (jm_push rep url (u 6 (ix (jm_presentOf u n)))), .int 0, .int url, .int n, .ref (ad 0)]) := by
                      intro  ls hl
                      refine jx_callV [.int n, .int url, .int 0, .int (jm_push rep url (u 6 (ix (jm_presentOf u n)))), .int (jm_nd (jm_nh u url (u 6 (ix (jm_presentOf u n))) (jm_within (u 6 (ix (jm_presentOf u n))) url)) (jm_presentOf u n) (jm_within (u 6 (ix (jm_presentOf u n))) url))] [] hc hh (m_enter l D aK ad cA (jm_nh u url (u 6 (ix (jm_presentOf u n))) (jm_within (u 6 (ix (jm_presentOf u n))) url)) n url 0 (jm_push rep url (u 6 (ix (jm_presentOf u n)))) (jm_nd (jm_nh u url (u 6 (ix (jm_presentOf u n))) (jm_within (u 6 (ix (jm_presentOf u n))) url)) (jm_presentOf u n) (jm_within (u 6 (ix (jm_presentOf u n))) url)) (jm_nh_Sh hS) (jm_shown_ex h19) (jm_btw_ub h8) (jm_nd_jq (jm_nh_Sh hS) jm_pr_ex) (jm_Nw_of hn jm_nh_21)) wy_M_159 ⟨by decide, rfl, rfl⟩ (by decide) rfl hl.1 rfl (by decide) ⟨Nat.zero_le _, Nat.zero_le _⟩ d_M_navigate_150 (fun r u9 H locs hp hh _ _ => ?_)
                      rw [hp.2] at hh
                      refine W.eq (g2 := F0 m 153 ls []) rfl ?_
                      refine lv_aload_n hx hb d_M_navigate_153 rfl (lv_at hl 0 rfl) ?_
                      refine jg_M hc hh 21 (by decide) rfl wf_M_130 d_M_navigate_154 ?_
                      exact jx_iret (r := ((jm_enter (jm_nh u url (u 6 (ix (jm_presentOf u n))) (jm_within (u 6 (ix (jm_presentOf u n))) url)) n url 0 (jm_push rep url (u 6 (ix (jm_presentOf u n)))) (jm_nd (jm_nh u url (u 6 (ix (jm_presentOf u n))) (jm_within (u 6 (ix (jm_presentOf u n))) url)) (jm_presentOf u n) (jm_within (u 6 (ix (jm_presentOf u n))) url))) 21 0)) hc hh hQ hlk hr rfl rfl ⟨by unfold jm_navigate jm_navF; rw [if_neg h8, if_neg h19, if_pos h64]; rfl, by unfold jm_navigate jm_navF; rw [if_neg h8, if_neg h19, if_pos h64]; rfl⟩ d_M_navigate_157
                    have e136 : (jm_nd (jm_nh u url (u 6 (ix (jm_presentOf u n))) (jm_within (u 6 (ix (jm_presentOf u n))) url)) (jm_presentOf u n) (jm_within (u 6 (ix (jm_presentOf u n))) url)) = (-1) := by first | (simp [jm_nd, h136]; done) | (simp [jm_nd, eq_true h136]; done)
                    refine W.eq (g2 := F0 m 150 ls [.int (jm_nd (jm_nh u url (u 6 (ix (jm_presentOf u n))) (jm_within (u 6 (ix (jm_presentOf u n))) url)) (jm_presentOf u n) (jm_within (u 6 (ix (jm_presentOf u n))) url)), .int (jm_push rep url (u 6 (ix (jm_presentOf u n)))), .int 0, .int url, .int n, .ref (ad 0)]) (by first | (rw [e136]; done) | (rw [e136]; rfl)) ?_
                    refine J150 _ ?_
                    exact lv_sub hl [0] rfl
                  refine lv_aload_n hx hb d_M_navigate_139 rfl (lv_at hl 0 rfl) ?_
                  refine jg_M hc hh 8 (by decide) rfl wf_M_35 d_M_navigate_140 ?_
                  refine lv_iload hx hb d_M_navigate_143 (lv_at hl 3 rfl) ?_
                  refine jm_ild hc hh 8 (by decide) (by decide) jm_pr_ex d_M_navigate_145 ?_
                  refine lv_goto (tgt := 150) hx hb d_M_navigate_146 rfl ?_
                  have J150 : ∀  (ls : Array Slot), lv_has ls 8 [(0, .ref (ad 0))] → W p l e (jr 7) s m args below meth c H locs 0 0 Q (F0 m 150 ls [.int (jm_nd (jm_nh u url (u 6 (ix (jm_presentOf u n))) (jm_within (u 6 (ix (jm_presentOf u n))) url)) (jm_presentOf u n) (jm_within (u 6 (ix (jm_presentOf u n))) url)), .int (jm_push rep url (u 6 (ix (jm_presentOf u n)))), .int 0, .int url, .int n, .ref (ad 0)]) := by
                    intro  ls hl
                    refine jx_callV [.int n, .int url, .int 0, .int (jm_push rep url (u 6 (ix (jm_presentOf u n)))), .int (jm_nd (jm_nh u url (u 6 (ix (jm_presentOf u n))) (jm_within (u 6 (ix (jm_presentOf u n))) url)) (jm_presentOf u n) (jm_within (u 6 (ix (jm_presentOf u n))) url))] [] hc hh (m_enter l D aK ad cA (jm_nh u url (u 6 (ix (jm_presentOf u n))) (jm_within (u 6 (ix (jm_presentOf u n))) url)) n url 0 (jm_push rep url (u 6 (ix (jm_presentOf u n)))) (jm_nd (jm_nh u url (u 6 (ix (jm_presentOf u n))) (jm_within (u 6 (ix (jm_presentOf u n))) url)) (jm_presentOf u n) (jm_within (u 6 (ix (jm_presentOf u n))) url)) (jm_nh_Sh hS) (jm_shown_ex h19) (jm_btw_ub h8) (jm_nd_jq (jm_nh_Sh hS) jm_pr_ex) (jm_Nw_of hn jm_nh_21)) wy_M_159 ⟨by decide, rfl, rfl⟩ (by decide) rfl hl.1 rfl (by decide) ⟨Nat.zero_le _, Nat.zero_le _⟩ d_M_navigate_150 (fun r u9 H locs hp hh _ _ => ?_)
                    rw [hp.2] at hh
                    refine W.eq (g2 := F0 m 153 ls []) rfl ?_
                    refine lv_aload_n hx hb d_M_navigate_153 rfl (lv_at hl 0 rfl) ?_
                    refine jg_M hc hh 21 (by decide) rfl wf_M_130 d_M_navigate_154 ?_
                    exact jx_iret (r := ((jm_enter (jm_nh u url (u 6 (ix (jm_presentOf u n))) (jm_within (u 6 (ix (jm_presentOf u n))) url)) n url 0 (jm_push rep url (u 6 (ix (jm_presentOf u n)))) (jm_nd (jm_nh u url (u 6 (ix (jm_presentOf u n))) (jm_within (u 6 (ix (jm_presentOf u n))) url)) (jm_presentOf u n) (jm_within (u 6 (ix (jm_presentOf u n))) url))) 21 0)) hc hh hQ hlk hr rfl rfl ⟨by unfold jm_navigate jm_navF; rw [if_neg h8, if_neg h19, if_pos h64]; rfl, by unfold jm_navigate jm_navF; rw [if_neg h8, if_neg h19, if_pos h64]; rfl⟩ d_M_navigate_157
                  have e137 : (jm_nd (jm_nh u url (u 6 (ix (jm_presentOf u n))) (jm_within (u 6 (ix (jm_presentOf u n))) url)) (jm_presentOf u n) (jm_within (u 6 (ix (jm_presentOf u n))) url)) = ((jm_nh u url (u 6 (ix (jm_presentOf u n))) (jm_within (u 6 (ix (jm_presentOf u n))) url)) 8 (ix (jm_presentOf u n))) := by simp [jm_nd, h136]
                  refine W.eq (g2 := F0 m 150 ls [.int (jm_nd (jm_nh u url (u 6 (ix (jm_presentOf u n))) (jm_within (u 6 (ix (jm_presentOf u n))) url)) (jm_presentOf u n) (jm_within (u 6 (ix (jm_presentOf u n))) url)), .int (jm_push rep url (u 6 (ix (jm_presentOf u n)))), .int 0, .int url, .int n, .ref (ad 0)]) (by first | (rw [e137]; done) | (rw [e137]; rfl)) ?_
                  refine J150 _ ?_
                  exact lv_sub hl [0] rfl
                have e138 : (jm_nh u url (u 6 (ix (jm_presentOf u n))) (jm_within (u 6 (ix (jm_presentOf u n))) url)) = u := by first | (simp [jm_nh, h109, h115]; done) | (simp [jm_nh, h109, eq_true h115]; done)
                refine J128 _ _ _ ?_ ?_
                ·
                  try rw [e138]
                  exact hh
                try rw [e138]
                exact lv_sub hl [1, 2, 3, 4, 6, 0] rfl
              refine lv_aload_n hx hb d_M_navigate_118 rfl (lv_at hl 1 rfl) ?_
              refine lv_dup hx hb d_M_navigate_119 rfl ?_
              refine jg_M hc hh 24 (by decide) rfl wf_M_156 d_M_navigate_120 ?_
              refine lv_iconst (v := 1) hx hb d_M_navigate_123 (by decide) ?_
              refine lv_iadd hx hb d_M_navigate_124 ?_
              refine jpm_24 hc hh wf_M_156 d_M_navigate_125 (fun H locs hh => ?_)
              have J128 : ∀  (H : Heap) (locs : List Loc) (ls : Array Slot), jx_H D 22 ad (jm_cell ad cA (jm_nh u url (u 6 (ix (jm_presentOf u n))) (jm_within (u 6 (ix (jm_presentOf u n))) url))) A s.heap H locs → lv_has ls 8 [(0, .ref (ad 0)), (1, .int n), (2, .int url), (4, .int (jm_presentOf u n)), (6, .int (jm_push rep url (u 6 (ix (jm_presentOf u n))))), (7, .int (jm_within (u 6 (ix (jm_presentOf u n))) url))] → W p l e (jr 7) s m args below meth c H locs 0 0 Q (F0 m 128 ls []) := by
                intro  H locs ls hh hl
                refine lv_aload_n hx hb d_M_navigate_128 rfl (lv_at hl 0 rfl) ?_
                refine lv_iload_n hx hb d_M_navigate_129 rfl (lv_at hl 1 rfl) ?_
                refine lv_iload_n hx hb d_M_navigate_130 rfl (lv_at hl 2 rfl) ?_
                refine lv_iconst (v := 0) hx hb d_M_navigate_131 (by decide) ?_
                refine lv_iload hx hb d_M_navigate_132 (lv_at hl 4 rfl) ?_
                refine lv_iload hx hb d_M_navigate_134 (lv_at hl 5 rfl) ?_
                refine lv_if_eq (tgt := 149) hx hb d_M_navigate_136 rfl (fun h136 => ?_) (fun h136 => ?_)
                ·
                  refine lv_iconst (v := -1) hx hb d_M_navigate_149 (by decide) ?_
                  have J150 : ∀  (ls : Array Slot), lv_has ls 8 [(0, .ref (ad 0))] → W p l e (jr 7) s m args below meth c H locs 0 0 Q (F0 m 150 ls [.int (jm_nd (jm_nh u url (u 6 (ix (jm_presentOf u n))) (jm_within (u 6 (ix (jm_presentOf u n))) url)) (jm_presentOf u n) (jm_within (u 6 (ix (jm_presentOf u n))) url)), .int (jm_push rep url (u 6 (ix (jm_presentOf u n)))), .int 0, .int url, .int n, .ref (ad 0)]) := by
                    intro  ls hl
                    refine jx_callV [.int n, .int url, .int 0, .int (jm_push rep url (u 6 (ix (jm_presentOf u n)))), .int (jm_nd (jm_nh u url (u 6 (ix (jm_presentOf u n))) (jm_within (u 6 (ix (jm_presentOf u n))) url)) (jm_presentOf u n) (jm_within (u 6 (ix (jm_presentOf u n))) url))] [] hc hh (m_enter l D aK ad cA (jm_nh u url (u 6 (ix (jm_presentOf u n))) (jm_within (u 6 (ix (jm_presentOf u n))) url)) n url 0 (jm_push rep url (u 6 (ix (jm_presentOf u n)))) (jm_nd (jm_nh u url (u 6 (ix (jm_presentOf u n))) (jm_within (u 6 (ix (jm_presentOf u n))) url)) (jm_presentOf u n) (jm_within (u 6 (ix (jm_presentOf u n))) url)) (jm_nh_Sh hS) (jm_shown_ex h19) (jm_btw_ub h8) (jm_nd_jq (jm_nh_Sh hS) jm_pr_ex) (jm_Nw_of hn jm_nh_21)) wy_M_159 ⟨by decide, rfl, rfl⟩ (by decide) rfl hl.1 rfl (by decide) ⟨Nat.zero_le _, Nat.zero_le _⟩ d_M_navigate_150 (fun r u9 H locs hp hh _ _ => ?_)
                    rw [hp.2] at hh
                    refine W.eq (g2 := F0 m 153 ls []) rfl ?_
                    refine lv_aload_n hx hb d_M_navigate_153 rfl (lv_at hl 0 rfl) ?_
                    refine jg_M hc hh 21 (by decide) rfl wf_M_130 d_M_navigate_154 ?_
                    exact jx_iret (r := ((jm_enter (jm_nh u url (u 6 (ix (jm_presentOf u n))) (jm_within (u 6 (ix (jm_presentOf u n))) url)) n url 0 (jm_push rep url (u 6 (ix (jm_presentOf u n)))) (jm_nd (jm_nh u url (u 6 (ix (jm_presentOf u n))) (jm_within (u 6 (ix (jm_presentOf u n))) url)) (jm_presentOf u n) (jm_within (u 6 (ix (jm_presentOf u n))) url))) 21 0)) hc hh hQ hlk hr rfl rfl ⟨by unfold jm_navigate jm_navF; rw [if_neg h8, if_neg h19, if_pos h64]; rfl, by unfold jm_navigate jm_navF; rw [if_neg h8, if_neg h19, if_pos h64]; rfl⟩ d_M_navigate_157
                  have e139 : (jm_nd (jm_nh u url (u 6 (ix (jm_presentOf u n))) (jm_within (u 6 (ix (jm_presentOf u n))) url)) (jm_presentOf u n) (jm_within (u 6 (ix (jm_presentOf u n))) url)) = (-1) := by first | (simp [jm_nd, h136]; done) | (simp [jm_nd, eq_true h136]; done)
                  refine W.eq (g2 := F0 m 150 ls [.int (jm_nd (jm_nh u url (u 6 (ix (jm_presentOf u n))) (jm_within (u 6 (ix (jm_presentOf u n))) url)) (jm_presentOf u n) (jm_within (u 6 (ix (jm_presentOf u n))) url)), .int (jm_push rep url (u 6 (ix (jm_presentOf u n)))), .int 0, .int url, .int n, .ref (ad 0)]) (by first | (rw [e139]; done) | (rw [e139]; rfl)) ?_
                  refine J150 _ ?_
                  exact lv_sub hl [0] rfl
                refine lv_aload_n hx hb d_M_navigate_139 rfl (lv_at hl 0 rfl) ?_
                refine jg_M hc hh 8 (by decide) rfl wf_M_35 d_M_navigate_140 ?_
                refine lv_iload hx hb d_M_navigate_143 (lv_at hl 3 rfl) ?_
                refine jm_ild hc hh 8 (by decide) (by decide) jm_pr_ex d_M_navigate_145 ?_
                refine lv_goto (tgt := 150) hx hb d_M_navigate_146 rfl ?_
                have J150 : ∀  (ls : Array Slot), lv_has ls 8 [(0, .ref (ad 0))] → W p l e (jr 7) s m args below meth c H locs 0 0 Q (F0 m 150 ls [.int (jm_nd (jm_nh u url (u 6 (ix (jm_presentOf u n))) (jm_within (u 6 (ix (jm_presentOf u n))) url)) (jm_presentOf u n) (jm_within (u 6 (ix (jm_presentOf u n))) url)), .int (jm_push rep url (u 6 (ix (jm_presentOf u n)))), .int 0, .int url, .int n, .ref (ad 0)]) := by
                  intro  ls hl
                  refine jx_callV [.int n, .int url, .int 0, .int (jm_push rep url (u 6 (ix (jm_presentOf u n)))), .int (jm_nd (jm_nh u url (u 6 (ix (jm_presentOf u n))) (jm_within (u 6 (ix (jm_presentOf u n))) url)) (jm_presentOf u n) (jm_within (u 6 (ix (jm_presentOf u n))) url))] [] hc hh (m_enter l D aK ad cA (jm_nh u url (u 6 (ix (jm_presentOf u n))) (jm_within (u 6 (ix (jm_presentOf u n))) url)) n url 0 (jm_push rep url (u 6 (ix (jm_presentOf u n)))) (jm_nd (jm_nh u url (u 6 (ix (jm_presentOf u n))) (jm_within (u 6 (ix (jm_presentOf u n))) url)) (jm_presentOf u n) (jm_within (u 6 (ix (jm_presentOf u n))) url)) (jm_nh_Sh hS) (jm_shown_ex h19) (jm_btw_ub h8) (jm_nd_jq (jm_nh_Sh hS) jm_pr_ex) (jm_Nw_of hn jm_nh_21)) wy_M_159 ⟨by decide, rfl, rfl⟩ (by decide) rfl hl.1 rfl (by decide) ⟨Nat.zero_le _, Nat.zero_le _⟩ d_M_navigate_150 (fun r u9 H locs hp hh _ _ => ?_)
                  rw [hp.2] at hh
                  refine W.eq (g2 := F0 m 153 ls []) rfl ?_
                  refine lv_aload_n hx hb d_M_navigate_153 rfl (lv_at hl 0 rfl) ?_
                  refine jg_M hc hh 21 (by decide) rfl wf_M_130 d_M_navigate_154 ?_
                  exact jx_iret (r := ((jm_enter (jm_nh u url (u 6 (ix (jm_presentOf u n))) (jm_within (u 6 (ix (jm_presentOf u n))) url)) n url 0 (jm_push rep url (u 6 (ix (jm_presentOf u n)))) (jm_nd (jm_nh u url (u 6 (ix (jm_presentOf u n))) (jm_within (u 6 (ix (jm_presentOf u n))) url)) (jm_presentOf u n) (jm_within (u 6 (ix (jm_presentOf u n))) url))) 21 0)) hc hh hQ hlk hr rfl rfl ⟨by unfold jm_navigate jm_navF; rw [if_neg h8, if_neg h19, if_pos h64]; rfl, by unfold jm_navigate jm_navF; rw [if_neg h8, if_neg h19, if_pos h64]; rfl⟩ d_M_navigate_157
                have e140 : (jm_nd (jm_nh u url (u 6 (ix (jm_presentOf u n))) (jm_within (u 6 (ix (jm_presentOf u n))) url)) (jm_presentOf u n) (jm_within (u 6 (ix (jm_presentOf u n))) url)) = ((jm_nh u url (u 6 (ix (jm_presentOf u n))) (jm_within (u 6 (ix (jm_presentOf u n))) url)) 8 (ix (jm_presentOf u n))) := by simp [jm_nd, h136]
                refine W.eq (g2 := F0 m 150 ls [.int (jm_nd (jm_nh u url (u 6 (ix (jm_presentOf u n))) (jm_within (u 6 (ix (jm_presentOf u n))) url)) (jm_presentOf u n) (jm_within (u 6 (ix (jm_presentOf u n))) url)), .int (jm_push rep url (u 6 (ix (jm_presentOf u n)))), .int 0, .int url, .int n, .ref (ad 0)]) (by first | (rw [e140]; done) | (rw [e140]; rfl)) ?_
                refine J150 _ ?_
                exact lv_sub hl [0] rfl
              have e141 : (jm_nh u url (u 6 (ix (jm_presentOf u n))) (jm_within (u 6 (ix (jm_presentOf u n))) url)) = (js_up u 24 0 ((u 24 0) + 1)) := by simp [jm_nh, h109, h115]
              refine J128 _ _ _ ?_ ?_
              ·
                try rw [e141]
                exact hh
              try rw [e141]
              exact lv_sub hl [1, 2, 3, 4, 6, 0] rfl
            have e142 : (jm_within (u 6 (ix (jm_presentOf u n))) url) = 0 := by first | (simp [jm_within, h64, h72, h79, h85, h97]; done) | (simp [jm_within, eq_true h64, h72, h79, h85, h97]; done)
            refine W.eq (g2 := F0 m 105 ls [.int (jm_within (u 6 (ix (jm_presentOf u n))) url)]) (by first | (rw [e142]; done) | (rw [e142]; rfl)) ?_
            refine J105 _ _ _ ?_ ?_
            ·
              exact hh
            exact lv_sub hl [1, 2, 3, 4, 5, 0] rfl
          refine lv_iconst (v := 1) hx hb d_M_navigate_100 (by decide) ?_
          refine lv_goto (tgt := 105) hx hb d_M_navigate_101 rfl ?_
          have J105 : ∀  (H : Heap) (locs : List Loc) (ls : Array Slot), jx_H D 22 ad (jm_cell ad cA u) A s.heap H locs → lv_has ls 8 [(0, .ref (ad 0)), (1, .int n), (2, .int url), (4, .int (jm_presentOf u n)), (5, .int (u 6 (ix (jm_presentOf u n)))), (6, .int (jm_push rep url (u 6 (ix (jm_presentOf u n)))))] → W p l e (jr 7) s m args below meth c H locs 0 0 Q (F0 m 105 ls [.int (jm_within (u 6 (ix (jm_presentOf u n))) url)]) := by
            intro  H locs ls hh hl
            refine lv_istore (i := 7) (lv' := [(7, .int (jm_within (u 6 (ix (jm_presentOf u n))) url)), (0, .ref (ad 0)), (1, .int n), (2, .int url), (4, .int (jm_presentOf u n)), (5, .int (u 6 (ix (jm_presentOf u n)))), (6, .int (jm_push rep url (u 6 (ix (jm_presentOf u n)))))]) hx hb d_M_navigate_105 hl (by decide) rfl (fun ls hl => ?_)
            refine lv_iload hx hb d_M_navigate_107 (lv_at hl 0 rfl) ?_
            refine lv_if_eq (tgt := 128) hx hb d_M_navigate_109 rfl (fun h109 => ?_) (fun h109 => ?_)
            ·
              have J128 : ∀  (H : Heap) (locs : List Loc) (ls : Array Slot), jx_H D 22 ad (jm_cell ad cA (jm_nh u url (u 6 (ix (jm_presentOf u n))) (jm_within (u 6 (ix (jm_presentOf u n))) url))) A s.heap H locs → lv_has ls 8 [(0, .ref (ad 0)), (1, .int n), (2, .int url), (4, .int (jm_presentOf u n)), (6, .int (jm_push rep url (u 6 (ix (jm_presentOf u n))))), (7, .int (jm_within (u 6 (ix (jm_presentOf u n))) url))] → W p l e (jr 7) s m args below meth c H locs 0 0 Q (F0 m 128 ls []) := by
                intro  H locs ls hh hl
                refine lv_aload_n hx hb d_M_navigate_128 rfl (lv_at hl 0 rfl) ?_
                refine lv_iload_n hx hb d_M_navigate_129 rfl (lv_at hl 1 rfl) ?_
                refine lv_iload_n hx hb d_M_navigate_130 rfl (lv_at hl 2 rfl) ?_
                refine lv_iconst (v := 0) hx hb d_M_navigate_131 (by decide) ?_
                refine lv_iload hx hb d_M_navigate_132 (lv_at hl 4 rfl) ?_
                refine lv_iload hx hb d_M_navigate_134 (lv_at hl 5 rfl) ?_
                refine lv_if_eq (tgt := 149) hx hb d_M_navigate_136 rfl (fun h136 => ?_) (fun h136 => ?_)
                ·
                  refine lv_iconst (v := -1) hx hb d_M_navigate_149 (by decide) ?_
                  have J150 : ∀  (ls : Array Slot), lv_has ls 8 [(0, .ref (ad 0))] → W p l e (jr 7) s m args below meth c H locs 0 0 Q (F0 m 150 ls [.int (jm_nd (jm_nh u url (u 6 (ix (jm_presentOf u n))) (jm_within (u 6 (ix (jm_presentOf u n))) url)) (jm_presentOf u n) (jm_within (u 6 (ix (jm_presentOf u n))) url)), .int (jm_push rep url (u 6 (ix (jm_presentOf u n)))), .int 0, .int url, .int n, .ref (ad 0)]) := by
                    intro  ls hl
                    refine jx_callV [.int n, .int url, .int 0, .int (jm_push rep url (u 6 (ix (jm_presentOf u n)))), .int (jm_nd (jm_nh u url (u 6 (ix (jm_presentOf u n))) (jm_within (u 6 (ix (jm_presentOf u n))) url)) (jm_presentOf u n) (jm_within (u 6 (ix (jm_presentOf u n))) url))] [] hc hh (m_enter l D aK ad cA (jm_nh u url (u 6 (ix (jm_presentOf u n))) (jm_within (u 6 (ix (jm_presentOf u n))) url)) n url 0 (jm_push rep url (u 6 (ix (jm_presentOf u n)))) (jm_nd (jm_nh u url (u 6 (ix (jm_presentOf u n))) (jm_within (u 6 (ix (jm_presentOf u n))) url)) (jm_presentOf u n) (jm_within (u 6 (ix (jm_presentOf u n))) url)) (jm_nh_Sh hS) (jm_shown_ex h19) (jm_btw_ub h8) (jm_nd_jq (jm_nh_Sh hS) jm_pr_ex) (jm_Nw_of hn jm_nh_21)) wy_M_159 ⟨by decide, rfl, rfl⟩ (by decide) rfl hl.1 rfl (by decide) ⟨Nat.zero_le _, Nat.zero_le _⟩ d_M_navigate_150 (fun r u9 H locs hp hh _ _ => ?_)
                    rw [hp.2] at hh
                    refine W.eq (g2 := F0 m 153 ls []) rfl ?_
                    refine lv_aload_n hx hb d_M_navigate_153 rfl (lv_at hl 0 rfl) ?_
                    refine jg_M hc hh 21 (by decide) rfl wf_M_130 d_M_navigate_154 ?_
                    exact jx_iret (r := ((jm_enter (jm_nh u url (u 6 (ix (jm_presentOf u n))) (jm_within (u 6 (ix (jm_presentOf u n))) url)) n url 0 (jm_push rep url (u 6 (ix (jm_presentOf u n)))) (jm_nd (jm_nh u url (u 6 (ix (jm_presentOf u n))) (jm_within (u 6 (ix (jm_presentOf u n))) url)) (jm_presentOf u n) (jm_within (u 6 (ix (jm_presentOf u n))) url))) 21 0)) hc hh hQ hlk hr rfl rfl ⟨by unfold jm_navigate jm_navF; rw [if_neg h8, if_neg h19, if_pos h64]; rfl, by unfold jm_navigate jm_navF; rw [if_neg h8, if_neg h19, if_pos h64]; rfl⟩ d_M_navigate_157
                  have e143 : (jm_nd (jm_nh u url (u 6 (ix (jm_presentOf u n))) (jm_within (u 6 (ix (jm_presentOf u n))) url)) (jm_presentOf u n) (jm_within (u 6 (ix (jm_presentOf u n))) url)) = (-1) := by first | (simp [jm_nd, h136]; done) | (simp [jm_nd, eq_true h136]; done)
                  refine W.eq (g2 := F0 m 150 ls [.int (jm_nd (jm_nh u url (u 6 (ix (jm_presentOf u n))) (jm_within (u 6 (ix (jm_presentOf u n))) url)) (jm_presentOf u n) (jm_within (u 6 (ix (jm_presentOf u n))) url)), .int (jm_push rep url (u 6 (ix (jm_presentOf u n)))), .int 0, .int url, .int n, .ref (ad 0)]) (by first | (rw [e143]; done) | (rw [e143]; rfl)) ?_
                  refine J150 _ ?_
                  exact lv_sub hl [0] rfl
                refine lv_aload_n hx hb d_M_navigate_139 rfl (lv_at hl 0 rfl) ?_
                refine jg_M hc hh 8 (by decide) rfl wf_M_35 d_M_navigate_140 ?_
                refine lv_iload hx hb d_M_navigate_143 (lv_at hl 3 rfl) ?_
                refine jm_ild hc hh 8 (by decide) (by decide) jm_pr_ex d_M_navigate_145 ?_
                refine lv_goto (tgt := 150) hx hb d_M_navigate_146 rfl ?_
                have J150 : ∀  (ls : Array Slot), lv_has ls 8 [(0, .ref (ad 0))] → W p l e (jr 7) s m args below meth c H locs 0 0 Q (F0 m 150 ls [.int (jm_nd (jm_nh u url (u 6 (ix (jm_presentOf u n))) (jm_within (u 6 (ix (jm_presentOf u n))) url)) (jm_presentOf u n) (jm_within (u 6 (ix (jm_presentOf u n))) url)), .int (jm_push rep url (u 6 (ix (jm_presentOf u n)))), .int 0, .int url, .int n, .ref (ad 0)]) := by
                  intro  ls hl
                  refine jx_callV [.int n, .int url, .int 0, .int (jm_push rep url (u 6 (ix (jm_presentOf u n)))), .int (jm_nd (jm_nh u url (u 6 (ix (jm_presentOf u n))) (jm_within (u 6 (ix (jm_presentOf u n))) url)) (jm_presentOf u n) (jm_within (u 6 (ix (jm_presentOf u n))) url))] [] hc hh (m_enter l D aK ad cA (jm_nh u url (u 6 (ix (jm_presentOf u n))) (jm_within (u 6 (ix (jm_presentOf u n))) url)) n url 0 (jm_push rep url (u 6 (ix (jm_presentOf u n)))) (jm_nd (jm_nh u url (u 6 (ix (jm_presentOf u n))) (jm_within (u 6 (ix (jm_presentOf u n))) url)) (jm_presentOf u n) (jm_within (u 6 (ix (jm_presentOf u n))) url)) (jm_nh_Sh hS) (jm_shown_ex h19) (jm_btw_ub h8) (jm_nd_jq (jm_nh_Sh hS) jm_pr_ex) (jm_Nw_of hn jm_nh_21)) wy_M_159 ⟨by decide, rfl, rfl⟩ (by decide) rfl hl.1 rfl (by decide) ⟨Nat.zero_le _, Nat.zero_le _⟩ d_M_navigate_150 (fun r u9 H locs hp hh _ _ => ?_)
                  rw [hp.2] at hh
                  refine W.eq (g2 := F0 m 153 ls []) rfl ?_
                  refine lv_aload_n hx hb d_M_navigate_153 rfl (lv_at hl 0 rfl) ?_
                  refine jg_M hc hh 21 (by decide) rfl wf_M_130 d_M_navigate_154 ?_
                  exact jx_iret (r := ((jm_enter (jm_nh u url (u 6 (ix (jm_presentOf u n))) (jm_within (u 6 (ix (jm_presentOf u n))) url)) n url 0 (jm_push rep url (u 6 (ix (jm_presentOf u n)))) (jm_nd (jm_nh u url (u 6 (ix (jm_presentOf u n))) (jm_within (u 6 (ix (jm_presentOf u n))) url)) (jm_presentOf u n) (jm_within (u 6 (ix (jm_presentOf u n))) url))) 21 0)) hc hh hQ hlk hr rfl rfl ⟨by unfold jm_navigate jm_navF; rw [if_neg h8, if_neg h19, if_pos h64]; rfl, by unfold jm_navigate jm_navF; rw [if_neg h8, if_neg h19, if_pos h64]; rfl⟩ d_M_navigate_157
                have e144 : (jm_nd (jm_nh u url (u 6 (ix (jm_presentOf u n))) (jm_within (u 6 (ix (jm_presentOf u n))) url)) (jm_presentOf u n) (jm_within (u 6 (ix (jm_presentOf u n))) url)) = ((jm_nh u url (u 6 (ix (jm_presentOf u n))) (jm_within (u 6 (ix (jm_presentOf u n))) url)) 8 (ix (jm_presentOf u n))) := by simp [jm_nd, h136]
                refine W.eq (g2 := F0 m 150 ls [.int (jm_nd (jm_nh u url (u 6 (ix (jm_presentOf u n))) (jm_within (u 6 (ix (jm_presentOf u n))) url)) (jm_presentOf u n) (jm_within (u 6 (ix (jm_presentOf u n))) url)), .int (jm_push rep url (u 6 (ix (jm_presentOf u n)))), .int 0, .int url, .int n, .ref (ad 0)]) (by first | (rw [e144]; done) | (rw [e144]; rfl)) ?_
                refine J150 _ ?_
                exact lv_sub hl [0] rfl
              have e145 : (jm_nh u url (u 6 (ix (jm_presentOf u n))) (jm_within (u 6 (ix (jm_presentOf u n))) url)) = u := by first | (simp [jm_nh, h109]; done) | (simp [jm_nh, eq_true h109]; done)
              refine J128 _ _ _ ?_ ?_
              ·
                try rw [e145]
                exact hh
              try rw [e145]
              exact lv_sub hl [1, 2, 3, 4, 6, 0] rfl
            refine lv_iload_n hx hb d_M_navigate_112 rfl (lv_at hl 3 rfl) ?_
            refine lv_iload hx hb d_M_navigate_113 (lv_at hl 5 rfl) ?_
            refine lv_icmp_eq (tgt := 128) hx hb d_M_navigate_115 rfl (fun h115 => ?_) (fun h115 => ?_)
            ·
              have J128 : ∀  (H : Heap) (locs : List Loc) (ls : Array Slot), jx_H D 22 ad (jm_cell ad cA (jm_nh u url (u 6 (ix (jm_presentOf u n))) (jm_within (u 6 (ix (jm_presentOf u n))) url))) A s.heap H locs → lv_has ls 8 [(0, .ref (ad 0)), (1, .int n), (2, .int url), (4, .int (jm_presentOf u n)), (6, .int (jm_push rep url (u 6 (ix (jm_presentOf u n))))), (7, .int (jm_within (u 6 (ix (jm_presentOf u n))) url))] → W p l e (jr 7) s m args below meth c H locs 0 0 Q (F0 m 128 ls []) := by
                intro  H locs ls hh hl
                refine lv_aload_n hx hb d_M_navigate_128 rfl (lv_at hl 0 rfl) ?_
                refine lv_iload_n hx hb d_M_navigate_129 rfl (lv_at hl 1 rfl) ?_
                refine lv_iload_n hx hb d_M_navigate_130 rfl (lv_at hl 2 rfl) ?_
                refine lv_iconst (v := 0) hx hb d_M_navigate_131 (by decide) ?_
                refine lv_iload hx hb d_M_navigate_132 (lv_at hl 4 rfl) ?_
                refine lv_iload hx hb d_M_navigate_134 (lv_at hl 5 rfl) ?_
                refine lv_if_eq (tgt := 149) hx hb d_M_navigate_136 rfl (fun h136 => ?_) (fun h136 => ?_)
                ·
                  refine lv_iconst (v := -1) hx hb d_M_navigate_149 (by decide) ?_
                  have J150 : ∀  (ls : Array Slot), lv_has ls 8 [(0, .ref (ad 0))] → W p l e (jr 7) s m args below meth c H locs 0 0 Q (F0 m 150 ls [.int (jm_nd (jm_nh u url (u 6 (ix (jm_presentOf u n))) (jm_within (u 6 (ix (jm_presentOf u n))) url)) (jm_presentOf u n) (jm_within (u 6 (ix (jm_presentOf u n))) url)), .int (jm_push rep url (u 6 (ix (jm_presentOf u n)))), .int 0, .int url, .int n, .ref (ad 0)]) := by
                    intro  ls hl
                    refine jx_callV [.int n, .int url, .int 0, .int (jm_push rep url (u 6 (ix (jm_presentOf u n)))), .int (jm_nd (jm_nh u url (u 6 (ix (jm_presentOf u n))) (jm_within (u 6 (ix (jm_presentOf u n))) url)) (jm_presentOf u n) (jm_within (u 6 (ix (jm_presentOf u n))) url))] [] hc hh (m_enter l D aK ad cA (jm_nh u url (u 6 (ix (jm_presentOf u n))) (jm_within (u 6 (ix (jm_presentOf u n))) url)) n url 0 (jm_push rep url (u 6 (ix (jm_presentOf u n)))) (jm_nd (jm_nh u url (u 6 (ix (jm_presentOf u n))) (jm_within (u 6 (ix (jm_presentOf u n))) url)) (jm_presentOf u n) (jm_within (u 6 (ix (jm_presentOf u n))) url)) (jm_nh_Sh hS) (jm_shown_ex h19) (jm_btw_ub h8) (jm_nd_jq (jm_nh_Sh hS) jm_pr_ex) (jm_Nw_of hn jm_nh_21)) wy_M_159 ⟨by decide, rfl, rfl⟩ (by decide) rfl hl.1 rfl (by decide) ⟨Nat.zero_le _, Nat.zero_le _⟩ d_M_navigate_150 (fun r u9 H locs hp hh _ _ => ?_)
                    rw [hp.2] at hh
                    refine W.eq (g2 := F0 m 153 ls []) rfl ?_
                    refine lv_aload_n hx hb d_M_navigate_153 rfl (lv_at hl 0 rfl) ?_
                    refine jg_M hc hh 21 (by decide) rfl wf_M_130 d_M_navigate_154 ?_
                    exact jx_iret (r := ((jm_enter (jm_nh u url (u 6 (ix (jm_presentOf u n))) (jm_within (u 6 (ix (jm_presentOf u n))) url)) n url 0 (jm_push rep url (u 6 (ix (jm_presentOf u n)))) (jm_nd (jm_nh u url (u 6 (ix (jm_presentOf u n))) (jm_within (u 6 (ix (jm_presentOf u n))) url)) (jm_presentOf u n) (jm_within (u 6 (ix (jm_presentOf u n))) url))) 21 0)) hc hh hQ hlk hr rfl rfl ⟨by unfold jm_navigate jm_navF; rw [if_neg h8, if_neg h19, if_pos h64]; rfl, by unfold jm_navigate jm_navF; rw [if_neg h8, if_neg h19, if_pos h64]; rfl⟩ d_M_navigate_157
                  have e146 : (jm_nd (jm_nh u url (u 6 (ix (jm_presentOf u n))) (jm_within (u 6 (ix (jm_presentOf u n))) url)) (jm_presentOf u n) (jm_within (u 6 (ix (jm_presentOf u n))) url)) = (-1) := by first | (simp [jm_nd, h136]; done) | (simp [jm_nd, eq_true h136]; done)
                  refine W.eq (g2 := F0 m 150 ls [.int (jm_nd (jm_nh u url (u 6 (ix (jm_presentOf u n))) (jm_within (u 6 (ix (jm_presentOf u n))) url)) (jm_presentOf u n) (jm_within (u 6 (ix (jm_presentOf u n))) url)), .int (jm_push rep url (u 6 (ix (jm_presentOf u n)))), .int 0, .int url, .int n, .ref (ad 0)]) (by first | (rw [e146]; done) | (rw [e146]; rfl)) ?_
                  refine J150 _ ?_
                  exact lv_sub hl [0] rfl
                refine lv_aload_n hx hb d_M_navigate_139 rfl (lv_at hl 0 rfl) ?_
                refine jg_M hc hh 8 (by decide) rfl wf_M_35 d_M_navigate_140 ?_
                refine lv_iload hx hb d_M_navigate_143 (lv_at hl 3 rfl) ?_
                refine jm_ild hc hh 8 (by decide) (by decide) jm_pr_ex d_M_navigate_145 ?_
                refine lv_goto (tgt := 150) hx hb d_M_navigate_146 rfl ?_
                have J150 : ∀  (ls : Array Slot), lv_has ls 8 [(0, .ref (ad 0))] → W p l e (jr 7) s m args below meth c H locs 0 0 Q (F0 m 150 ls [.int (jm_nd (jm_nh u url (u 6 (ix (jm_presentOf u n))) (jm_within (u 6 (ix (jm_presentOf u n))) url)) (jm_presentOf u n) (jm_within (u 6 (ix (jm_presentOf u n))) url)), .int (jm_push rep url (u 6 (ix (jm_presentOf u n)))), .int 0, .int url, .int n, .ref (ad 0)]) := by
                  intro  ls hl
                  refine jx_callV [.int n, .int url, .int 0, .int (jm_push rep url (u 6 (ix (jm_presentOf u n)))), .int (jm_nd (jm_nh u url (u 6 (ix (jm_presentOf u n))) (jm_within (u 6 (ix (jm_presentOf u n))) url)) (jm_presentOf u n) (jm_within (u 6 (ix (jm_presentOf u n))) url))] [] hc hh (m_enter l D aK ad cA (jm_nh u url (u 6 (ix (jm_presentOf u n))) (jm_within (u 6 (ix (jm_presentOf u n))) url)) n url 0 (jm_push rep url (u 6 (ix (jm_presentOf u n)))) (jm_nd (jm_nh u url (u 6 (ix (jm_presentOf u n))) (jm_within (u 6 (ix (jm_presentOf u n))) url)) (jm_presentOf u n) (jm_within (u 6 (ix (jm_presentOf u n))) url)) (jm_nh_Sh hS) (jm_shown_ex h19) (jm_btw_ub h8) (jm_nd_jq (jm_nh_Sh hS) jm_pr_ex) (jm_Nw_of hn jm_nh_21)) wy_M_159 ⟨by decide, rfl, rfl⟩ (by decide) rfl hl.1 rfl (by decide) ⟨Nat.zero_le _, Nat.zero_le _⟩ d_M_navigate_150 (fun r u9 H locs hp hh _ _ => ?_)
                  rw [hp.2] at hh
                  refine W.eq (g2 := F0 m 153 ls []) rfl ?_
                  refine lv_aload_n hx hb d_M_navigate_153 rfl (lv_at hl 0 rfl) ?_
                  refine jg_M hc hh 21 (by decide) rfl wf_M_130 d_M_navigate_154 ?_
                  exact jx_iret (r := ((jm_enter (jm_nh u url (u 6 (ix (jm_presentOf u n))) (jm_within (u 6 (ix (jm_presentOf u n))) url)) n url 0 (jm_push rep url (u 6 (ix (jm_presentOf u n)))) (jm_nd (jm_nh u url (u 6 (ix (jm_presentOf u n))) (jm_within (u 6 (ix (jm_presentOf u n))) url)) (jm_presentOf u n) (jm_within (u 6 (ix (jm_presentOf u n))) url))) 21 0)) hc hh hQ hlk hr rfl rfl ⟨by unfold jm_navigate jm_navF; rw [if_neg h8, if_neg h19, if_pos h64]; rfl, by unfold jm_navigate jm_navF; rw [if_neg h8, if_neg h19, if_pos h64]; rfl⟩ d_M_navigate_157
                have e147 : (jm_nd (jm_nh u url (u 6 (ix (jm_presentOf u n))) (jm_within (u 6 (ix (jm_presentOf u n))) url)) (jm_presentOf u n) (jm_within (u 6 (ix (jm_presentOf u n))) url)) = ((jm_nh u url (u 6 (ix (jm_presentOf u n))) (jm_within (u 6 (ix (jm_presentOf u n))) url)) 8 (ix (jm_presentOf u n))) := by simp [jm_nd, h136]
                refine W.eq (g2 := F0 m 150 ls [.int (jm_nd (jm_nh u url (u 6 (ix (jm_presentOf u n))) (jm_within (u 6 (ix (jm_presentOf u n))) url)) (jm_presentOf u n) (jm_within (u 6 (ix (jm_presentOf u n))) url)), .int (jm_push rep url (u 6 (ix (jm_presentOf u n)))), .int 0, .int url, .int n, .ref (ad 0)]) (by first | (rw [e147]; done) | (rw [e147]; rfl)) ?_
                refine J150 _ ?_
                exact lv_sub hl [0] rfl
              have e148 : (jm_nh u url (u 6 (ix (jm_presentOf u n))) (jm_within (u 6 (ix (jm_presentOf u n))) url)) = u := by first | (simp [jm_nh, h109, h115]; done) | (simp [jm_nh, h109, eq_true h115]; done)
              refine J128 _ _ _ ?_ ?_
              ·
                try rw [e148]
                exact hh
              try rw [e148]
              exact lv_sub hl [1, 2, 3, 4, 6, 0] rfl
            refine lv_aload_n hx hb d_M_navigate_118 rfl (lv_at hl 1 rfl) ?_
            refine lv_dup hx hb d_M_navigate_119 rfl ?_
            refine jg_M hc hh 24 (by decide) rfl wf_M_156 d_M_navigate_120 ?_
            refine lv_iconst (v := 1) hx hb d_M_navigate_123 (by decide) ?_
            refine lv_iadd hx hb d_M_navigate_124 ?_
            refine jpm_24 hc hh wf_M_156 d_M_navigate_125 (fun H locs hh => ?_)
            have J128 : ∀  (H : Heap) (locs : List Loc) (ls : Array Slot), jx_H D 22 ad (jm_cell ad cA (jm_nh u url (u 6 (ix (jm_presentOf u n))) (jm_within (u 6 (ix (jm_presentOf u n))) url))) A s.heap H locs → lv_has ls 8 [(0, .ref (ad 0)), (1, .int n), (2, .int url), (4, .int (jm_presentOf u n)), (6, .int (jm_push rep url (u 6 (ix (jm_presentOf u n))))), (7, .int (jm_within (u 6 (ix (jm_presentOf u n))) url))] → W p l e (jr 7) s m args below meth c H locs 0 0 Q (F0 m 128 ls []) := by
              intro  H locs ls hh hl
              refine lv_aload_n hx hb d_M_navigate_128 rfl (lv_at hl 0 rfl) ?_
              refine lv_iload_n hx hb d_M_navigate_129 rfl (lv_at hl 1 rfl) ?_
              refine lv_iload_n hx hb d_M_navigate_130 rfl (lv_at hl 2 rfl) ?_
              refine lv_iconst (v := 0) hx hb d_M_navigate_131 (by decide) ?_
              refine lv_iload hx hb d_M_navigate_132 (lv_at hl 4 rfl) ?_
              refine lv_iload hx hb d_M_navigate_134 (lv_at hl 5 rfl) ?_
              refine lv_if_eq (tgt := 149) hx hb d_M_navigate_136 rfl (fun h136 => ?_) (fun h136 => ?_)
              ·
                refine lv_iconst (v := -1) hx hb d_M_navigate_149 (by decide) ?_
                have J150 : ∀  (ls : Array Slot), lv_has ls 8 [(0, .ref (ad 0))] → W p l e (jr 7) s m args below meth c H locs 0 0 Q (F0 m 150 ls [.int (jm_nd (jm_nh u url (u 6 (ix (jm_presentOf u n))) (jm_within (u 6 (ix (jm_presentOf u n))) url)) (jm_presentOf u n) (jm_within (u 6 (ix (jm_presentOf u n))) url)), .int (jm_push rep url (u 6 (ix (jm_presentOf u n)))), .int 0, .int url, .int n, .ref (ad 0)]) := by
                  intro  ls hl
                  refine jx_callV [.int n, .int url, .int 0, .int (jm_push rep url (u 6 (ix (jm_presentOf u n)))), .int (jm_nd (jm_nh u url (u 6 (ix (jm_presentOf u n))) (jm_within (u 6 (ix (jm_presentOf u n))) url)) (jm_presentOf u n) (jm_within (u 6 (ix (jm_presentOf u n))) url))] [] hc hh (m_enter l D aK ad cA (jm_nh u url (u 6 (ix (jm_presentOf u n))) (jm_within (u 6 (ix (jm_presentOf u n))) url)) n url 0 (jm_push rep url (u 6 (ix (jm_presentOf u n)))) (jm_nd (jm_nh u url (u 6 (ix (jm_presentOf u n))) (jm_within (u 6 (ix (jm_presentOf u n))) url)) (jm_presentOf u n) (jm_within (u 6 (ix (jm_presentOf u n))) url)) (jm_nh_Sh hS) (jm_shown_ex h19) (jm_btw_ub h8) (jm_nd_jq (jm_nh_Sh hS) jm_pr_ex) (jm_Nw_of hn jm_nh_21)) wy_M_159 ⟨by decide, rfl, rfl⟩ (by decide) rfl hl.1 rfl (by decide) ⟨Nat.zero_le _, Nat.zero_le _⟩ d_M_navigate_150 (fun r u9 H locs hp hh _ _ => ?_)
                  rw [hp.2] at hh
                  refine W.eq (g2 := F0 m 153 ls []) rfl ?_
                  refine lv_aload_n hx hb d_M_navigate_153 rfl (lv_at hl 0 rfl) ?_
                  refine jg_M hc hh 21 (by decide) rfl wf_M_130 d_M_navigate_154 ?_
                  exact jx_iret (r := ((jm_enter (jm_nh u url (u 6 (ix (jm_presentOf u n))) (jm_within (u 6 (ix (jm_presentOf u n))) url)) n url 0 (jm_push rep url (u 6 (ix (jm_presentOf u n)))) (jm_nd (jm_nh u url (u 6 (ix (jm_presentOf u n))) (jm_within (u 6 (ix (jm_presentOf u n))) url)) (jm_presentOf u n) (jm_within (u 6 (ix (jm_presentOf u n))) url))) 21 0)) hc hh hQ hlk hr rfl rfl ⟨by unfold jm_navigate jm_navF; rw [if_neg h8, if_neg h19, if_pos h64]; rfl, by unfold jm_navigate jm_navF; rw [if_neg h8, if_neg h19, if_pos h64]; rfl⟩ d_M_navigate_157
                have e149 : (jm_nd (jm_nh u url (u 6 (ix (jm_presentOf u n))) (jm_within (u 6 (ix (jm_presentOf u n))) url)) (jm_presentOf u n) (jm_within (u 6 (ix (jm_presentOf u n))) url)) = (-1) := by first | (simp [jm_nd, h136]; done) | (simp [jm_nd, eq_true h136]; done)
                refine W.eq (g2 := F0 m 150 ls [.int (jm_nd (jm_nh u url (u 6 (ix (jm_presentOf u n))) (jm_within (u 6 (ix (jm_presentOf u n))) url)) (jm_presentOf u n) (jm_within (u 6 (ix (jm_presentOf u n))) url)), .int (jm_push rep url (u 6 (ix (jm_presentOf u n)))), .int 0, .int url, .int n, .ref (ad 0)]) (by first | (rw [e149]; done) | (rw [e149]; rfl)) ?_
                refine J150 _ ?_
                exact lv_sub hl [0] rfl
              refine lv_aload_n hx hb d_M_navigate_139 rfl (lv_at hl 0 rfl) ?_
              refine jg_M hc hh 8 (by decide) rfl wf_M_35 d_M_navigate_140 ?_
              refine lv_iload hx hb d_M_navigate_143 (lv_at hl 3 rfl) ?_
              refine jm_ild hc hh 8 (by decide) (by decide) jm_pr_ex d_M_navigate_145 ?_
              refine lv_goto (tgt := 150) hx hb d_M_navigate_146 rfl ?_
              have J150 : ∀  (ls : Array Slot), lv_has ls 8 [(0, .ref (ad 0))] → W p l e (jr 7) s m args below meth c H locs 0 0 Q (F0 m 150 ls [.int (jm_nd (jm_nh u url (u 6 (ix (jm_presentOf u n))) (jm_within (u 6 (ix (jm_presentOf u n))) url)) (jm_presentOf u n) (jm_within (u 6 (ix (jm_presentOf u n))) url)), .int (jm_push rep url (u 6 (ix (jm_presentOf u n)))), .int 0, .int url, .int n, .ref (ad 0)]) := by
                intro  ls hl
                refine jx_callV [.int n, .int url, .int 0, .int (jm_push rep url (u 6 (ix (jm_presentOf u n)))), .int (jm_nd (jm_nh u url (u 6 (ix (jm_presentOf u n))) (jm_within (u 6 (ix (jm_presentOf u n))) url)) (jm_presentOf u n) (jm_within (u 6 (ix (jm_presentOf u n))) url))] [] hc hh (m_enter l D aK ad cA (jm_nh u url (u 6 (ix (jm_presentOf u n))) (jm_within (u 6 (ix (jm_presentOf u n))) url)) n url 0 (jm_push rep url (u 6 (ix (jm_presentOf u n)))) (jm_nd (jm_nh u url (u 6 (ix (jm_presentOf u n))) (jm_within (u 6 (ix (jm_presentOf u n))) url)) (jm_presentOf u n) (jm_within (u 6 (ix (jm_presentOf u n))) url)) (jm_nh_Sh hS) (jm_shown_ex h19) (jm_btw_ub h8) (jm_nd_jq (jm_nh_Sh hS) jm_pr_ex) (jm_Nw_of hn jm_nh_21)) wy_M_159 ⟨by decide, rfl, rfl⟩ (by decide) rfl hl.1 rfl (by decide) ⟨Nat.zero_le _, Nat.zero_le _⟩ d_M_navigate_150 (fun r u9 H locs hp hh _ _ => ?_)
                rw [hp.2] at hh
                refine W.eq (g2 := F0 m 153 ls []) rfl ?_
                refine lv_aload_n hx hb d_M_navigate_153 rfl (lv_at hl 0 rfl) ?_
                refine jg_M hc hh 21 (by decide) rfl wf_M_130 d_M_navigate_154 ?_
                exact jx_iret (r := ((jm_enter (jm_nh u url (u 6 (ix (jm_presentOf u n))) (jm_within (u 6 (ix (jm_presentOf u n))) url)) n url 0 (jm_push rep url (u 6 (ix (jm_presentOf u n)))) (jm_nd (jm_nh u url (u 6 (ix (jm_presentOf u n))) (jm_within (u 6 (ix (jm_presentOf u n))) url)) (jm_presentOf u n) (jm_within (u 6 (ix (jm_presentOf u n))) url))) 21 0)) hc hh hQ hlk hr rfl rfl ⟨by unfold jm_navigate jm_navF; rw [if_neg h8, if_neg h19, if_pos h64]; rfl, by unfold jm_navigate jm_navF; rw [if_neg h8, if_neg h19, if_pos h64]; rfl⟩ d_M_navigate_157
              have e150 : (jm_nd (jm_nh u url (u 6 (ix (jm_presentOf u n))) (jm_within (u 6 (ix (jm_presentOf u n))) url)) (jm_presentOf u n) (jm_within (u 6 (ix (jm_presentOf u n))) url)) = ((jm_nh u url (u 6 (ix (jm_presentOf u n))) (jm_within (u 6 (ix (jm_presentOf u n))) url)) 8 (ix (jm_presentOf u n))) := by simp [jm_nd, h136]
              refine W.eq (g2 := F0 m 150 ls [.int (jm_nd (jm_nh u url (u 6 (ix (jm_presentOf u n))) (jm_within (u 6 (ix (jm_presentOf u n))) url)) (jm_presentOf u n) (jm_within (u 6 (ix (jm_presentOf u n))) url)), .int (jm_push rep url (u 6 (ix (jm_presentOf u n)))), .int 0, .int url, .int n, .ref (ad 0)]) (by first | (rw [e150]; done) | (rw [e150]; rfl)) ?_
              refine J150 _ ?_
              exact lv_sub hl [0] rfl
            have e151 : (jm_nh u url (u 6 (ix (jm_presentOf u n))) (jm_within (u 6 (ix (jm_presentOf u n))) url)) = (js_up u 24 0 ((u 24 0) + 1)) := by simp [jm_nh, h109, h115]
            refine J128 _ _ _ ?_ ?_
            ·
              try rw [e151]
              exact hh
            try rw [e151]
            exact lv_sub hl [1, 2, 3, 4, 6, 0] rfl
          have e152 : (jm_within (u 6 (ix (jm_presentOf u n))) url) = 1 := by first | (simp [jm_within, h64, h72, h79, h85, h97]; done) | (simp [jm_within, eq_true h64, h72, h79, h85, eq_true h97]; done)
          refine W.eq (g2 := F0 m 105 ls [.int (jm_within (u 6 (ix (jm_presentOf u n))) url)]) (by first | (rw [e152]; done) | (rw [e152]; rfl)) ?_
          refine J105 _ _ _ ?_ ?_
          ·
            exact hh
          exact lv_sub hl [1, 2, 3, 4, 5, 0] rfl
        refine lv_bipush (v := -5) hx hb d_M_navigate_67 (by decide) ?_
        exact jx_iret (r := (-5)) hc hh hQ hlk hr rfl rfl ⟨by rw [show jm_navigate u n url rep = (-5, u) from by unfold jm_navigate jm_navF; rw [if_neg h8, if_neg h19, if_neg h64]], by rw [show jm_navigate u n url rep = (-5, u) from by unfold jm_navigate jm_navF; rw [if_neg h8, if_neg h19, if_neg h64]]⟩ d_M_navigate_69
      have e153 : (jm_push rep url (u 6 (ix (jm_presentOf u n)))) = 1 := by first | (simp [jm_push, h8, h19, h42, h48]; done) | (simp [jm_push, h8, h19, eq_true h42, h48]; done)
      refine W.eq (g2 := F0 m 56 ls [.int (jm_push rep url (u 6 (ix (jm_presentOf u n))))]) (by first | (rw [e153]; done) | (rw [e153]; rfl)) ?_
      refine J56 _ _ _ ?_ ?_
      ·
        exact hh
      exact lv_sub hl [2, 3, 4, 1, 0] rfl
    refine lv_bipush (v := -4) hx hb d_M_navigate_22 (by decide) ?_
    exact jx_iret (r := (-4)) hc hh hQ hlk hr rfl rfl ⟨by simp [jm_navigate, h8, h19], by simp [jm_navigate, h8, h19]⟩ d_M_navigate_24
  refine lv_bipush (v := -3) hx hb d_M_navigate_11 (by decide) ?_
  exact jx_iret (r := (-3)) hc hh hQ hlk hr rfl rfl ⟨by simp [jm_navigate, h8], by simp [jm_navigate, h8]⟩ d_M_navigate_13
set_option maxHeartbeats 4000000 in
set_option maxRecDepth 100000 in
theorem m_rewrite (l : Launch) (D : va_G) (aK ad : Nat → Nat) (cA : Nat → ClassId) (u : js_S) (n : Int32) (url : Int32) (state : Int32) (push : Int32) (hS : jm_Sh u) (hn : jm_Nw u) (hold : jq 256 (u 6 (ix (jm_presentOf u n)))) : jx_M l y_M_rewrite b_M_rewrite 7 (some .int) (jr 7) D (jc_tys cA) aK 22 ad (jm_cell ad cA) [.ref (ad 0), .int n, .int url, .int state, .int push] u (fun r : Int32 => some (.int r)) (fun r u' => r = (jm_rewrite u n url state push).1 ∧ u' = (jm_rewrite u n url state push).2) := by
  refine jx_enter "JointHistoryModel" (by decide) rfl (by simp [lg_sl, vc_int, vc_ref, vc_long, jv_cat]) ?_
  intro p e s m args below meth c A Q H locs ls hQ hc hh hr hlk hl
  have hx := hc.1
  have hb := hc.2.1
  have hl : lv_has ls 7 [(0, .ref (ad 0)), (1, .int n), (2, .int url), (3, .int state), (4, .int push)] := by simpa [lv_args, vc_int, vc_ref, vc_long, jv_cat] using hl
  refine lv_iload_n hx hb d_M_rewrite_0 rfl (lv_at hl 2 rfl) ?_
  refine lv_iconst (v := -1) hx hb d_M_rewrite_1 (by decide) ?_
  refine lv_sipush (v := 255) hx hb d_M_rewrite_2 (by decide) ?_
  refine jx_callS [.int url, .int (-1), .int 255] [] hc hh (m_between l D aK ad cA u url (-1) 255) wy_M_85 (by decide) rfl hl.1 rfl (by decide) ⟨Nat.zero_le _, Nat.zero_le _⟩ d_M_rewrite_5 (fun r u9 H locs hp hh _ _ => ?_)
  rw [hp.2] at hh
  refine W.eq (g2 := F0 m 8 ls [.int (jm_btw url (-1) 255)]) (by rw [hp.1]; rfl) ?_
  refine lv_if_ne (tgt := 14) hx hb d_M_rewrite_8 rfl (fun h8 => ?_) (fun h8 => ?_)
  ·
    refine lv_aload_n hx hb d_M_rewrite_14 rfl (lv_at hl 0 rfl) ?_
    refine lv_iload_n hx hb d_M_rewrite_15 rfl (lv_at hl 1 rfl) ?_
    refine jx_callV [.int n] [] hc hh (m_isShown l D aK ad cA u n) wy_M_146 ⟨by decide, rfl, rfl⟩ (by decide) rfl hl.1 rfl (by decide) ⟨Nat.zero_le _, Nat.zero_le _⟩ d_M_rewrite_16 (fun r u9 H locs hp hh _ _ => ?_)
    rw [hp.2] at hh
    refine W.eq (g2 := F0 m 19 ls [.int (jm_isShown u n)]) (by rw [hp.1]; rfl) ?_
    refine lv_if_ne (tgt := 25) hx hb d_M_rewrite_19 rfl (fun h19 => ?_) (fun h19 => ?_)
    ·
      refine lv_aload_n hx hb d_M_rewrite_25 rfl (lv_at hl 0 rfl) ?_
      refine lv_iload_n hx hb d_M_rewrite_26 rfl (lv_at hl 1 rfl) ?_
      refine jx_callV [.int n] [] hc hh (m_presentOf l D aK ad cA u n) wy_M_124 ⟨by decide, rfl, rfl⟩ (by decide) rfl hl.1 rfl (by decide) ⟨Nat.zero_le _, Nat.zero_le _⟩ d_M_rewrite_27 (fun r u9 H locs hp hh _ _ => ?_)
      rw [hp.2] at hh
      refine W.eq (g2 := F0 m 30 ls [.int (jm_presentOf u n)]) (by rw [hp.1]; rfl) ?_
      refine lv_istore (i := 5) (lv' := [(5, .int (jm_presentOf u n)), (0, .ref (ad 0)), (1, .int n), (2, .int url), (3, .int state), (4, .int push)]) hx hb d_M_rewrite_30 hl (by decide) rfl (fun ls hl => ?_)
      refine lv_aload_n hx hb d_M_rewrite_32 rfl (lv_at hl 1 rfl) ?_
      refine jg_M hc hh 6 (by decide) rfl wf_M_29 d_M_rewrite_33 ?_
      refine lv_iload hx hb d_M_rewrite_36 (lv_at hl 0 rfl) ?_
      refine jm_ild hc hh 6 (by decide) (by decide) jm_pr_ex d_M_rewrite_38 ?_
      refine lv_istore (i := 6) (lv' := [(6, .int (u 6 (ix (jm_presentOf u n)))), (5, .int (jm_presentOf u n)), (0, .ref (ad 0)), (1, .int n), (2, .int url), (3, .int state), (4, .int push)]) hx hb d_M_rewrite_39 hl (by decide) rfl (fun ls hl => ?_)
      refine lv_iload_n hx hb d_M_rewrite_41 rfl (lv_at hl 4 rfl) ?_
      refine lv_iconst (v := -1) hx hb d_M_rewrite_42 (by decide) ?_
      refine lv_icmp_eq (tgt := 88) hx hb d_M_rewrite_43 rfl (fun h43 => ?_) (fun h43 => ?_)
      ·
        have J88 : ∀  (H : Heap) (locs : List Loc) (ls : Array Slot), (jm_forb (u 6 (ix (jm_presentOf u n))) url = 0) → jx_H D 22 ad (jm_cell ad cA u) A s.heap H locs → lv_has ls 7 [(0, .ref (ad 0)), (1, .int n), (2, .int url), (3, .int state), (4, .int push), (5, .int (jm_presentOf u n)), (6, .int (u 6 (ix (jm_presentOf u n))))] → W p l e (jr 7) s m args below meth c H locs 0 0 Q (F0 m 88 ls []) := by
          intro  H locs ls hfb hh hl
          refine lv_aload_n hx hb d_M_rewrite_88 rfl (lv_at hl 0 rfl) ?_
          refine lv_iload hx hb d_M_rewrite_89 (lv_at hl 4 rfl) ?_
          refine jx_callV [.int push] [] hc hh (m_full l D aK ad cA u push) wy_M_149 ⟨by decide, rfl, rfl⟩ (by decide) rfl hl.1 rfl (by decide) ⟨Nat.zero_le _, Nat.zero_le _⟩ d_M_rewrite_91 (fun r u9 H locs hp hh _ _ => ?_)
          rw [hp.2] at hh
          refine W.eq (g2 := F0 m 94 ls [.int (jm_full u push)]) (by rw [hp.1]; rfl) ?_
          refine lv_if_eq (tgt := 100) hx hb d_M_rewrite_94 rfl (fun h94 => ?_) (fun h94 => ?_)
          ·
            refine lv_aload_n hx hb d_M_rewrite_100 rfl (lv_at hl 0 rfl) ?_
            refine lv_iload_n hx hb d_M_rewrite_101 rfl (lv_at hl 1 rfl) ?_
            refine lv_iload_n hx hb d_M_rewrite_102 rfl (lv_at hl 2 rfl) ?_
            refine lv_iconst (v := -1) hx hb d_M_rewrite_103 (by decide) ?_
            refine lv_icmp_ne (tgt := 112) hx hb d_M_rewrite_104 rfl (fun h104 => ?_) (fun h104 => ?_)
            ·
              refine lv_iload_n hx hb d_M_rewrite_112 rfl (lv_at hl 2 rfl) ?_
              have J113 : ∀  (ls : Array Slot), lv_has ls 7 [(0, .ref (ad 0)), (3, .int state), (4, .int push), (5, .int (jm_presentOf u n))] → W p l e (jr 7) s m args below meth c H locs 0 0 Q (F0 m 113 ls [.int (if url = -1 then (u 6 (ix (jm_presentOf u n))) else url), .int n, .ref (ad 0)]) := by
                intro  ls hl
                refine lv_iload_n hx hb d_M_rewrite_113 rfl (lv_at hl 1 rfl) ?_
                refine lv_iload hx hb d_M_rewrite_114 (lv_at hl 2 rfl) ?_
                refine lv_aload_n hx hb d_M_rewrite_116 rfl (lv_at hl 0 rfl) ?_
                refine jg_M hc hh 8 (by decide) rfl wf_M_35 d_M_rewrite_117 ?_
                refine lv_iload hx hb d_M_rewrite_120 (lv_at hl 3 rfl) ?_
                refine jm_ild hc hh 8 (by decide) (by decide) jm_pr_ex d_M_rewrite_122 ?_
                refine jx_callV [.int n, .int (if url = -1 then (u 6 (ix (jm_presentOf u n))) else url), .int state, .int push, .int (u 8 (ix (jm_presentOf u n)))] [] hc hh (m_enter l D aK ad cA u n (if url = -1 then (u 6 (ix (jm_presentOf u n))) else url) state push (u 8 (ix (jm_presentOf u n))) hS (jm_shown_ex h19) (jm_rwq (jm_btw_ub h8) hold) (Or.inr (jm_Spx hS jm_pr_ex)) hn) wy_M_159 ⟨by decide, rfl, rfl⟩ (by decide) rfl hl.1 rfl (by decide) ⟨Nat.zero_le _, Nat.zero_le _⟩ d_M_rewrite_123 (fun r u9 H locs hp hh _ _ => ?_)
                rw [hp.2] at hh
                refine W.eq (g2 := F0 m 126 ls []) rfl ?_
                refine lv_aload_n hx hb d_M_rewrite_126 rfl (lv_at hl 0 rfl) ?_
                refine jg_M hc hh 21 (by decide) rfl wf_M_130 d_M_rewrite_127 ?_
                exact jx_iret (r := ((jm_enter u n (if url = -1 then (u 6 (ix (jm_presentOf u n))) else url) state push (u 8 (ix (jm_presentOf u n)))) 21 0)) hc hh hQ hlk hr rfl rfl ⟨by unfold jm_rewrite; rw [if_neg h8, if_neg h19, if_pos hfb, if_pos h94]; rfl, by unfold jm_rewrite; rw [if_neg h8, if_neg h19, if_pos hfb, if_pos h94]; rfl⟩ d_M_rewrite_130
              have e1 : (if url = -1 then (u 6 (ix (jm_presentOf u n))) else url) = url := by simp [h104]
              refine W.eq (g2 := F0 m 113 ls [.int (if url = -1 then (u 6 (ix (jm_presentOf u n))) else url), .int n, .ref (ad 0)]) (by first | (rw [e1]; done) | (rw [e1]; rfl)) ?_
              refine J113 _ ?_
              exact lv_sub hl [0, 3, 4, 5] rfl
            refine lv_iload hx hb d_M_rewrite_107 (lv_at hl 6 rfl) ?_
            refine lv_goto (tgt := 113) hx hb d_M_rewrite_109 rfl ?_
            have J113 : ∀  (ls : Array Slot), lv_has ls 7 [(0, .ref (ad 0)), (3, .int state), (4, .int push), (5, .int (jm_presentOf u n))] → W p l e (jr 7) s m args below meth c H locs 0 0 Q (F0 m 113 ls [.int (if url = -1 then (u 6 (ix (jm_presentOf u n))) else url), .int n, .ref (ad 0)]) := by
              intro  ls hl
              refine lv_iload_n hx hb d_M_rewrite_113 rfl (lv_at hl 1 rfl) ?_
              refine lv_iload hx hb d_M_rewrite_114 (lv_at hl 2 rfl) ?_
              refine lv_aload_n hx hb d_M_rewrite_116 rfl (lv_at hl 0 rfl) ?_
              refine jg_M hc hh 8 (by decide) rfl wf_M_35 d_M_rewrite_117 ?_
              refine lv_iload hx hb d_M_rewrite_120 (lv_at hl 3 rfl) ?_
              refine jm_ild hc hh 8 (by decide) (by decide) jm_pr_ex d_M_rewrite_122 ?_
              refine jx_callV [.int n, .int (if url = -1 then (u 6 (ix (jm_presentOf u n))) else url), .int state, .int push, .int (u 8 (ix (jm_presentOf u n)))] [] hc hh (m_enter l D aK ad cA u n (if url = -1 then (u 6 (ix (jm_presentOf u n))) else url) state push (u 8 (ix (jm_presentOf u n))) hS (jm_shown_ex h19) (jm_rwq (jm_btw_ub h8) hold) (Or.inr (jm_Spx hS jm_pr_ex)) hn) wy_M_159 ⟨by decide, rfl, rfl⟩ (by decide) rfl hl.1 rfl (by decide) ⟨Nat.zero_le _, Nat.zero_le _⟩ d_M_rewrite_123 (fun r u9 H locs hp hh _ _ => ?_)
              rw [hp.2] at hh
              refine W.eq (g2 := F0 m 126 ls []) rfl ?_
              refine lv_aload_n hx hb d_M_rewrite_126 rfl (lv_at hl 0 rfl) ?_
              refine jg_M hc hh 21 (by decide) rfl wf_M_130 d_M_rewrite_127 ?_
              exact jx_iret (r := ((jm_enter u n (if url = -1 then (u 6 (ix (jm_presentOf u n))) else url) state push (u 8 (ix (jm_presentOf u n)))) 21 0)) hc hh hQ hlk hr rfl rfl ⟨by unfold jm_rewrite; rw [if_neg h8, if_neg h19, if_pos hfb, if_pos h94]; rfl, by unfold jm_rewrite; rw [if_neg h8, if_neg h19, if_pos hfb, if_pos h94]; rfl⟩ d_M_rewrite_130
            have e2 : (if url = -1 then (u 6 (ix (jm_presentOf u n))) else url) = (u 6 (ix (jm_presentOf u n))) := by simp [h104]
            refine W.eq (g2 := F0 m 113 ls [.int (if url = -1 then (u 6 (ix (jm_presentOf u n))) else url), .int n, .ref (ad 0)]) (by first | (rw [e2]; done) | (rw [e2]; rfl)) ?_
            refine J113 _ ?_
            exact lv_sub hl [0, 3, 4, 5] rfl
          refine lv_bipush (v := -5) hx hb d_M_rewrite_97 (by decide) ?_
          exact jx_iret (r := (-5)) hc hh hQ hlk hr rfl rfl ⟨by rw [show jm_rewrite u n url state push = (-5, u) from by unfold jm_rewrite; rw [if_neg h8, if_neg h19, if_pos hfb, if_neg h94]], by rw [show jm_rewrite u n url state push = (-5, u) from by unfold jm_rewrite; rw [if_neg h8, if_neg h19, if_pos hfb, if_neg h94]]⟩ d_M_rewrite_99
        refine J88 _ _ _ (by first | (simp [jm_forb, h43]; done) | (simp [jm_forb, eq_true h43]; done)) ?_ ?_
        ·
          exact hh
        exact lv_sub hl [2, 3, 4, 5, 6, 1, 0] rfl
      refine lv_iload hx hb d_M_rewrite_46 (lv_at hl 0 rfl) ?_
      refine lv_iconst (v := -1) hx hb d_M_rewrite_48 (by decide) ?_
      refine lv_icmp_eq (tgt := 85) hx hb d_M_rewrite_49 rfl (fun h49 => ?_) (fun h49 => ?_)
      ·
        have J85 : ∀  (H : Heap) (locs : List Loc) (ls : Array Slot), (¬ jm_forb (u 6 (ix (jm_presentOf u n))) url = 0) → jx_H D 22 ad (jm_cell ad cA u) A s.heap H locs → lv_has ls 7 [(0, .ref (ad 0))] → W p l e (jr 7) s m args below meth c H locs 0 0 Q (F0 m 85 ls []) := by
          intro  H locs ls hfb hh hl
          refine lv_bipush (v := -6) hx hb d_M_rewrite_85 (by decide) ?_
          exact jx_iret (r := (-6)) hc hh hQ hlk hr rfl rfl ⟨by rw [show jm_rewrite u n url state push = (-6, u) from by unfold jm_rewrite; rw [if_neg h8, if_neg h19, if_neg hfb]], by rw [show jm_rewrite u n url state push = (-6, u) from by unfold jm_rewrite; rw [if_neg h8, if_neg h19, if_neg hfb]]⟩ d_M_rewrite_87
        refine J85 _ _ _ (by first | (simp [jm_forb, h43, h49]; done) | (simp [jm_forb, h43, eq_true h49]; done)) ?_ ?_
        ·
          exact hh
        exact lv_sub hl [2] rfl
      refine lv_iload hx hb d_M_rewrite_52 (lv_at hl 0 rfl) ?_
      refine lv_bipush (v := 64) hx hb d_M_rewrite_54 (by decide) ?_
      refine lv_idiv hx hb d_M_rewrite_56 (by decide) ?_
      refine lv_iload_n hx hb d_M_rewrite_57 rfl (lv_at hl 4 rfl) ?_
      refine lv_bipush (v := 64) hx hb d_M_rewrite_58 (by decide) ?_
      refine lv_idiv hx hb d_M_rewrite_60 (by decide) ?_
      refine lv_icmp_ne (tgt := 85) hx hb d_M_rewrite_61 rfl (fun h61 => ?_) (fun h61 => ?_)
      ·
        have J85 : ∀  (H : Heap) (locs : List Loc) (ls : Array Slot), (¬ jm_forb (u 6 (ix (jm_presentOf u n))) url = 0) → jx_H D 22 ad (jm_cell ad cA u) A s.heap H locs → lv_has ls 7 [(0, .ref (ad 0))] → W p l e (jr 7) s m args below meth c H locs 0 0 Q (F0 m 85 ls []) := by
          intro  H locs ls hfb hh hl
          refine lv_bipush (v := -6) hx hb d_M_rewrite_85 (by decide) ?_
          exact jx_iret (r := (-6)) hc hh hQ hlk hr rfl rfl ⟨by rw [show jm_rewrite u n url state push = (-6, u) from by unfold jm_rewrite; rw [if_neg h8, if_neg h19, if_neg hfb]], by rw [show jm_rewrite u n url state push = (-6, u) from by unfold jm_rewrite; rw [if_neg h8, if_neg h19, if_neg hfb]]⟩ d_M_rewrite_87
        refine J85 _ _ _ (by simp [jm_forb, h43, h49, h61]) ?_ ?_
        ·
          exact hh
        exact lv_sub hl [2] rfl
      refine lv_iload hx hb d_M_rewrite_64 (lv_at hl 0 rfl) ?_
      refine lv_bipush (v := 64) hx hb d_M_rewrite_66 (by decide) ?_
      refine lv_idiv hx hb d_M_rewrite_68 (by decide) ?_
      refine lv_iconst (v := 3) hx hb d_M_rewrite_69 (by decide) ?_
      refine lv_icmp_ne (tgt := 88) hx hb d_M_rewrite_70 rfl (fun h70 => ?_) (fun h70 => ?_)
      ·
        have J88 : ∀  (H : Heap) (locs : List Loc) (ls : Array Slot), (jm_forb (u 6 (ix (jm_presentOf u n))) url = 0) → jx_H D 22 ad (jm_cell ad cA u) A s.heap H locs → lv_has ls 7 [(0, .ref (ad 0)), (1, .int n), (2, .int url), (3, .int state), (4, .int push), (5, .int (jm_presentOf u n)), (6, .int (u 6 (ix (jm_presentOf u n))))] → W p l e (jr 7) s m args below meth c H locs 0 0 Q (F0 m 88 ls []) := by
          intro  H locs ls hfb hh hl
          refine lv_aload_n hx hb d_M_rewrite_88 rfl (lv_at hl 0 rfl) ?_
          refine lv_iload hx hb d_M_rewrite_89 (lv_at hl 4 rfl) ?_
          refine jx_callV [.int push] [] hc hh (m_full l D aK ad cA u push) wy_M_149 ⟨by decide, rfl, rfl⟩ (by decide) rfl hl.1 rfl (by decide) ⟨Nat.zero_le _, Nat.zero_le _⟩ d_M_rewrite_91 (fun r u9 H locs hp hh _ _ => ?_)
          rw [hp.2] at hh
          refine W.eq (g2 := F0 m 94 ls [.int (jm_full u push)]) (by rw [hp.1]; rfl) ?_
          refine lv_if_eq (tgt := 100) hx hb d_M_rewrite_94 rfl (fun h94 => ?_) (fun h94 => ?_)
          ·
            refine lv_aload_n hx hb d_M_rewrite_100 rfl (lv_at hl 0 rfl) ?_
            refine lv_iload_n hx hb d_M_rewrite_101 rfl (lv_at hl 1 rfl) ?_
            refine lv_iload_n hx hb d_M_rewrite_102 rfl (lv_at hl 2 rfl) ?_
            refine lv_iconst (v := -1) hx hb d_M_rewrite_103 (by decide) ?_
            refine lv_icmp_ne (tgt := 112) hx hb d_M_rewrite_104 rfl (fun h104 => ?_) (fun h104 => ?_)
            ·
              refine lv_iload_n hx hb d_M_rewrite_112 rfl (lv_at hl 2 rfl) ?_
              have J113 : ∀  (ls : Array Slot), lv_has ls 7 [(0, .ref (ad 0)), (3, .int state), (4, .int push), (5, .int (jm_presentOf u n))] → W p l e (jr 7) s m args below meth c H locs 0 0 Q (F0 m 113 ls [.int (if url = -1 then (u 6 (ix (jm_presentOf u n))) else url), .int n, .ref (ad 0)]) := by
                intro  ls hl
                refine lv_iload_n hx hb d_M_rewrite_113 rfl (lv_at hl 1 rfl) ?_
                refine lv_iload hx hb d_M_rewrite_114 (lv_at hl 2 rfl) ?_
                refine lv_aload_n hx hb d_M_rewrite_116 rfl (lv_at hl 0 rfl) ?_
                refine jg_M hc hh 8 (by decide) rfl wf_M_35 d_M_rewrite_117 ?_
                refine lv_iload hx hb d_M_rewrite_120 (lv_at hl 3 rfl) ?_
                refine jm_ild hc hh 8 (by decide) (by decide) jm_pr_ex d_M_rewrite_122 ?_
                refine jx_callV [.int n, .int (if url = -1 then (u 6 (ix (jm_presentOf u n))) else url), .int state, .int push, .int (u 8 (ix (jm_presentOf u n)))] [] hc hh (m_enter l D aK ad cA u n (if url = -1 then (u 6 (ix (jm_presentOf u n))) else url) state push (u 8 (ix (jm_presentOf u n))) hS (jm_shown_ex h19) (jm_rwq (jm_btw_ub h8) hold) (Or.inr (jm_Spx hS jm_pr_ex)) hn) wy_M_159 ⟨by decide, rfl, rfl⟩ (by decide) rfl hl.1 rfl (by decide) ⟨Nat.zero_le _, Nat.zero_le _⟩ d_M_rewrite_123 (fun r u9 H locs hp hh _ _ => ?_)
                rw [hp.2] at hh
                refine W.eq (g2 := F0 m 126 ls []) rfl ?_
                refine lv_aload_n hx hb d_M_rewrite_126 rfl (lv_at hl 0 rfl) ?_
                refine jg_M hc hh 21 (by decide) rfl wf_M_130 d_M_rewrite_127 ?_
                exact jx_iret (r := ((jm_enter u n (if url = -1 then (u 6 (ix (jm_presentOf u n))) else url) state push (u 8 (ix (jm_presentOf u n)))) 21 0)) hc hh hQ hlk hr rfl rfl ⟨by unfold jm_rewrite; rw [if_neg h8, if_neg h19, if_pos hfb, if_pos h94]; rfl, by unfold jm_rewrite; rw [if_neg h8, if_neg h19, if_pos hfb, if_pos h94]; rfl⟩ d_M_rewrite_130
              have e3 : (if url = -1 then (u 6 (ix (jm_presentOf u n))) else url) = url := by simp [h104]
              refine W.eq (g2 := F0 m 113 ls [.int (if url = -1 then (u 6 (ix (jm_presentOf u n))) else url), .int n, .ref (ad 0)]) (by first | (rw [e3]; done) | (rw [e3]; rfl)) ?_
              refine J113 _ ?_
              exact lv_sub hl [0, 3, 4, 5] rfl
            refine lv_iload hx hb d_M_rewrite_107 (lv_at hl 6 rfl) ?_
            refine lv_goto (tgt := 113) hx hb d_M_rewrite_109 rfl ?_
            have J113 : ∀  (ls : Array Slot), lv_has ls 7 [(0, .ref (ad 0)), (3, .int state), (4, .int push), (5, .int (jm_presentOf u n))] → W p l e (jr 7) s m args below meth c H locs 0 0 Q (F0 m 113 ls [.int (if url = -1 then (u 6 (ix (jm_presentOf u n))) else url), .int n, .ref (ad 0)]) := by
              intro  ls hl
              refine lv_iload_n hx hb d_M_rewrite_113 rfl (lv_at hl 1 rfl) ?_
              refine lv_iload hx hb d_M_rewrite_114 (lv_at hl 2 rfl) ?_
              refine lv_aload_n hx hb d_M_rewrite_116 rfl (lv_at hl 0 rfl) ?_
              refine jg_M hc hh 8 (by decide) rfl wf_M_35 d_M_rewrite_117 ?_
              refine lv_iload hx hb d_M_rewrite_120 (lv_at hl 3 rfl) ?_
              refine jm_ild hc hh 8 (by decide) (by decide) jm_pr_ex d_M_rewrite_122 ?_
              refine jx_callV [.int n, .int (if url = -1 then (u 6 (ix (jm_presentOf u n))) else url), .int state, .int push, .int (u 8 (ix (jm_presentOf u n)))] [] hc hh (m_enter l D aK ad cA u n (if url = -1 then (u 6 (ix (jm_presentOf u n))) else url) state push (u 8 (ix (jm_presentOf u n))) hS (jm_shown_ex h19) (jm_rwq (jm_btw_ub h8) hold) (Or.inr (jm_Spx hS jm_pr_ex)) hn) wy_M_159 ⟨by decide, rfl, rfl⟩ (by decide) rfl hl.1 rfl (by decide) ⟨Nat.zero_le _, Nat.zero_le _⟩ d_M_rewrite_123 (fun r u9 H locs hp hh _ _ => ?_)
              rw [hp.2] at hh
              refine W.eq (g2 := F0 m 126 ls []) rfl ?_
              refine lv_aload_n hx hb d_M_rewrite_126 rfl (lv_at hl 0 rfl) ?_
              refine jg_M hc hh 21 (by decide) rfl wf_M_130 d_M_rewrite_127 ?_
              exact jx_iret (r := ((jm_enter u n (if url = -1 then (u 6 (ix (jm_presentOf u n))) else url) state push (u 8 (ix (jm_presentOf u n)))) 21 0)) hc hh hQ hlk hr rfl rfl ⟨by unfold jm_rewrite; rw [if_neg h8, if_neg h19, if_pos hfb, if_pos h94]; rfl, by unfold jm_rewrite; rw [if_neg h8, if_neg h19, if_pos hfb, if_pos h94]; rfl⟩ d_M_rewrite_130
            have e4 : (if url = -1 then (u 6 (ix (jm_presentOf u n))) else url) = (u 6 (ix (jm_presentOf u n))) := by simp [h104]
            refine W.eq (g2 := F0 m 113 ls [.int (if url = -1 then (u 6 (ix (jm_presentOf u n))) else url), .int n, .ref (ad 0)]) (by first | (rw [e4]; done) | (rw [e4]; rfl)) ?_
            refine J113 _ ?_
            exact lv_sub hl [0, 3, 4, 5] rfl
          refine lv_bipush (v := -5) hx hb d_M_rewrite_97 (by decide) ?_
          exact jx_iret (r := (-5)) hc hh hQ hlk hr rfl rfl ⟨by rw [show jm_rewrite u n url state push = (-5, u) from by unfold jm_rewrite; rw [if_neg h8, if_neg h19, if_pos hfb, if_neg h94]], by rw [show jm_rewrite u n url state push = (-5, u) from by unfold jm_rewrite; rw [if_neg h8, if_neg h19, if_pos hfb, if_neg h94]]⟩ d_M_rewrite_99
        refine J88 _ _ _ (by first | (simp [jm_forb, h43, h49, h61, h70]; done) | (simp [jm_forb, h43, h49, eq_true h61, h70]; done)) ?_ ?_
        ·
          exact hh
        exact lv_sub hl [2, 3, 4, 5, 6, 1, 0] rfl
      refine lv_iload hx hb d_M_rewrite_73 (lv_at hl 0 rfl) ?_
      refine lv_bipush (v := 8) hx hb d_M_rewrite_75 (by decide) ?_
      refine lv_idiv hx hb d_M_rewrite_77 (by decide) ?_
      refine lv_iload_n hx hb d_M_rewrite_78 rfl (lv_at hl 4 rfl) ?_
      refine lv_bipush (v := 8) hx hb d_M_rewrite_79 (by decide) ?_
      refine lv_idiv hx hb d_M_rewrite_81 (by decide) ?_
      refine lv_icmp_eq (tgt := 88) hx hb d_M_rewrite_82 rfl (fun h82 => ?_) (fun h82 => ?_)
      ·
        have J88 : ∀  (H : Heap) (locs : List Loc) (ls : Array Slot), (jm_forb (u 6 (ix (jm_presentOf u n))) url = 0) → jx_H D 22 ad (jm_cell ad cA u) A s.heap H locs → lv_has ls 7 [(0, .ref (ad 0)), (1, .int n), (2, .int url), (3, .int state), (4, .int push), (5, .int (jm_presentOf u n)), (6, .int (u 6 (ix (jm_presentOf u n))))] → W p l e (jr 7) s m args below meth c H locs 0 0 Q (F0 m 88 ls []) := by
          intro  H locs ls hfb hh hl
          refine lv_aload_n hx hb d_M_rewrite_88 rfl (lv_at hl 0 rfl) ?_
          refine lv_iload hx hb d_M_rewrite_89 (lv_at hl 4 rfl) ?_
          refine jx_callV [.int push] [] hc hh (m_full l D aK ad cA u push) wy_M_149 ⟨by decide, rfl, rfl⟩ (by decide) rfl hl.1 rfl (by decide) ⟨Nat.zero_le _, Nat.zero_le _⟩ d_M_rewrite_91 (fun r u9 H locs hp hh _ _ => ?_)
          rw [hp.2] at hh
          refine W.eq (g2 := F0 m 94 ls [.int (jm_full u push)]) (by rw [hp.1]; rfl) ?_
          refine lv_if_eq (tgt := 100) hx hb d_M_rewrite_94 rfl (fun h94 => ?_) (fun h94 => ?_)
          ·
            refine lv_aload_n hx hb d_M_rewrite_100 rfl (lv_at hl 0 rfl) ?_
            refine lv_iload_n hx hb d_M_rewrite_101 rfl (lv_at hl 1 rfl) ?_
            refine lv_iload_n hx hb d_M_rewrite_102 rfl (lv_at hl 2 rfl) ?_
            refine lv_iconst (v := -1) hx hb d_M_rewrite_103 (by decide) ?_
            refine lv_icmp_ne (tgt := 112) hx hb d_M_rewrite_104 rfl (fun h104 => ?_) (fun h104 => ?_)
            ·
              refine lv_iload_n hx hb d_M_rewrite_112 rfl (lv_at hl 2 rfl) ?_
              have J113 : ∀  (ls : Array Slot), lv_has ls 7 [(0, .ref (ad 0)), (3, .int state), (4, .int push), (5, .int (jm_presentOf u n))] → W p l e (jr 7) s m args below meth c H locs 0 0 Q (F0 m 113 ls [.int (if url = -1 then (u 6 (ix (jm_presentOf u n))) else url), .int n, .ref (ad 0)]) := by
                intro  ls hl
                refine lv_iload_n hx hb d_M_rewrite_113 rfl (lv_at hl 1 rfl) ?_
                refine lv_iload hx hb d_M_rewrite_114 (lv_at hl 2 rfl) ?_
                refine lv_aload_n hx hb d_M_rewrite_116 rfl (lv_at hl 0 rfl) ?_
                refine jg_M hc hh 8 (by decide) rfl wf_M_35 d_M_rewrite_117 ?_
                refine lv_iload hx hb d_M_rewrite_120 (lv_at hl 3 rfl) ?_
                refine jm_ild hc hh 8 (by decide) (by decide) jm_pr_ex d_M_rewrite_122 ?_
                refine jx_callV [.int n, .int (if url = -1 then (u 6 (ix (jm_presentOf u n))) else url), .int state, .int push, .int (u 8 (ix (jm_presentOf u n)))] [] hc hh (m_enter l D aK ad cA u n (if url = -1 then (u 6 (ix (jm_presentOf u n))) else url) state push (u 8 (ix (jm_presentOf u n))) hS (jm_shown_ex h19) (jm_rwq (jm_btw_ub h8) hold) (Or.inr (jm_Spx hS jm_pr_ex)) hn) wy_M_159 ⟨by decide, rfl, rfl⟩ (by decide) rfl hl.1 rfl (by decide) ⟨Nat.zero_le _, Nat.zero_le _⟩ d_M_rewrite_123 (fun r u9 H locs hp hh _ _ => ?_)
                rw [hp.2] at hh
                refine W.eq (g2 := F0 m 126 ls []) rfl ?_
                refine lv_aload_n hx hb d_M_rewrite_126 rfl (lv_at hl 0 rfl) ?_
                refine jg_M hc hh 21 (by decide) rfl wf_M_130 d_M_rewrite_127 ?_
                exact jx_iret (r := ((jm_enter u n (if url = -1 then (u 6 (ix (jm_presentOf u n))) else url) state push (u 8 (ix (jm_presentOf u n)))) 21 0)) hc hh hQ hlk hr rfl rfl ⟨by unfold jm_rewrite; rw [if_neg h8, if_neg h19, if_pos hfb, if_pos h94]; rfl, by unfold jm_rewrite; rw [if_neg h8, if_neg h19, if_pos hfb, if_pos h94]; rfl⟩ d_M_rewrite_130
              have e5 : (if url = -1 then (u 6 (ix (jm_presentOf u n))) else url) = url := by simp [h104]
              refine W.eq (g2 := F0 m 113 ls [.int (if url = -1 then (u 6 (ix (jm_presentOf u n))) else url), .int n, .ref (ad 0)]) (by first | (rw [e5]; done) | (rw [e5]; rfl)) ?_
              refine J113 _ ?_
              exact lv_sub hl [0, 3, 4, 5] rfl
            refine lv_iload hx hb d_M_rewrite_107 (lv_at hl 6 rfl) ?_
            refine lv_goto (tgt := 113) hx hb d_M_rewrite_109 rfl ?_
            have J113 : ∀  (ls : Array Slot), lv_has ls 7 [(0, .ref (ad 0)), (3, .int state), (4, .int push), (5, .int (jm_presentOf u n))] → W p l e (jr 7) s m args below meth c H locs 0 0 Q (F0 m 113 ls [.int (if url = -1 then (u 6 (ix (jm_presentOf u n))) else url), .int n, .ref (ad 0)]) := by
              intro  ls hl
              refine lv_iload_n hx hb d_M_rewrite_113 rfl (lv_at hl 1 rfl) ?_
              refine lv_iload hx hb d_M_rewrite_114 (lv_at hl 2 rfl) ?_
              refine lv_aload_n hx hb d_M_rewrite_116 rfl (lv_at hl 0 rfl) ?_
              refine jg_M hc hh 8 (by decide) rfl wf_M_35 d_M_rewrite_117 ?_
              refine lv_iload hx hb d_M_rewrite_120 (lv_at hl 3 rfl) ?_
              refine jm_ild hc hh 8 (by decide) (by decide) jm_pr_ex d_M_rewrite_122 ?_
              refine jx_callV [.int n, .int (if url = -1 then (u 6 (ix (jm_presentOf u n))) else url), .int state, .int push, .int (u 8 (ix (jm_presentOf u n)))] [] hc hh (m_enter l D aK ad cA u n (if url = -1 then (u 6 (ix (jm_presentOf u n))) else url) state push (u 8 (ix (jm_presentOf u n))) hS (jm_shown_ex h19) (jm_rwq (jm_btw_ub h8) hold) (Or.inr (jm_Spx hS jm_pr_ex)) hn) wy_M_159 ⟨by decide, rfl, rfl⟩ (by decide) rfl hl.1 rfl (by decide) ⟨Nat.zero_le _, Nat.zero_le _⟩ d_M_rewrite_123 (fun r u9 H locs hp hh _ _ => ?_)
              rw [hp.2] at hh
              refine W.eq (g2 := F0 m 126 ls []) rfl ?_
              refine lv_aload_n hx hb d_M_rewrite_126 rfl (lv_at hl 0 rfl) ?_
              refine jg_M hc hh 21 (by decide) rfl wf_M_130 d_M_rewrite_127 ?_
              exact jx_iret (r := ((jm_enter u n (if url = -1 then (u 6 (ix (jm_presentOf u n))) else url) state push (u 8 (ix (jm_presentOf u n)))) 21 0)) hc hh hQ hlk hr rfl rfl ⟨by unfold jm_rewrite; rw [if_neg h8, if_neg h19, if_pos hfb, if_pos h94]; rfl, by unfold jm_rewrite; rw [if_neg h8, if_neg h19, if_pos hfb, if_pos h94]; rfl⟩ d_M_rewrite_130
            have e6 : (if url = -1 then (u 6 (ix (jm_presentOf u n))) else url) = (u 6 (ix (jm_presentOf u n))) := by simp [h104]
            refine W.eq (g2 := F0 m 113 ls [.int (if url = -1 then (u 6 (ix (jm_presentOf u n))) else url), .int n, .ref (ad 0)]) (by first | (rw [e6]; done) | (rw [e6]; rfl)) ?_
            refine J113 _ ?_
            exact lv_sub hl [0, 3, 4, 5] rfl
          refine lv_bipush (v := -5) hx hb d_M_rewrite_97 (by decide) ?_
          exact jx_iret (r := (-5)) hc hh hQ hlk hr rfl rfl ⟨by rw [show jm_rewrite u n url state push = (-5, u) from by unfold jm_rewrite; rw [if_neg h8, if_neg h19, if_pos hfb, if_neg h94]], by rw [show jm_rewrite u n url state push = (-5, u) from by unfold jm_rewrite; rw [if_neg h8, if_neg h19, if_pos hfb, if_neg h94]]⟩ d_M_rewrite_99
        refine J88 _ _ _ (by first | (simp [jm_forb, h43, h49, h61, h70, h82]; done) | (simp [jm_forb, h43, h49, eq_true h61, eq_true h70, eq_true h82]; done)) ?_ ?_
        ·
          exact hh
        exact lv_sub hl [2, 3, 4, 5, 6, 1, 0] rfl
      have J85 : ∀  (H : Heap) (locs : List Loc) (ls : Array Slot), (¬ jm_forb (u 6 (ix (jm_presentOf u n))) url = 0) → jx_H D 22 ad (jm_cell ad cA u) A s.heap H locs → lv_has ls 7 [(0, .ref (ad 0))] → W p l e (jr 7) s m args below meth c H locs 0 0 Q (F0 m 85 ls []) := by
        intro  H locs ls hfb hh hl
        refine lv_bipush (v := -6) hx hb d_M_rewrite_85 (by decide) ?_
        exact jx_iret (r := (-6)) hc hh hQ hlk hr rfl rfl ⟨by rw [show jm_rewrite u n url state push = (-6, u) from by unfold jm_rewrite; rw [if_neg h8, if_neg h19, if_neg hfb]], by rw [show jm_rewrite u n url state push = (-6, u) from by unfold jm_rewrite; rw [if_neg h8, if_neg h19, if_neg hfb]]⟩ d_M_rewrite_87
      refine J85 _ _ _ (by first | (simp [jm_forb, h43, h49, h61, h70, h82]; done) | (simp [jm_forb, h43, h49, eq_true h61, eq_true h70, h82]; done)) ?_ ?_
      ·
        exact hh
      exact lv_sub hl [2] rfl
    refine lv_bipush (v := -4) hx hb d_M_rewrite_22 (by decide) ?_
    exact jx_iret (r := (-4)) hc hh hQ hlk hr rfl rfl ⟨by simp [jm_rewrite, h8, h19], by simp [jm_rewrite, h8, h19]⟩ d_M_rewrite_24
  refine lv_bipush (v := -3) hx hb d_M_rewrite_11 (by decide) ?_
  exact jx_iret (r := (-3)) hc hh hQ hlk hr rfl rfl ⟨by simp [jm_rewrite, h8], by simp [jm_rewrite, h8]⟩ d_M_rewrite_13
set_option maxHeartbeats 4000000 in
set_option maxRecDepth 100000 in
theorem m_detach (l : Launch) (D : va_G) (aK ad : Nat → Nat) (cA : Nat → ClassId) (u : js_S) (n : Int32) (hS : jm_Sh u) (hab : ¬ n = 0 → ¬ jm_isShown u n = 0 → ∃ j, j < 48 ∧ (u 16 (ix n)) = nI j) (hn : jm_Nw u) : jx_M l y_M_detach b_M_detach 3 (some .int) (jr 5) D (jc_tys cA) aK 22 ad (jm_cell ad cA) [.ref (ad 0), .int n] u (fun r : Int32 => some (.int r)) (fun r u' => r = (jm_detach u n).1 ∧ u' = (jm_detach u n).2) := by
  refine jx_enter "JointHistoryModel" (by decide) rfl (by simp [lg_sl, vc_int, vc_ref, vc_long, jv_cat]) ?_
  intro p e s m args below meth c A Q H locs ls hQ hc hh hr hlk hl
  have hx := hc.1
  have hb := hc.2.1
  have hl : lv_has ls 3 [(0, .ref (ad 0)), (1, .int n)] := by simpa [lv_args, vc_int, vc_ref, vc_long, jv_cat] using hl
  refine lv_iload_n hx hb d_M_detach_0 rfl (lv_at hl 1 rfl) ?_
  refine lv_if_ne (tgt := 7) hx hb d_M_detach_1 rfl (fun h1 => ?_) (fun h1 => ?_)
  ·
    refine lv_aload_n hx hb d_M_detach_7 rfl (lv_at hl 0 rfl) ?_
    refine lv_iload_n hx hb d_M_detach_8 rfl (lv_at hl 1 rfl) ?_
    refine jx_callV [.int n] [] hc hh (m_isShown l D aK ad cA u n) wy_M_146 ⟨by decide, rfl, rfl⟩ (by decide) rfl hl.1 rfl (by decide) ⟨Nat.zero_le _, Nat.zero_le _⟩ d_M_detach_9 (fun r u9 H locs hp hh _ _ => ?_)
    rw [hp.2] at hh
    refine W.eq (g2 := F0 m 12 ls [.int (jm_isShown u n)]) (by rw [hp.1]; rfl) ?_
    refine lv_if_ne (tgt := 18) hx hb d_M_detach_12 rfl (fun h12 => ?_) (fun h12 => ?_)
    ·
      refine lv_aload_n hx hb d_M_detach_18 rfl (lv_at hl 0 rfl) ?_
      refine jg_M hc hh 16 (by decide) rfl wf_M_59 d_M_detach_19 ?_
      refine lv_iload_n hx hb d_M_detach_22 rfl (lv_at hl 1 rfl) ?_
      refine jm_ild hc hh 16 (by decide) (by decide) (jm_shown_ex h12) d_M_detach_23 ?_
      refine lv_istore_n (i := 2) (lv' := [(2, .int (u 16 (ix n))), (0, .ref (ad 0)), (1, .int n)]) hx hb d_M_detach_24 rfl hl (by decide) rfl (fun ls hl => ?_)
      refine lv_aload_n hx hb d_M_detach_25 rfl (lv_at hl 1 rfl) ?_
      refine jg_M hc hh 13 (by decide) rfl wf_M_50 d_M_detach_26 ?_
      refine lv_iload_n hx hb d_M_detach_29 rfl (lv_at hl 0 rfl) ?_
      refine jm_ild hc hh 13 (by decide) (by decide) (hab h1 h12) d_M_detach_30 ?_
      refine lv_iload_n hx hb d_M_detach_31 rfl (lv_at hl 2 rfl) ?_
      refine lv_icmp_ne (tgt := 47) hx hb d_M_detach_32 rfl (fun h32 => ?_) (fun h32 => ?_)
      ·
        have J47 : ∀  (H : Heap) (locs : List Loc) (ls : Array Slot), jx_H D 22 ad (jm_cell ad cA (jm_tk1 u n (u 16 (ix n)))) A s.heap H locs → lv_has ls 3 [(0, .ref (ad 0)), (1, .int n), (2, .int (u 16 (ix n)))] → W p l e (jr 5) s m args below meth c H locs 0 0 Q (F0 m 47 ls []) := by
          intro  H locs ls hh hl
          refine lv_aload_n hx hb d_M_detach_47 rfl (lv_at hl 0 rfl) ?_
          refine jg_M hc hh 14 (by decide) rfl wf_M_53 d_M_detach_48 ?_
          refine lv_iload_n hx hb d_M_detach_51 rfl (lv_at hl 2 rfl) ?_
          refine lv_iconst (v := -1) hx hb d_M_detach_52 (by decide) ?_
          refine jm_ist hc hh 14 (by decide) (by decide) (hab h1 h12) d_M_detach_53 (fun H locs hh => ?_)
          have J54 : ∀  (H : Heap) (locs : List Loc) (ls : Array Slot), jx_H D 22 ad (jm_cell ad cA (jm_tk u n)) A s.heap H locs → lv_has ls 3 [(0, .ref (ad 0))] → W p l e (jr 5) s m args below meth c H locs 0 0 Q (F0 m 54 ls []) := by
            intro  H locs ls hh hl
            refine lv_aload_n hx hb d_M_detach_54 rfl (lv_at hl 0 rfl) ?_
            refine jx_callV [] [] hc hh (m_mark l D aK ad cA (jm_tk u n) (jm_Sh_14 (jm_tk1_Sh hS (hab h1 h12)) jq_m1)) wy_M_82 ⟨by decide, rfl, rfl⟩ (by decide) rfl hl.1 rfl (by decide) ⟨Nat.zero_le _, Nat.zero_le _⟩ d_M_detach_55 (fun r u9 H locs hp hh _ _ => ?_)
            rw [hp.2] at hh
            refine W.eq (g2 := F0 m 58 ls []) rfl ?_
            refine lv_aload_n hx hb d_M_detach_58 rfl (lv_at hl 0 rfl) ?_
            refine jx_callV [] [] hc hh (m_settle l D aK ad cA (jm_mark (jm_tk u n)) (jm_Sh_mark (jm_Sh_14 (jm_tk1_Sh hS (hab h1 h12)) jq_m1)) (by rw [jm_mark_21]; unfold jm_tk; rw [js_up_f (by decide), jm_tk1_21]; exact jm_Nw_k hn)) wy_M_143 ⟨by decide, rfl, rfl⟩ (by decide) rfl hl.1 rfl (by decide) ⟨Nat.zero_le _, Nat.zero_le _⟩ d_M_detach_59 (fun r u9 H locs hp hh _ _ => ?_)
            rw [hp.2] at hh
            refine W.eq (g2 := F0 m 62 ls []) rfl ?_
            refine lv_aload_n hx hb d_M_detach_62 rfl (lv_at hl 0 rfl) ?_
            refine jg_M hc hh 21 (by decide) rfl wf_M_130 d_M_detach_63 ?_
            exact jx_iret (r := ((jm_settle (jm_mark (jm_tk u n))) 21 0)) hc hh hQ hlk hr rfl rfl ⟨by simp [jm_detach, h1, h12], by simp [jm_detach, h1, h12]⟩ d_M_detach_66
          have e1 : (jm_tk u n) = (js_up (jm_tk1 u n (u 16 (ix n))) 14 (ix (u 16 (ix n))) (-1)) := rfl
          refine J54 _ _ _ ?_ ?_
          ·
            try rw [e1]
            exact hh
          try rw [e1]
          exact lv_sub hl [0] rfl
        have e2 : (jm_tk1 u n (u 16 (ix n))) = u := by simp [jm_tk1, h1, h12, h32]
        refine J47 _ _ _ ?_ ?_
        ·
          try rw [e2]
          exact hh
        try rw [e2]
        exact lv_sub hl [1, 2, 0] rfl
      refine lv_aload_n hx hb d_M_detach_35 rfl (lv_at hl 1 rfl) ?_
      refine jg_M hc hh 13 (by decide) rfl wf_M_50 d_M_detach_36 ?_
      refine lv_iload_n hx hb d_M_detach_39 rfl (lv_at hl 0 rfl) ?_
      refine lv_aload_n hx hb d_M_detach_40 rfl (lv_at hl 1 rfl) ?_
      refine jg_M hc hh 14 (by decide) rfl wf_M_53 d_M_detach_41 ?_
      refine lv_iload_n hx hb d_M_detach_44 rfl (lv_at hl 0 rfl) ?_
      refine jm_ild hc hh 14 (by decide) (by decide) (hab h1 h12) d_M_detach_45 ?_
      refine jm_ist hc hh 13 (by decide) (by decide) (hab h1 h12) d_M_detach_46 (fun H locs hh => ?_)
      have J47 : ∀  (H : Heap) (locs : List Loc) (ls : Array Slot), jx_H D 22 ad (jm_cell ad cA (jm_tk1 u n (u 16 (ix n)))) A s.heap H locs → lv_has ls 3 [(0, .ref (ad 0)), (1, .int n), (2, .int (u 16 (ix n)))] → W p l e (jr 5) s m args below meth c H locs 0 0 Q (F0 m 47 ls []) := by
        intro  H locs ls hh hl
        refine lv_aload_n hx hb d_M_detach_47 rfl (lv_at hl 0 rfl) ?_
        refine jg_M hc hh 14 (by decide) rfl wf_M_53 d_M_detach_48 ?_
        refine lv_iload_n hx hb d_M_detach_51 rfl (lv_at hl 2 rfl) ?_
        refine lv_iconst (v := -1) hx hb d_M_detach_52 (by decide) ?_
        refine jm_ist hc hh 14 (by decide) (by decide) (hab h1 h12) d_M_detach_53 (fun H locs hh => ?_)
        have J54 : ∀  (H : Heap) (locs : List Loc) (ls : Array Slot), jx_H D 22 ad (jm_cell ad cA (jm_tk u n)) A s.heap H locs → lv_has ls 3 [(0, .ref (ad 0))] → W p l e (jr 5) s m args below meth c H locs 0 0 Q (F0 m 54 ls []) := by
          intro  H locs ls hh hl
          refine lv_aload_n hx hb d_M_detach_54 rfl (lv_at hl 0 rfl) ?_
          refine jx_callV [] [] hc hh (m_mark l D aK ad cA (jm_tk u n) (jm_Sh_14 (jm_tk1_Sh hS (hab h1 h12)) jq_m1)) wy_M_82 ⟨by decide, rfl, rfl⟩ (by decide) rfl hl.1 rfl (by decide) ⟨Nat.zero_le _, Nat.zero_le _⟩ d_M_detach_55 (fun r u9 H locs hp hh _ _ => ?_)
          rw [hp.2] at hh
          refine W.eq (g2 := F0 m 58 ls []) rfl ?_
          refine lv_aload_n hx hb d_M_detach_58 rfl (lv_at hl 0 rfl) ?_
          refine jx_callV [] [] hc hh (m_settle l D aK ad cA (jm_mark (jm_tk u n)) (jm_Sh_mark (jm_Sh_14 (jm_tk1_Sh hS (hab h1 h12)) jq_m1)) (by rw [jm_mark_21]; unfold jm_tk; rw [js_up_f (by decide), jm_tk1_21]; exact jm_Nw_k hn)) wy_M_143 ⟨by decide, rfl, rfl⟩ (by decide) rfl hl.1 rfl (by decide) ⟨Nat.zero_le _, Nat.zero_le _⟩ d_M_detach_59 (fun r u9 H locs hp hh _ _ => ?_)
          rw [hp.2] at hh
          refine W.eq (g2 := F0 m 62 ls []) rfl ?_
          refine lv_aload_n hx hb d_M_detach_62 rfl (lv_at hl 0 rfl) ?_
          refine jg_M hc hh 21 (by decide) rfl wf_M_130 d_M_detach_63 ?_
          exact jx_iret (r := ((jm_settle (jm_mark (jm_tk u n))) 21 0)) hc hh hQ hlk hr rfl rfl ⟨by simp [jm_detach, h1, h12], by simp [jm_detach, h1, h12]⟩ d_M_detach_66
        have e3 : (jm_tk u n) = (js_up (jm_tk1 u n (u 16 (ix n))) 14 (ix (u 16 (ix n))) (-1)) := rfl
        refine J54 _ _ _ ?_ ?_
        ·
          try rw [e3]
          exact hh
        try rw [e3]
        exact lv_sub hl [0] rfl
      have e4 : (jm_tk1 u n (u 16 (ix n))) = (js_up u 13 (ix (u 16 (ix n))) (u 14 (ix (u 16 (ix n))))) := by first | (simp [jm_tk1, h1, h12, h32]; done) | (simp [jm_tk1, h1, h12, eq_true h32]; done)
      refine J47 _ _ _ ?_ ?_
      ·
        try rw [e4]
        exact hh
      try rw [e4]
      exact lv_sub hl [1, 2, 0] rfl
    refine lv_bipush (v := -4) hx hb d_M_detach_15 (by decide) ?_
    exact jx_iret (r := (-4)) hc hh hQ hlk hr rfl rfl ⟨by first | (simp [jm_detach, h1, h12]; done) | (simp [jm_detach, h1, eq_true h12]; done), by first | (simp [jm_detach, h1, h12]; done) | (simp [jm_detach, h1, eq_true h12]; done)⟩ d_M_detach_17
  refine lv_bipush (v := -3) hx hb d_M_detach_4 (by decide) ?_
  exact jx_iret (r := (-3)) hc hh hQ hlk hr rfl rfl ⟨by first | (simp [jm_detach, h1]; done) | (simp [jm_detach, eq_true h1]; done), by first | (simp [jm_detach, h1]; done) | (simp [jm_detach, eq_true h1]; done)⟩ d_M_detach_6
set_option maxHeartbeats 4000000 in
set_option maxRecDepth 100000 in
theorem m_go (l : Launch) (D : va_G) (aK ad : Nat → Nat) (cA : Nat → ClassId) (u : js_S) (delta : Int32) (hS : jm_Sh u) (hn : jm_Nw u) : jx_M l y_M_go b_M_go 7 (some .int) (jr 5) D (jc_tys cA) aK 22 ad (jm_cell ad cA) [.ref (ad 0), .int delta] u (fun r : Int32 => some (.int r)) (fun r u' => r = (jm_go u delta).1 ∧ u' = (jm_go u delta).2) := by
  refine jx_enter "JointHistoryModel" (by decide) rfl (by simp [lg_sl, vc_int, vc_ref, vc_long, jv_cat]) ?_
  intro p e s m args below meth c A Q H locs ls hQ hc hh hr hlk hl
  have hx := hc.1
  have hb := hc.2.1
  have hl : lv_has ls 7 [(0, .ref (ad 0)), (1, .int delta)] := by simpa [lv_args, vc_int, vc_ref, vc_long, jv_cat] using hl
  obtain ⟨K, hK, eK⟩ := jm_Nw_k hn
  refine lv_lconst (v := 0) hx hb d_M_go_0 (by decide) ?_
  refine lv_lstore_n (i := 2) (lv' := [(2, .long 0), (0, .ref (ad 0)), (1, .int delta)]) hx hb d_M_go_1 rfl hl (by decide) rfl (fun ls hl => ?_)
  refine lv_iconst (v := 0) hx hb d_M_go_2 (by decide) ?_
  refine lv_istore (i := 4) (lv' := [(4, .int 0), (2, .long 0), (0, .ref (ad 0)), (1, .int delta)]) hx hb d_M_go_3 hl (by decide) rfl (fun ls hl => ?_)
  have L5 : ∀ (n : Nat) (k : Nat) (H : Heap) (locs : List Loc) (ls : Array Slot), k + n = K → jx_H D 22 ad (jm_cell ad cA u) A s.heap H locs → lv_has ls 7 [(0, .ref (ad 0)), (1, .int delta), (2, .long (lN (jm_cu u k))), (4, .int (nI k))] → W p l e (jr 5) s m args below meth c H locs 0 0 Q (F0 m 5 ls []) := by
    intro n
    induction n with
    | zero =>
      intro k H locs ls hm hh hl
      have hk9 : k = K := by omega
      refine lv_iload hx hb d_M_go_5 (lv_at hl 3 rfl) ?_
      refine lv_aload_n hx hb d_M_go_7 rfl (lv_at hl 0 rfl) ?_
      refine jg_M hc hh 21 (by decide) rfl wf_M_130 d_M_go_8 ?_
      refine lv_icmp_ge (tgt := 37) hx hb d_M_go_11 rfl (fun h11 => ?_) (fun hq => absurd (by rw [eK]; exact nI_le (show K ≤ k by omega) (show k < 2 ^ 31 by omega)) hq)
      refine lv_aload_n hx hb d_M_go_37 rfl (lv_at hl 0 rfl) ?_
      refine lv_lload_n hx hb d_M_go_38 rfl (lv_at hl 2 rfl) ?_
      refine lv_iload_n hx hb d_M_go_39 rfl (lv_at hl 1 rfl) ?_
      refine lv_i2l hx hb d_M_go_40 rfl ?_
      refine lv_ladd hx hb d_M_go_41 ?_
      refine jx_callV [.long (lN (jm_cu u k) + delta.toInt64)] [] hc hh (m_stepAt l D aK ad cA u (lN (jm_cu u k) + delta.toInt64)) wy_M_163 ⟨by decide, rfl, rfl⟩ (by decide) rfl hl.1 rfl (by decide) ⟨Nat.zero_le _, Nat.zero_le _⟩ d_M_go_42 (fun r u9 H locs hp hh _ _ => ?_)
      rw [hp.2] at hh
      refine W.eq (g2 := F0 m 45 ls [.int (jm_stepAt u (lN (jm_cu u k) + delta.toInt64))]) (by rw [hp.1]; rfl) ?_
      have J45 : ∀ (to : Int32) (H : Heap) (locs : List Loc) (ls : Array Slot), (jm_go u delta = jm_go1 u to) → jx_H D 22 ad (jm_cell ad cA u) A s.heap H locs → lv_has ls 7 [(0, .ref (ad 0))] → W p l e (jr 5) s m args below meth c H locs 0 0 Q (F0 m 45 ls [.int to]) := by
        intro to H locs ls hto hh hl
        refine lv_istore (i := 4) (lv' := [(4, .int to), (0, .ref (ad 0))]) hx hb d_M_go_45 hl (by decide) rfl (fun ls hl => ?_)
        refine lv_iload hx hb d_M_go_47 (lv_at hl 0 rfl) ?_
        refine lv_if_ge (tgt := 55) hx hb d_M_go_49 rfl (fun h49 => ?_) (fun h49 => ?_)
        ·
          refine lv_iconst (v := 0) hx hb d_M_go_55 (by decide) ?_
          refine lv_istore (i := 5) (lv' := [(5, .int 0), (4, .int to), (0, .ref (ad 0))]) hx hb d_M_go_56 hl (by decide) rfl (fun ls hl => ?_)
          have L58 : ∀ (n : Nat) (i : Nat) (H : Heap) (locs : List Loc) (ls : Array Slot), i + n = 48 → jx_H D 22 ad (jm_cell ad cA (jm_g1 u i)) A s.heap H locs → lv_has ls 7 [(0, .ref (ad 0)), (4, .int to), (5, .int (nI i))] → W p l e (jr 5) s m args below meth c H locs 0 0 Q (F0 m 58 ls []) := by
            intro n
            induction n with
            | zero =>
              intro i H locs ls hm hh hl
              have hi : i = 48 := by omega
              refine lv_iload hx hb d_M_go_58 (lv_at hl 2 rfl) ?_
              refine lv_bipush (v := 48) hx hb d_M_go_60 (by decide) ?_
              refine lv_icmp_ge (tgt := 98) hx hb d_M_go_62 rfl (fun h62 => ?_) (fun hq => absurd (nI_le (show 48 ≤ i by omega) (show i < 2 ^ 31 by omega)) hq)
              have J98 : ∀  (H : Heap) (locs : List Loc) (ls : Array Slot), jx_H D 22 ad (jm_cell ad cA (jm_g1 u 48)) A s.heap H locs → lv_has ls 7 [(0, .ref (ad 0)), (4, .int to)] → W p l e (jr 5) s m args below meth c H locs 0 0 Q (F0 m 98 ls []) := by
                intro  H locs ls hh hl
                refine lv_aload_n hx hb d_M_go_98 rfl (lv_at hl 0 rfl) ?_
                refine lv_iload hx hb d_M_go_99 (lv_at hl 1 rfl) ?_
                refine jpm_21 hc hh wf_M_130 d_M_go_101 (fun H locs hh => ?_)
                refine lv_aload_n hx hb d_M_go_104 rfl (lv_at hl 0 rfl) ?_
                refine jx_callV [] [] hc hh (m_mark l D aK ad cA (js_up (jm_g1 u 48) 21 0 to) (jm_g1_Sh hS 48)) wy_M_82 ⟨by decide, rfl, rfl⟩ (by decide) rfl hl.1 rfl (by decide) ⟨Nat.zero_le _, Nat.zero_le _⟩ d_M_go_105 (fun r u9 H locs hp hh _ _ => ?_)
                rw [hp.2] at hh
                refine W.eq (g2 := F0 m 108 ls []) rfl ?_
                refine lv_iconst (v := 0) hx hb d_M_go_108 (by decide) ?_
                refine lv_istore (i := 5) (lv' := [(5, .int 0), (0, .ref (ad 0)), (4, .int to)]) hx hb d_M_go_109 hl (by decide) rfl (fun ls hl => ?_)
                have L111 : ∀ (n : Nat) (i : Nat) (H : Heap) (locs : List Loc) (ls : Array Slot), i + n = 48 → jx_H D 22 ad (jm_cell ad cA (jm_g2 (jm_mark (js_up (jm_g1 u 48) 21 0 to)) i)) A s.heap H locs → lv_has ls 7 [(0, .ref (ad 0)), (5, .int (nI i))] → W p l e (jr 5) s m args below meth c H locs 0 0 Q (F0 m 111 ls []) := by
                  intro n
                  induction n with
                  | zero =>
                    intro i H locs ls hm hh hl
                    have hi : i = 48 := by omega
                    refine lv_iload hx hb d_M_go_111 (lv_at hl 1 rfl) ?_
                    refine lv_bipush (v := 48) hx hb d_M_go_113 (by decide) ?_
                    refine lv_icmp_ge (tgt := 250) hx hb d_M_go_115 rfl (fun h115 => ?_) (fun hq => absurd (nI_le (show 48 ≤ i by omega) (show i < 2 ^ 31 by omega)) hq)
                    refine lv_aload_n hx hb d_M_go_250 rfl (lv_at hl 0 rfl) ?_
                    refine jg_M hc hh 21 (by decide) rfl wf_M_130 d_M_go_251 ?_
                    exact jx_iret (r := ((jm_g2 (jm_mark (js_up (jm_g1 u 48) 21 0 to)) i) 21 0)) hc hh hQ hlk hr rfl rfl ⟨by rw [hto, hi]; simp [jm_go1, jm_go2, h49], by rw [hto, hi]; simp [jm_go1, jm_go2, h49]⟩ d_M_go_254
                  | succ n ih =>
                    intro i H locs ls hm hh hl
                    have hi : i < 48 := by omega
                    refine lv_iload hx hb d_M_go_111 (lv_at hl 1 rfl) ?_
                    refine lv_bipush (v := 48) hx hb d_M_go_113 (by decide) ?_
                    refine lv_icmp_ge (tgt := 250) hx hb d_M_go_115 rfl (fun hq => absurd hq (nI_ge hi (by decide))) (fun h115 => ?_)
                    refine lv_aload_n hx hb d_M_go_118 rfl (lv_at hl 0 rfl) ?_
                    refine jg_M hc hh 17 (by decide) rfl wf_M_62 d_M_go_119 ?_
                    refine lv_iload hx hb d_M_go_122 (lv_at hl 1 rfl) ?_
                    refine jmi_zld hc hh 17 (by decide) (by decide) hi d_M_go_124 ?_
                    refine lv_if_eq (tgt := 137) hx hb d_M_go_125 rfl (fun h125 => ?_) (fun h125 => ?_)
                    ·
                      refine lv_iconst (v := -1) hx hb d_M_go_137 (by decide) ?_
                      have J138 : ∀  (H : Heap) (locs : List Loc) (ls : Array Slot), jx_H D 22 ad (jm_cell ad cA (jm_g2 (jm_mark (js_up (jm_g1 u 48) 21 0 to)) i)) A s.heap H locs → lv_has ls 7 [(0, .ref (ad 0)), (5, .int (nI i))] → W p l e (jr 5) s m args below meth c H locs 0 0 Q (F0 m 138 ls [.int (jm_ge (jm_g2 (jm_mark (js_up (jm_g1 u 48) 21 0 to)) i) i)]) := by
                        intro  H locs ls hh hl
                        refine lv_istore (i := 6) (lv' := [(6, .int (jm_ge (jm_g2 (jm_mark (js_up (jm_g1 u 48) 21 0 to)) i) i)), (0, .ref (ad 0)), (5, .int (nI i))]) hx hb d_M_go_138 hl (by decide) rfl (fun ls hl => ?_)
                        refine lv_iload hx hb d_M_go_140 (lv_at hl 0 rfl) ?_
                        refine lv_if_lt (tgt := 244) hx hb d_M_go_142 rfl (fun h142 => ?_) (fun h142 => ?_)
                        ·
                          refine lv_iinc (k := 2) (v := nI (i + 1)) (lv' := [(5, .int (nI (i + 1))), (6, .int (jm_ge (jm_g2 (jm_mark (js_up (jm_g1 u 48) 21 0 to)) i) i)), (0, .ref (ad 0))]) hx hb d_M_go_244 hl rfl (nI_1 i) (by decide) rfl (fun ls hl => ?_)
                          refine lv_goto (tgt := 111) hx hb d_M_go_247 rfl ?_
                          have e1 : (jm_g2 (jm_mark (js_up (jm_g1 u 48) 21 0 to)) (i + 1)) = (jm_g2 (jm_mark (js_up (jm_g1 u 48) 21 0 to)) i) := by simp [jm_g2, jm_gm, jm_gh, h142]
                          refine ih (i + 1) _ _ _ (by omega) ?_ ?_
                          ·
                            try rw [e1]
                            exact hh
                          try rw [e1]
                          exact lv_sub hl [2, 0] rfl
                        refine lv_aload_n hx hb d_M_go_145 rfl (lv_at hl 1 rfl) ?_
                        refine jg_M hc hh 18 (by decide) rfl wf_M_65 d_M_go_146 ?_
                        refine lv_iload hx hb d_M_go_149 (lv_at hl 2 rfl) ?_
                        refine jmi_ild hc hh 18 (by decide) (by decide) hi d_M_go_151 ?_
                        refine lv_if_lt (tgt := 244) hx hb d_M_go_152 rfl (fun h152 => ?_) (fun h152 => ?_)
                        ·
                          refine lv_iinc (k := 2) (v := nI (i + 1)) (lv' := [(5, .int (nI (i + 1))), (6, .int (jm_ge (jm_g2 (jm_mark (js_up (jm_g1 u 48) 21 0 to)) i) i)), (0, .ref (ad 0))]) hx hb d_M_go_244 hl rfl (nI_1 i) (by decide) rfl (fun ls hl => ?_)
                          refine lv_goto (tgt := 111) hx hb d_M_go_247 rfl ?_
                          have e2 : (jm_g2 (jm_mark (js_up (jm_g1 u 48) 21 0 to)) (i + 1)) = (jm_g2 (jm_mark (js_up (jm_g1 u 48) 21 0 to)) i) := by simp [jm_g2, jm_gm, jm_gh, h142, h152]
                          refine ih (i + 1) _ _ _ (by omega) ?_ ?_
                          ·
                            try rw [e2]
                            exact hh
                          try rw [e2]
                          exact lv_sub hl [2, 0] rfl
                        refine lv_iload hx hb d_M_go_155 (lv_at hl 0 rfl) ?_
                        refine lv_aload_n hx hb d_M_go_157 rfl (lv_at hl 1 rfl) ?_
                        refine jg_M hc hh 18 (by decide) rfl wf_M_65 d_M_go_158 ?_
                        refine lv_iload hx hb d_M_go_161 (lv_at hl 2 rfl) ?_
                        refine jmi_ild hc hh 18 (by decide) (by decide) hi d_M_go_163 ?_
                        refine lv_icmp_eq (tgt := 244) hx hb d_M_go_164 rfl (fun h164 => ?_) (fun h164 => ?_)
                        ·
                          refine lv_iinc (k := 2) (v := nI (i + 1)) (lv' := [(5, .int (nI (i + 1))), (6, .int (jm_ge (jm_g2 (jm_mark (js_up (jm_g1 u 48) 21 0 to)) i) i)), (0, .ref (ad 0))]) hx hb d_M_go_244 hl rfl (nI_1 i) (by decide) rfl (fun ls hl => ?_)
                          refine lv_goto (tgt := 111) hx hb d_M_go_247 rfl ?_
                          have e3 : (jm_g2 (jm_mark (js_up (jm_g1 u 48) 21 0 to)) (i + 1)) = (jm_g2 (jm_mark (js_up (jm_g1 u 48) 21 0 to)) i) := by simp [jm_g2, jm_gm, jm_gh, h142, h152, h164]
                          refine ih (i + 1) _ _ _ (by omega) ?_ ?_
                          ·
                            try rw [e3]
                            exact hh
                          try rw [e3]
                          exact lv_sub hl [2, 0] rfl
                        refine lv_aload_n hx hb d_M_go_167 rfl (lv_at hl 1 rfl) ?_
                        refine jg_M hc hh 8 (by decide) rfl wf_M_35 d_M_go_168 ?_
                        refine lv_iload hx hb d_M_go_171 (lv_at hl 0 rfl) ?_
                        refine jm_ild hc hh 8 (by decide) (by decide) (jm_ge_ex h142) d_M_go_173 ?_
                        refine lv_aload_n hx hb d_M_go_174 rfl (lv_at hl 1 rfl) ?_
                        refine jg_M hc hh 8 (by decide) rfl wf_M_35 d_M_go_175 ?_
                        refine lv_aload_n hx hb d_M_go_178 rfl (lv_at hl 1 rfl) ?_
                        refine jg_M hc hh 18 (by decide) rfl wf_M_65 d_M_go_179 ?_
                        refine lv_iload hx hb d_M_go_182 (lv_at hl 2 rfl) ?_
                        refine jmi_ild hc hh 18 (by decide) (by decide) hi d_M_go_184 ?_
                        refine jm_ild hc hh 8 (by decide) (by decide) (jq_nn (jm_g2_18 hi) h152) d_M_go_185 ?_
                        refine lv_icmp_ne (tgt := 244) hx hb d_M_go_186 rfl (fun h186 => ?_) (fun h186 => ?_)
                        ·
                          refine lv_iinc (k := 2) (v := nI (i + 1)) (lv' := [(5, .int (nI (i + 1))), (6, .int (jm_ge (jm_g2 (jm_mark (js_up (jm_g1 u 48) 21 0 to)) i) i)), (0, .ref (ad 0))]) hx hb d_M_go_244 hl rfl (nI_1 i) (by decide) rfl (fun ls hl => ?_)
                          refine lv_goto (tgt := 111) hx hb d_M_go_247 rfl ?_
                          have e4 : (jm_g2 (jm_mark (js_up (jm_g1 u 48) 21 0 to)) (i + 1)) = (jm_g2 (jm_mark (js_up (jm_g1 u 48) 21 0 to)) i) := by simp [jm_g2, jm_gm, jm_gh, h142, h152, h164, h186]
                          refine ih (i + 1) _ _ _ (by omega) ?_ ?_
                          ·
                            try rw [e4]
                            exact hh
                          try rw [e4]
                          exact lv_sub hl [2, 0] rfl
                        refine lv_aload_n hx hb d_M_go_189 rfl (lv_at hl 1 rfl) ?_
                        refine lv_dup hx hb d_M_go_190 rfl ?_
                        refine jg_M hc hh 23 (by decide) rfl wf_M_167 d_M_go_191 ?_
                        refine lv_iconst (v := 1) hx hb d_M_go_194 (by decide) ?_
                        refine lv_iadd hx hb d_M_go_195 ?_
                        refine jpm_23 hc hh wf_M_167 d_M_go_196 (fun H locs hh => ?_)
                        refine lv_aload_n hx hb d_M_go_199 rfl (lv_at hl 1 rfl) ?_
                        refine lv_aload_n hx hb d_M_go_200 rfl (lv_at hl 1 rfl) ?_
                        refine jg_M hc hh 6 (by decide) rfl wf_M_29 d_M_go_201 ?_
                        refine lv_iload hx hb d_M_go_204 (lv_at hl 0 rfl) ?_
                        refine jm_ild hc hh 6 (by decide) (by decide) (jm_ge_ex h142) d_M_go_206 ?_
                        refine jx_callS [.int ((js_up (jm_g2 (jm_mark (js_up (jm_g1 u 48) 21 0 to)) i) 23 0 (((jm_g2 (jm_mark (js_up (jm_g1 u 48) 21 0 to)) i) 23 0) + 1)) 6 (ix (jm_ge (jm_g2 (jm_mark (js_up (jm_g1 u 48) 21 0 to)) i) i)))] [.ref (ad 0)] hc hh (m_fragment l D aK ad cA (js_up (jm_g2 (jm_mark (js_up (jm_g1 u 48) 21 0 to)) i) 23 0 (((jm_g2 (jm_mark (js_up (jm_g1 u 48) 21 0 to)) i) 23 0) + 1)) ((js_up (jm_g2 (jm_mark (js_up (jm_g1 u 48) 21 0 to)) i) 23 0 (((jm_g2 (jm_mark (js_up (jm_g1 u 48) 21 0 to)) i) 23 0) + 1)) 6 (ix (jm_ge (jm_g2 (jm_mark (js_up (jm_g1 u 48) 21 0 to)) i) i)))) wy_M_153 (by decide) rfl hl.1 rfl (by simp [vc_int, vc_ref, vc_long, jv_cat]) ⟨Nat.zero_le _, Nat.zero_le _⟩ d_M_go_207 (fun r u9 H locs hp hh _ _ => ?_)
                        rw [hp.2] at hh
                        refine W.eq (g2 := F0 m 210 ls [.int (jm_frag ((js_up (jm_g2 (jm_mark (js_up (jm_g1 u 48) 21 0 to)) i) 23 0 (((jm_g2 (jm_mark (js_up (jm_g1 u 48) 21 0 to)) i) 23 0) + 1)) 6 (ix (jm_ge (jm_g2 (jm_mark (js_up (jm_g1 u 48) 21 0 to)) i) i)))), .ref (ad 0)]) (by rw [hp.1]; rfl) ?_
                        refine lv_aload_n hx hb d_M_go_210 rfl (lv_at hl 1 rfl) ?_
                        refine jg_M hc hh 6 (by decide) rfl wf_M_29 d_M_go_211 ?_
                        refine lv_aload_n hx hb d_M_go_214 rfl (lv_at hl 1 rfl) ?_
                        refine jg_M hc hh 18 (by decide) rfl wf_M_65 d_M_go_215 ?_
                        refine lv_iload hx hb d_M_go_218 (lv_at hl 2 rfl) ?_
                        refine jmi_ild hc hh 18 (by decide) (by decide) hi d_M_go_220 ?_
                        refine jm_ild hc hh 6 (by decide) (by decide) (by rw [js_up_f (by decide)]; exact jq_nn (jm_g2_18 hi) h152) d_M_go_221 ?_
                        refine jx_callS [.int ((js_up (jm_g2 (jm_mark (js_up (jm_g1 u 48) 21 0 to)) i) 23 0 (((jm_g2 (jm_mark (js_up (jm_g1 u 48) 21 0 to)) i) 23 0) + 1)) 6 (ix ((js_up (jm_g2 (jm_mark (js_up (jm_g1 u 48) 21 0 to)) i) 23 0 (((jm_g2 (jm_mark (js_up (jm_g1 u 48) 21 0 to)) i) 23 0) + 1)) 18 i)))] [.int (jm_frag ((js_up (jm_g2 (jm_mark (js_up (jm_g1 u 48) 21 0 to)) i) 23 0 (((jm_g2 (jm_mark (js_up (jm_g1 u 48) 21 0 to)) i) 23 0) + 1)) 6 (ix (jm_ge (jm_g2 (jm_mark (js_up (jm_g1 u 48) 21 0 to)) i) i)))), .ref (ad 0)] hc hh (m_fragment l D aK ad cA (js_up (jm_g2 (jm_mark (js_up (jm_g1 u 48) 21 0 to)) i) 23 0 (((jm_g2 (jm_mark (js_up (jm_g1 u 48) 21 0 to)) i) 23 0) + 1)) ((js_up (jm_g2 (jm_mark (js_up (jm_g1 u 48) 21 0 to)) i) 23 0 (((jm_g2 (jm_mark (js_up (jm_g1 u 48) 21 0 to)) i) 23 0) + 1)) 6 (ix ((js_up (jm_g2 (jm_mark (js_up (jm_g1 u 48) 21 0 to)) i) 23 0 (((jm_g2 (jm_mark (js_up (jm_g1 u 48) 21 0 to)) i) 23 0) + 1)) 18 i)))) wy_M_153 (by decide) rfl hl.1 rfl (by simp [vc_int, vc_ref, vc_long, jv_cat]) ⟨Nat.zero_le _, Nat.zero_le _⟩ d_M_go_222 (fun r u9 H locs hp hh _ _ => ?_)
                        rw [hp.2] at hh
                        refine W.eq (g2 := F0 m 225 ls [.int (jm_frag ((js_up (jm_g2 (jm_mark (js_up (jm_g1 u 48) 21 0 to)) i) 23 0 (((jm_g2 (jm_mark (js_up (jm_g1 u 48) 21 0 to)) i) 23 0) + 1)) 6 (ix ((js_up (jm_g2 (jm_mark (js_up (jm_g1 u 48) 21 0 to)) i) 23 0 (((jm_g2 (jm_mark (js_up (jm_g1 u 48) 21 0 to)) i) 23 0) + 1)) 18 i)))), .int (jm_frag ((js_up (jm_g2 (jm_mark (js_up (jm_g1 u 48) 21 0 to)) i) 23 0 (((jm_g2 (jm_mark (js_up (jm_g1 u 48) 21 0 to)) i) 23 0) + 1)) 6 (ix (jm_ge (jm_g2 (jm_mark (js_up (jm_g1 u 48) 21 0 to)) i) i)))), .ref (ad 0)]) (by rw [hp.1]; rfl) ?_
                        refine lv_icmp_ne (tgt := 235) hx hb d_M_go_225 rfl (fun h225 => ?_) (fun h225 => ?_)
                        ·
                          have h225a := h225
                          rw [js_up_f (show ¬ (18 : Nat) = 23 by decide)] at h225a
                          refine lv_aload_n hx hb d_M_go_235 rfl (lv_at hl 1 rfl) ?_
                          refine jg_M hc hh 24 (by decide) rfl wf_M_156 d_M_go_236 ?_
                          refine lv_iconst (v := 1) hx hb d_M_go_239 (by decide) ?_
                          refine lv_iadd hx hb d_M_go_240 ?_
                          refine jpm_24 hc hh wf_M_156 d_M_go_241 (fun H locs hh => ?_)
                          refine lv_iinc (k := 2) (v := nI (i + 1)) (lv' := [(5, .int (nI (i + 1))), (6, .int (jm_ge (jm_g2 (jm_mark (js_up (jm_g1 u 48) 21 0 to)) i) i)), (0, .ref (ad 0))]) hx hb d_M_go_244 hl rfl (nI_1 i) (by decide) rfl (fun ls hl => ?_)
                          refine lv_goto (tgt := 111) hx hb d_M_go_247 rfl ?_
                          have e5 : (jm_g2 (jm_mark (js_up (jm_g1 u 48) 21 0 to)) (i + 1)) = (js_up (js_up (jm_g2 (jm_mark (js_up (jm_g1 u 48) 21 0 to)) i) 23 0 (((jm_g2 (jm_mark (js_up (jm_g1 u 48) 21 0 to)) i) 23 0) + 1)) 24 0 (((js_up (jm_g2 (jm_mark (js_up (jm_g1 u 48) 21 0 to)) i) 23 0 (((jm_g2 (jm_mark (js_up (jm_g1 u 48) 21 0 to)) i) 23 0) + 1)) 24 0) + 1)) := by simp [jm_g2, jm_gm, jm_gh, h142, h152, h164, h186, h225a]
                          refine ih (i + 1) _ _ _ (by omega) ?_ ?_
                          ·
                            try rw [e5]
                            exact hh
                          try rw [e5]
                          exact lv_sub hl [2, 0] rfl
                        have h225a := h225
                        rw [js_up_f (show ¬ (18 : Nat) = 23 by decide)] at h225a
                        refine lv_aload_n hx hb d_M_go_228 rfl (lv_at hl 1 rfl) ?_
                        refine jg_M hc hh 24 (by decide) rfl wf_M_156 d_M_go_229 ?_
                        refine lv_goto (tgt := 241) hx hb d_M_go_232 rfl ?_
                        refine jpm_24 hc hh wf_M_156 d_M_go_241 (fun H locs hh => ?_)
                        refine lv_iinc (k := 2) (v := nI (i + 1)) (lv' := [(5, .int (nI (i + 1))), (6, .int (jm_ge (jm_g2 (jm_mark (js_up (jm_g1 u 48) 21 0 to)) i) i)), (0, .ref (ad 0))]) hx hb d_M_go_244 hl rfl (nI_1 i) (by decide) rfl (fun ls hl => ?_)
                        refine lv_goto (tgt := 111) hx hb d_M_go_247 rfl ?_
                        have e6 : (jm_g2 (jm_mark (js_up (jm_g1 u 48) 21 0 to)) (i + 1)) = (js_up (js_up (jm_g2 (jm_mark (js_up (jm_g1 u 48) 21 0 to)) i) 23 0 (((jm_g2 (jm_mark (js_up (jm_g1 u 48) 21 0 to)) i) 23 0) + 1)) 24 0 ((js_up (jm_g2 (jm_mark (js_up (jm_g1 u 48) 21 0 to)) i) 23 0 (((jm_g2 (jm_mark (js_up (jm_g1 u 48) 21 0 to)) i) 23 0) + 1)) 24 0)) := by simp [jm_g2, jm_gm, jm_gh, h142, h152, h164, h186, h225a]
                        refine ih (i + 1) _ _ _ (by omega) ?_ ?_
                        ·
                          try rw [e6]
                          exact hh
                        try rw [e6]
                        exact lv_sub hl [2, 0] rfl
                      have e7 : (jm_ge (jm_g2 (jm_mark (js_up (jm_g1 u 48) 21 0 to)) i) i) = (-1) := by first | (simp [jm_ge, h125]; done) | (simp [jm_ge, eq_true h125]; done)
                      refine W.eq (g2 := F0 m 138 ls [.int (jm_ge (jm_g2 (jm_mark (js_up (jm_g1 u 48) 21 0 to)) i) i)]) (by first | (rw [e7]; done) | (rw [e7]; rfl)) ?_
                      refine J138 _ _ _ ?_ ?_
                      ·
                        exact hh
                      exact lv_sub hl [0, 1] rfl
                    refine lv_aload_n hx hb d_M_go_128 rfl (lv_at hl 0 rfl) ?_
                    refine lv_iload hx hb d_M_go_129 (lv_at hl 1 rfl) ?_
                    refine jx_callV [.int (nI i)] [] hc hh (m_presentOf l D aK ad cA (jm_g2 (jm_mark (js_up (jm_g1 u 48) 21 0 to)) i) (nI i)) wy_M_124 ⟨by decide, rfl, rfl⟩ (by decide) rfl hl.1 rfl (by decide) ⟨Nat.zero_le _, Nat.zero_le _⟩ d_M_go_131 (fun r u9 H locs hp hh _ _ => ?_)
                    rw [hp.2] at hh
                    refine W.eq (g2 := F0 m 134 ls [.int (jm_presentOf (jm_g2 (jm_mark (js_up (jm_g1 u 48) 21 0 to)) i) (nI i))]) (by rw [hp.1]; rfl) ?_
                    refine lv_goto (tgt := 138) hx hb d_M_go_134 rfl ?_
                    have J138 : ∀  (H : Heap) (locs : List Loc) (ls : Array Slot), jx_H D 22 ad (jm_cell ad cA (jm_g2 (jm_mark (js_up (jm_g1 u 48) 21 0 to)) i)) A s.heap H locs → lv_has ls 7 [(0, .ref (ad 0)), (5, .int (nI i))] → W p l e (jr 5) s m args below meth c H locs 0 0 Q (F0 m 138 ls [.int (jm_ge (jm_g2 (jm_mark (js_up (jm_g1 u 48) 21 0 to)) i) i)]) := by
                      intro  H locs ls hh hl
                      refine lv_istore (i := 6) (lv' := [(6, .int (jm_ge (jm_g2 (jm_mark (js_up (jm_g1 u 48) 21 0 to)) i) i)), (0, .ref (ad 0)), (5, .int (nI i))]) hx hb d_M_go_138 hl (by decide) rfl (fun ls hl => ?_)
                      refine lv_iload hx hb d_M_go_140 (lv_at hl 0 rfl) ?_
                      refine lv_if_lt (tgt := 244) hx hb d_M_go_142 rfl (fun h142 => ?_) (fun h142 => ?_)
                      ·
                        refine lv_iinc (k := 2) (v := nI (i + 1)) (lv' := [(5, .int (nI (i + 1))), (6, .int (jm_ge (jm_g2 (jm_mark (js_up (jm_g1 u 48) 21 0 to)) i) i)), (0, .ref (ad 0))]) hx hb d_M_go_244 hl rfl (nI_1 i) (by decide) rfl (fun ls hl => ?_)
                        refine lv_goto (tgt := 111) hx hb d_M_go_247 rfl ?_
                        have e8 : (jm_g2 (jm_mark (js_up (jm_g1 u 48) 21 0 to)) (i + 1)) = (jm_g2 (jm_mark (js_up (jm_g1 u 48) 21 0 to)) i) := by simp [jm_g2, jm_gm, jm_gh, h142]
                        refine ih (i + 1) _ _ _ (by omega) ?_ ?_
                        ·
                          try rw [e8]
                          exact hh
                        try rw [e8]
                        exact lv_sub hl [2, 0] rfl
                      refine lv_aload_n hx hb d_M_go_145 rfl (lv_at hl 1 rfl) ?_
                      refine jg_M hc hh 18 (by decide) rfl wf_M_65 d_M_go_146 ?_
                      refine lv_iload hx hb d_M_go_149 (lv_at hl 2 rfl) ?_
                      refine jmi_ild hc hh 18 (by decide) (by decide) hi d_M_go_151 ?_
                      refine lv_if_lt (tgt := 244) hx hb d_M_go_152 rfl (fun h152 => ?_) (fun h152 => ?_)
                      ·
                        refine lv_iinc (k := 2) (v := nI (i + 1)) (lv' := [(5, .int (nI (i + 1))), (6, .int (jm_ge (jm_g2 (jm_mark (js_up (jm_g1 u 48) 21 0 to)) i) i)), (0, .ref (ad 0))]) hx hb d_M_go_244 hl rfl (nI_1 i) (by decide) rfl (fun ls hl => ?_)
                        refine lv_goto (tgt := 111) hx hb d_M_go_247 rfl ?_
                        have e9 : (jm_g2 (jm_mark (js_up (jm_g1 u 48) 21 0 to)) (i + 1)) = (jm_g2 (jm_mark (js_up (jm_g1 u 48) 21 0 to)) i) := by simp [jm_g2, jm_gm, jm_gh, h142, h152]
                        refine ih (i + 1) _ _ _ (by omega) ?_ ?_
                        ·
                          try rw [e9]
                          exact hh
                        try rw [e9]
                        exact lv_sub hl [2, 0] rfl
                      refine lv_iload hx hb d_M_go_155 (lv_at hl 0 rfl) ?_
                      refine lv_aload_n hx hb d_M_go_157 rfl (lv_at hl 1 rfl) ?_
                      refine jg_M hc hh 18 (by decide) rfl wf_M_65 d_M_go_158 ?_
                      refine lv_iload hx hb d_M_go_161 (lv_at hl 2 rfl) ?_
                      refine jmi_ild hc hh 18 (by decide) (by decide) hi d_M_go_163 ?_
                      refine lv_icmp_eq (tgt := 244) hx hb d_M_go_164 rfl (fun h164 => ?_) (fun h164 => ?_)
                      ·
                        refine lv_iinc (k := 2) (v := nI (i + 1)) (lv' := [(5, .int (nI (i + 1))), (6, .int (jm_ge (jm_g2 (jm_mark (js_up (jm_g1 u 48) 21 0 to)) i) i)), (0, .ref (ad 0))]) hx hb d_M_go_244 hl rfl (nI_1 i) (by decide) rfl (fun ls hl => ?_)
                        refine lv_goto (tgt := 111) hx hb d_M_go_247 rfl ?_
                        have e10 : (jm_g2 (jm_mark (js_up (jm_g1 u 48) 21 0 to)) (i + 1)) = (jm_g2 (jm_mark (js_up (jm_g1 u 48) 21 0 to)) i) := by simp [jm_g2, jm_gm, jm_gh, h142, h152, h164]
                        refine ih (i + 1) _ _ _ (by omega) ?_ ?_
                        ·
                          try rw [e10]
                          exact hh
                        try rw [e10]
                        exact lv_sub hl [2, 0] rfl
                      refine lv_aload_n hx hb d_M_go_167 rfl (lv_at hl 1 rfl) ?_
                      refine jg_M hc hh 8 (by decide) rfl wf_M_35 d_M_go_168 ?_
                      refine lv_iload hx hb d_M_go_171 (lv_at hl 0 rfl) ?_
                      refine jm_ild hc hh 8 (by decide) (by decide) (jm_ge_ex h142) d_M_go_173 ?_
                      refine lv_aload_n hx hb d_M_go_174 rfl (lv_at hl 1 rfl) ?_
                      refine jg_M hc hh 8 (by decide) rfl wf_M_35 d_M_go_175 ?_
                      refine lv_aload_n hx hb d_M_go_178 rfl (lv_at hl 1 rfl) ?_
                      refine jg_M hc hh 18 (by decide) rfl wf_M_65 d_M_go_179 ?_
                      refine lv_iload hx hb d_M_go_182 (lv_at hl 2 rfl) ?_
                      refine jmi_ild hc hh 18 (by decide) (by decide) hi d_M_go_184 ?_
                      refine jm_ild hc hh 8 (by decide) (by decide) (jq_nn (jm_g2_18 hi) h152) d_M_go_185 ?_
                      refine lv_icmp_ne (tgt := 244) hx hb d_M_go_186 rfl (fun h186 => ?_) (fun h186 => ?_)
                      ·
                        refine lv_iinc (k := 2) (v := nI (i + 1)) (lv' := [(5, .int (nI (i + 1))), (6, .int (jm_ge (jm_g2 (jm_mark (js_up (jm_g1 u 48) 21 0 to)) i) i)), (0, .ref (ad 0))]) hx hb d_M_go_244 hl rfl (nI_1 i) (by decide) rfl (fun ls hl => ?_)
                        refine lv_goto (tgt := 111) hx hb d_M_go_247 rfl ?_
                        have e11 : (jm_g2 (jm_mark (js_up (jm_g1 u 48) 21 0 to)) (i + 1)) = (jm_g2 (jm_mark (js_up (jm_g1 u 48) 21 0 to)) i) := by simp [jm_g2, jm_gm, jm_gh, h142, h152, h164, h186]
                        refine ih (i + 1) _ _ _ (by omega) ?_ ?_
                        ·
                          try rw [e11]
                          exact hh
                        try rw [e11]
                        exact lv_sub hl [2, 0] rfl
                      refine lv_aload_n hx hb d_M_go_189 rfl (lv_at hl 1 rfl) ?_
                      refine lv_dup hx hb d_M_go_190 rfl ?_
                      refine jg_M hc hh 23 (by decide) rfl wf_M_167 d_M_go_191 ?_
                      refine lv_iconst (v := 1) hx hb d_M_go_194 (by decide) ?_
                      refine lv_iadd hx hb d_M_go_195 ?_
                      refine jpm_23 hc hh wf_M_167 d_M_go_196 (fun H locs hh => ?_)
                      refine lv_aload_n hx hb d_M_go_199 rfl (lv_at hl 1 rfl) ?_
                      refine lv_aload_n hx hb d_M_go_200 rfl (lv_at hl 1 rfl) ?_
                      refine jg_M hc hh 6 (by decide) rfl wf_M_29 d_M_go_201 ?_
                      refine lv_iload hx hb d_M_go_204 (lv_at hl 0 rfl) ?_
                      refine jm_ild hc hh 6 (by decide) (by decide) (jm_ge_ex h142) d_M_go_206 ?_
                      refine jx_callS [.int ((js_up (jm_g2 (jm_mark (js_up (jm_g1 u 48) 21 0 to)) i) 23 0 (((jm_g2 (jm_mark (js_up (jm_g1 u 48) 21 0 to)) i) 23 0) + 1)) 6 (ix (jm_ge (jm_g2 (jm_mark (js_up (jm_g1 u 48) 21 0 to)) i) i)))] [.ref (ad 0)] hc hh (m_fragment l D aK ad cA (js_up (jm_g2 (jm_mark (js_up (jm_g1 u 48) 21 0 to)) i) 23 0 (((jm_g2 (jm_mark (js_up (jm_g1 u 48) 21 0 to)) i) 23 0) + 1)) ((js_up (jm_g2 (jm_mark (js_up (jm_g1 u 48) 21 0 to)) i) 23 0 (((jm_g2 (jm_mark (js_up (jm_g1 u 48) 21 0 to)) i) 23 0) + 1)) 6 (ix (jm_ge (jm_g2 (jm_mark (js_up (jm_g1 u 48) 21 0 to)) i) i)))) wy_M_153 (by decide) rfl hl.1 rfl (by simp [vc_int, vc_ref, vc_long, jv_cat]) ⟨Nat.zero_le _, Nat.zero_le _⟩ d_M_go_207 (fun r u9 H locs hp hh _ _ => ?_)
                      rw [hp.2] at hh
                      refine W.eq (g2 := F0 m 210 ls [.int (jm_frag ((js_up (jm_g2 (jm_mark (js_up (jm_g1 u 48) 21 0 to)) i) 23 0 (((jm_g2 (jm_mark (js_up (jm_g1 u 48) 21 0 to)) i) 23 0) + 1)) 6 (ix (jm_ge (jm_g2 (jm_mark (js_up (jm_g1 u 48) 21 0 to)) i) i)))), .ref (ad 0)]) (by rw [hp.1]; rfl) ?_
                      refine lv_aload_n hx hb d_M_go_210 rfl (lv_at hl 1 rfl) ?_
                      refine jg_M hc hh 6 (by decide) rfl wf_M_29 d_M_go_211 ?_
                      refine lv_aload_n hx hb d_M_go_214 rfl (lv_at hl 1 rfl) ?_
                      refine jg_M hc hh 18 (by decide) rfl wf_M_65 d_M_go_215 ?_
                      refine lv_iload hx hb d_M_go_218 (lv_at hl 2 rfl) ?_
                      refine jmi_ild hc hh 18 (by decide) (by decide) hi d_M_go_220 ?_
                      refine jm_ild hc hh 6 (by decide) (by decide) (by rw [js_up_f (by decide)]; exact jq_nn (jm_g2_18 hi) h152) d_M_go_221 ?_
                      refine jx_callS [.int ((js_up (jm_g2 (jm_mark (js_up (jm_g1 u 48) 21 0 to)) i) 23 0 (((jm_g2 (jm_mark (js_up (jm_g1 u 48) 21 0 to)) i) 23 0) + 1)) 6 (ix ((js_up (jm_g2 (jm_mark (js_up (jm_g1 u 48) 21 0 to)) i) 23 0 (((jm_g2 (jm_mark (js_up (jm_g1 u 48) 21 0 to)) i) 23 0) + 1)) 18 i)))] [.int (jm_frag ((js_up (jm_g2 (jm_mark (js_up (jm_g1 u 48) 21 0 to)) i) 23 0 (((jm_g2 (jm_mark (js_up (jm_g1 u 48) 21 0 to)) i) 23 0) + 1)) 6 (ix (jm_ge (jm_g2 (jm_mark (js_up (jm_g1 u 48) 21 0 to)) i) i)))), .ref (ad 0)] hc hh (m_fragment l D aK ad cA (js_up (jm_g2 (jm_mark (js_up (jm_g1 u 48) 21 0 to)) i) 23 0 (((jm_g2 (jm_mark (js_up (jm_g1 u 48) 21 0 to)) i) 23 0) + 1)) ((js_up (jm_g2 (jm_mark (js_up (jm_g1 u 48) 21 0 to)) i) 23 0 (((jm_g2 (jm_mark (js_up (jm_g1 u 48) 21 0 to)) i) 23 0) + 1)) 6 (ix ((js_up (jm_g2 (jm_mark (js_up (jm_g1 u 48) 21 0 to)) i) 23 0 (((jm_g2 (jm_mark (js_up (jm_g1 u 48) 21 0 to)) i) 23 0) + 1)) 18 i)))) wy_M_153 (by decide) rfl hl.1 rfl (by simp [vc_int, vc_ref, vc_long, jv_cat]) ⟨Nat.zero_le _, Nat.zero_le _⟩ d_M_go_222 (fun r u9 H locs hp hh _ _ => ?_)
                      rw [hp.2] at hh
                      refine W.eq (g2 := F0 m 225 ls [.int (jm_frag ((js_up (jm_g2 (jm_mark (js_up (jm_g1 u 48) 21 0 to)) i) 23 0 (((jm_g2 (jm_mark (js_up (jm_g1 u 48) 21 0 to)) i) 23 0) + 1)) 6 (ix ((js_up (jm_g2 (jm_mark (js_up (jm_g1 u 48) 21 0 to)) i) 23 0 (((jm_g2 (jm_mark (js_up (jm_g1 u 48) 21 0 to)) i) 23 0) + 1)) 18 i)))), .int (jm_frag ((js_up (jm_g2 (jm_mark (js_up (jm_g1 u 48) 21 0 to)) i) 23 0 (((jm_g2 (jm_mark (js_up (jm_g1 u 48) 21 0 to)) i) 23 0) + 1)) 6 (ix (jm_ge (jm_g2 (jm_mark (js_up (jm_g1 u 48) 21 0 to)) i) i)))), .ref (ad 0)]) (by rw [hp.1]; rfl) ?_
                      refine lv_icmp_ne (tgt := 235) hx hb d_M_go_225 rfl (fun h225 => ?_) (fun h225 => ?_)
                      ·
                        have h225a := h225
                        rw [js_up_f (show ¬ (18 : Nat) = 23 by decide)] at h225a
                        refine lv_aload_n hx hb d_M_go_235 rfl (lv_at hl 1 rfl) ?_
                        refine jg_M hc hh 24 (by decide) rfl wf_M_156 d_M_go_236 ?_
                        refine lv_iconst (v := 1) hx hb d_M_go_239 (by decide) ?_
                        refine lv_iadd hx hb d_M_go_240 ?_
                        refine jpm_24 hc hh wf_M_156 d_M_go_241 (fun H locs hh => ?_)
                        refine lv_iinc (k := 2) (v := nI (i + 1)) (lv' := [(5, .int (nI (i + 1))), (6, .int (jm_ge (jm_g2 (jm_mark (js_up (jm_g1 u 48) 21 0 to)) i) i)), (0, .ref (ad 0))]) hx hb d_M_go_244 hl rfl (nI_1 i) (by decide) rfl (fun ls hl => ?_)
                        refine lv_goto (tgt := 111) hx hb d_M_go_247 rfl ?_
                        have e12 : (jm_g2 (jm_mark (js_up (jm_g1 u 48) 21 0 to)) (i + 1)) = (js_up (js_up (jm_g2 (jm_mark (js_up (jm_g1 u 48) 21 0 to)) i) 23 0 (((jm_g2 (jm_mark (js_up (jm_g1 u 48) 21 0 to)) i) 23 0) + 1)) 24 0 (((js_up (jm_g2 (jm_mark (js_up (jm_g1 u 48) 21 0 to)) i) 23 0 (((jm_g2 (jm_mark (js_up (jm_g1 u 48) 21 0 to)) i) 23 0) + 1)) 24 0) + 1)) := by simp [jm_g2, jm_gm, jm_gh, h142, h152, h164, h186, h225a]
                        refine ih (i + 1) _ _ _ (by omega) ?_ ?_
                        ·
                          try rw [e12]
                          exact hh
                        try rw [e12]
                        exact lv_sub hl [2, 0] rfl
                      have h225a := h225
                      rw [js_up_f (show ¬ (18 : Nat) = 23 by decide)] at h225a
                      refine lv_aload_n hx hb d_M_go_228 rfl (lv_at hl 1 rfl) ?_
                      refine jg_M hc hh 24 (by decide) rfl wf_M_156 d_M_go_229 ?_
                      refine lv_goto (tgt := 241) hx hb d_M_go_232 rfl ?_
                      refine jpm_24 hc hh wf_M_156 d_M_go_241 (fun H locs hh => ?_)
                      refine lv_iinc (k := 2) (v := nI (i + 1)) (lv' := [(5, .int (nI (i + 1))), (6, .int (jm_ge (jm_g2 (jm_mark (js_up (jm_g1 u 48) 21 0 to)) i) i)), (0, .ref (ad 0))]) hx hb d_M_go_244 hl rfl (nI_1 i) (by decide) rfl (fun ls hl => ?_)
                      refine lv_goto (tgt := 111) hx hb d_M_go_247 rfl ?_
                      have e13 : (jm_g2 (jm_mark (js_up (jm_g1 u 48) 21 0 to)) (i + 1)) = (js_up (js_up (jm_g2 (jm_mark (js_up (jm_g1 u 48) 21 0 to)) i) 23 0 (((jm_g2 (jm_mark (js_up (jm_g1 u 48) 21 0 to)) i) 23 0) + 1)) 24 0 ((js_up (jm_g2 (jm_mark (js_up (jm_g1 u 48) 21 0 to)) i) 23 0 (((jm_g2 (jm_mark (js_up (jm_g1 u 48) 21 0 to)) i) 23 0) + 1)) 24 0)) := by simp [jm_g2, jm_gm, jm_gh, h142, h152, h164, h186, h225a]
                      refine ih (i + 1) _ _ _ (by omega) ?_ ?_
                      ·
                        try rw [e13]
                        exact hh
                      try rw [e13]
                      exact lv_sub hl [2, 0] rfl
                    have e14 : (jm_ge (jm_g2 (jm_mark (js_up (jm_g1 u 48) 21 0 to)) i) i) = (jm_presentOf (jm_g2 (jm_mark (js_up (jm_g1 u 48) 21 0 to)) i) (nI i)) := by simp [jm_ge, h125]
                    refine W.eq (g2 := F0 m 138 ls [.int (jm_ge (jm_g2 (jm_mark (js_up (jm_g1 u 48) 21 0 to)) i) i)]) (by first | (rw [e14]; done) | (rw [e14]; rfl)) ?_
                    refine J138 _ _ _ ?_ ?_
                    ·
                      exact hh
                    exact lv_sub hl [0, 1] rfl
                have e15 : nI 0 = 0 := rfl
                have e16 : (jm_g2 (jm_mark (js_up (jm_g1 u 48) 21 0 to)) 0) = (jm_mark (js_up (jm_g1 u 48) 21 0 to)) := rfl
                refine L111 48 0 _ _ _ (by omega) ?_ ?_
                ·
                  try rw [e15]
                  try rw [e16]
                  exact hh
                try rw [e15]
                try rw [e16]
                exact lv_sub hl [1, 0] rfl
              have e17 : (jm_g1 u 48) = (jm_g1 u i) := by rw [hi]
              refine J98 _ _ _ ?_ ?_
              ·
                try rw [e17]
                exact hh
              try rw [e17]
              exact lv_sub hl [0, 1] rfl
            | succ n ih =>
              intro i H locs ls hm hh hl
              have hi : i < 48 := by omega
              refine lv_iload hx hb d_M_go_58 (lv_at hl 2 rfl) ?_
              refine lv_bipush (v := 48) hx hb d_M_go_60 (by decide) ?_
              refine lv_icmp_ge (tgt := 98) hx hb d_M_go_62 rfl (fun hq => absurd hq (nI_ge hi (by decide))) (fun h62 => ?_)
              refine lv_aload_n hx hb d_M_go_65 rfl (lv_at hl 0 rfl) ?_
              refine jg_M hc hh 18 (by decide) rfl wf_M_65 d_M_go_66 ?_
              refine lv_iload hx hb d_M_go_69 (lv_at hl 2 rfl) ?_
              refine lv_aload_n hx hb d_M_go_71 rfl (lv_at hl 0 rfl) ?_
              refine jg_M hc hh 17 (by decide) rfl wf_M_62 d_M_go_72 ?_
              refine lv_iload hx hb d_M_go_75 (lv_at hl 2 rfl) ?_
              refine jmi_zld hc hh 17 (by decide) (by decide) hi d_M_go_77 ?_
              refine lv_if_eq (tgt := 90) hx hb d_M_go_78 rfl (fun h78 => ?_) (fun h78 => ?_)
              ·
                refine lv_iconst (v := -1) hx hb d_M_go_90 (by decide) ?_
                have J91 : ∀  (H : Heap) (locs : List Loc) (ls : Array Slot), jx_H D 22 ad (jm_cell ad cA (jm_g1 u i)) A s.heap H locs → lv_has ls 7 [(0, .ref (ad 0)), (4, .int to), (5, .int (nI i))] → W p l e (jr 5) s m args below meth c H locs 0 0 Q (F0 m 91 ls [.int (if (jm_g1 u i) 17 i = 0 then -1 else jm_presentOf (jm_g1 u i) (nI i)), .int (nI i), .ref (ad 19)]) := by
                  intro  H locs ls hh hl
                  refine jmi_ist hc hh 18 (by decide) (by decide) hi d_M_go_91 (fun H locs hh => ?_)
                  refine lv_iinc (k := 2) (v := nI (i + 1)) (lv' := [(5, .int (nI (i + 1))), (0, .ref (ad 0)), (4, .int to)]) hx hb d_M_go_92 hl rfl (nI_1 i) (by decide) rfl (fun ls hl => ?_)
                  refine lv_goto (tgt := 58) hx hb d_M_go_95 rfl ?_
                  have e18 : (jm_g1 u (i + 1)) = (js_up (jm_g1 u i) 18 i (if (jm_g1 u i) 17 i = 0 then -1 else jm_presentOf (jm_g1 u i) (nI i))) := by simp [nI_0, jm_g1]
                  refine ih (i + 1) _ _ _ (by omega) ?_ ?_
                  ·
                    try rw [e18]
                    exact hh
                  try rw [e18]
                  exact lv_sub hl [1, 2, 0] rfl
                have e19 : (if (jm_g1 u i) 17 i = 0 then -1 else jm_presentOf (jm_g1 u i) (nI i)) = (-1) := by first | (simp [nI_0, h78]; done) | (simp [nI_0, eq_true h78]; done)
                refine W.eq (g2 := F0 m 91 ls [.int (if (jm_g1 u i) 17 i = 0 then -1 else jm_presentOf (jm_g1 u i) (nI i)), .int (nI i), .ref (ad 19)]) (by first | (rw [e19]; done) | (rw [e19]; rfl)) ?_
                refine J91 _ _ _ ?_ ?_
                ·
                  exact hh
                exact lv_sub hl [0, 1, 2] rfl
              refine lv_aload_n hx hb d_M_go_81 rfl (lv_at hl 0 rfl) ?_
              refine lv_iload hx hb d_M_go_82 (lv_at hl 2 rfl) ?_
              refine jx_callV [.int (nI i)] [.int (nI i), .ref (ad 19)] hc hh (m_presentOf l D aK ad cA (jm_g1 u i) (nI i)) wy_M_124 ⟨by decide, rfl, rfl⟩ (by decide) rfl hl.1 rfl (by simp [vc_int, vc_ref, vc_long, jv_cat]) ⟨Nat.zero_le _, Nat.zero_le _⟩ d_M_go_84 (fun r u9 H locs hp hh _ _ => ?_)
              rw [hp.2] at hh
              refine W.eq (g2 := F0 m 87 ls [.int (jm_presentOf (jm_g1 u i) (nI i)), .int (nI i), .ref (ad 19)]) (by rw [hp.1]; rfl) ?_
              refine lv_goto (tgt := 91) hx hb d_M_go_87 rfl ?_
              have J91 : ∀  (H : Heap) (locs : List Loc) (ls : Array Slot), jx_H D 22 ad (jm_cell ad cA (jm_g1 u i)) A s.heap H locs → lv_has ls 7 [(0, .ref (ad 0)), (4, .int to), (5, .int (nI i))] → W p l e (jr 5) s m args below meth c H locs 0 0 Q (F0 m 91 ls [.int (if (jm_g1 u i) 17 i = 0 then -1 else jm_presentOf (jm_g1 u i) (nI i)), .int (nI i), .ref (ad 19)]) := by
                intro  H locs ls hh hl
                refine jmi_ist hc hh 18 (by decide) (by decide) hi d_M_go_91 (fun H locs hh => ?_)
                refine lv_iinc (k := 2) (v := nI (i + 1)) (lv' := [(5, .int (nI (i + 1))), (0, .ref (ad 0)), (4, .int to)]) hx hb d_M_go_92 hl rfl (nI_1 i) (by decide) rfl (fun ls hl => ?_)
                refine lv_goto (tgt := 58) hx hb d_M_go_95 rfl ?_
                have e20 : (jm_g1 u (i + 1)) = (js_up (jm_g1 u i) 18 i (if (jm_g1 u i) 17 i = 0 then -1 else jm_presentOf (jm_g1 u i) (nI i))) := by simp [nI_0, jm_g1]
                refine ih (i + 1) _ _ _ (by omega) ?_ ?_
                ·
                  try rw [e20]
                  exact hh
                try rw [e20]
                exact lv_sub hl [1, 2, 0] rfl
              have e21 : (if (jm_g1 u i) 17 i = 0 then -1 else jm_presentOf (jm_g1 u i) (nI i)) = (jm_presentOf (jm_g1 u i) (nI i)) := by simp [nI_0, h78]
              refine W.eq (g2 := F0 m 91 ls [.int (if (jm_g1 u i) 17 i = 0 then -1 else jm_presentOf (jm_g1 u i) (nI i)), .int (nI i), .ref (ad 19)]) (by first | (rw [e21]; done) | (rw [e21]; rfl)) ?_
              refine J91 _ _ _ ?_ ?_
              ·
                exact hh
              exact lv_sub hl [0, 1, 2] rfl
          have e22 : nI 0 = 0 := rfl
          have e23 : (jm_g1 u 0) = u := by simp [nI_0, jm_g1, h49]
          refine L58 48 0 _ _ _ (by omega) ?_ ?_
          ·
            try rw [e22]
            try rw [e23]
            exact hh
          try rw [e22]
          try rw [e23]
          exact lv_sub hl [2, 1, 0] rfl
        refine lv_bipush (v := -7) hx hb d_M_go_52 (by decide) ?_
        exact jx_iret (r := (-7)) hc hh hQ hlk hr rfl rfl ⟨by rw [hto]; simp [jm_go1, h49], by rw [hto]; simp [jm_go1, h49]⟩ d_M_go_54
      refine J45 (jm_stepAt u (lN (jm_cu u k) + delta.toInt64)) _ _ _ (by unfold jm_go; rw [eK, ix_nI hK, ← hk9]) ?_ ?_
      ·
        exact hh
      exact lv_sub hl [0] rfl
    | succ n ih =>
      intro k H locs ls hm hh hl
      refine lv_iload hx hb d_M_go_5 (lv_at hl 3 rfl) ?_
      refine lv_aload_n hx hb d_M_go_7 rfl (lv_at hl 0 rfl) ?_
      refine jg_M hc hh 21 (by decide) rfl wf_M_130 d_M_go_8 ?_
      refine lv_icmp_ge (tgt := 37) hx hb d_M_go_11 rfl (fun hq => absurd hq (by rw [eK]; exact nI_ge (show k < K by omega) hK)) (fun h11 => ?_)
      refine lv_aload_n hx hb d_M_go_14 rfl (lv_at hl 0 rfl) ?_
      refine lv_iload hx hb d_M_go_15 (lv_at hl 3 rfl) ?_
      refine jx_callV [.int (nI k)] [] hc hh (m_used l D aK ad cA u (nI k)) wy_M_133 ⟨by decide, rfl, rfl⟩ (by decide) rfl hl.1 rfl (by decide) ⟨Nat.zero_le _, Nat.zero_le _⟩ d_M_go_17 (fun r u9 H locs hp hh _ _ => ?_)
      rw [hp.2] at hh
      refine W.eq (g2 := F0 m 20 ls [.int (jm_used u (nI k))]) (by rw [hp.1]; rfl) ?_
      refine lv_if_eq (tgt := 29) hx hb d_M_go_20 rfl (fun h20 => ?_) (fun h20 => ?_)
      ·
        refine lv_lload_n hx hb d_M_go_29 rfl (lv_at hl 2 rfl) ?_
        refine lv_lstore_n (i := 2) (lv' := [(2, .long (lN (jm_cu u k))), (0, .ref (ad 0)), (1, .int delta), (4, .int (nI k))]) hx hb d_M_go_30 rfl hl (by decide) rfl (fun ls hl => ?_)
        refine lv_iinc (k := 3) (v := nI (k + 1)) (lv' := [(4, .int (nI (k + 1))), (2, .long (lN (jm_cu u k))), (0, .ref (ad 0)), (1, .int delta)]) hx hb d_M_go_31 hl rfl (nI_1 k) (by decide) rfl (fun ls hl => ?_)
        refine lv_goto (tgt := 5) hx hb d_M_go_34 rfl ?_
        have e24 : lN (jm_cu u (k + 1)) = lN (jm_cu u k) := by first | (simp [jm_cu, lN_1, nI_0, h20]; done) | (simp [jm_cu, lN_1, nI_0, eq_true h20]; done)
        refine ih (k + 1) _ _ _ (by omega) ?_ ?_
        ·
          try rw [e24]
          exact hh
        try rw [e24]
        exact lv_sub hl [2, 3, 1, 0] rfl
      refine lv_lload_n hx hb d_M_go_23 rfl (lv_at hl 2 rfl) ?_
      refine lv_lconst (v := 1) hx hb d_M_go_24 (by decide) ?_
      refine lv_ladd hx hb d_M_go_25 ?_
      refine lv_goto (tgt := 30) hx hb d_M_go_26 rfl ?_
      refine lv_lstore_n (i := 2) (lv' := [(2, .long (lN (jm_cu u k) + 1)), (0, .ref (ad 0)), (1, .int delta), (4, .int (nI k))]) hx hb d_M_go_30 rfl hl (by decide) rfl (fun ls hl => ?_)
      refine lv_iinc (k := 3) (v := nI (k + 1)) (lv' := [(4, .int (nI (k + 1))), (2, .long (lN (jm_cu u k) + 1)), (0, .ref (ad 0)), (1, .int delta)]) hx hb d_M_go_31 hl rfl (nI_1 k) (by decide) rfl (fun ls hl => ?_)
      refine lv_goto (tgt := 5) hx hb d_M_go_34 rfl ?_
      have e25 : lN (jm_cu u (k + 1)) = (lN (jm_cu u k) + 1) := by simp [jm_cu, lN_1, nI_0, h20]
      refine ih (k + 1) _ _ _ (by omega) ?_ ?_
      ·
        try rw [e25]
        exact hh
      try rw [e25]
      exact lv_sub hl [2, 3, 1, 0] rfl
  have e26 : lN (jm_cu u 0) = 0 := rfl
  have e27 : nI 0 = 0 := rfl
  refine L5 K 0 _ _ _ (by omega) ?_ ?_
  ·
    try rw [e26]
    try rw [e27]
    exact hh
  try rw [e26]
  try rw [e27]
  exact lv_sub hl [2, 3, 1, 0] rfl
