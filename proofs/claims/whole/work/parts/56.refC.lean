set_option maxHeartbeats 4000000 in
set_option maxRecDepth 100000 in
theorem m_loadWindow (l : Launch) (D : va_G) (aK ad : Nat → Nat) (cA : Nat → ClassId) (u : js_S) (url : Int32) (st : Int32) (hS : jm_Sh u) (hu : jq 256 url) : jx_M l y_M_loadWindow b_M_loadWindow 10 (some .int) (jr 4) D (jc_tys cA) aK 22 ad (jm_cell ad cA) [.ref (ad 0), .int url, .int st] u (fun r : Int32 => some (.int r)) (fun r u' => r = nI (js_free u 10 47 0) ∧ u' = (jm_loadWindow u url st)) := by
  refine jx_enter "JointHistoryModel" (by decide) rfl (by simp [lg_sl, vc_int, vc_ref, vc_long, jv_cat]) ?_
  intro p e s m args below meth c A Q H locs ls hQ hc hh hr hlk hl
  have hx := hc.1
  have hb := hc.2.1
  have hl : lv_has ls 10 [(0, .ref (ad 0)), (1, .int url), (2, .int st)] := by simpa [lv_args, vc_int, vc_ref, vc_long, jv_cat] using hl
  refine lv_aload_n hx hb d_M_loadWindow_0 rfl (lv_at hl 0 rfl) ?_
  refine lv_iconst (v := 0) hx hb d_M_loadWindow_1 (by decide) ?_
  refine lv_iload_n hx hb d_M_loadWindow_2 rfl (lv_at hl 1 rfl) ?_
  refine jx_callV [.int 0, .int url] [] hc hh (m_make l D aK ad cA u 0 url hS ⟨0, by decide, rfl⟩ hu) wy_M_74 ⟨by decide, rfl, rfl⟩ (by decide) rfl hl.1 rfl (by decide) ⟨Nat.zero_le _, Nat.zero_le _⟩ d_M_loadWindow_3 (fun r u9 H locs hp hh _ _ => ?_)
  rw [hp.2] at hh
  refine W.eq (g2 := F0 m 6 ls [.int (nI (js_free u 10 47 0))]) (by rw [hp.1]; rfl) ?_
  refine lv_istore_n (i := 3) (lv' := [(3, .int (nI (js_free u 10 47 0))), (0, .ref (ad 0)), (1, .int url), (2, .int st)]) hx hb d_M_loadWindow_6 rfl hl (by decide) rfl (fun ls hl => ?_)
  refine lv_aload_n hx hb d_M_loadWindow_7 rfl (lv_at hl 1 rfl) ?_
  refine jg_M hc hh 25 (by decide) rfl wf_M_93 d_M_loadWindow_8 ?_
  refine lv_istore (i := 4) (lv' := [(4, .int ((jm_make u 0 url) 25 0)), (3, .int (nI (js_free u 10 47 0))), (0, .ref (ad 0)), (1, .int url), (2, .int st)]) hx hb d_M_loadWindow_11 hl (by decide) rfl (fun ls hl => ?_)
  refine lv_iconst (v := 0) hx hb d_M_loadWindow_13 (by decide) ?_
  refine lv_istore (i := 5) (lv' := [(5, .int 0), (4, .int ((jm_make u 0 url) 25 0)), (3, .int (nI (js_free u 10 47 0))), (0, .ref (ad 0)), (1, .int url), (2, .int st)]) hx hb d_M_loadWindow_14 hl (by decide) rfl (fun ls hl => ?_)
  have L16 : ∀ (n : Nat) (v : js_S) (i : Nat) (H : Heap) (locs : List Loc) (ls : Array Slot), i + n = 2 → (jm_Sh v) → (jm_lwL (nI (js_free u 10 47 0)) ((jm_make u 0 url) 25 0) st n i v = jm_lwL (nI (js_free u 10 47 0)) ((jm_make u 0 url) 25 0) st 2 0 (jm_make u 0 url)) → jx_H D 22 ad (jm_cell ad cA v) A s.heap H locs → lv_has ls 10 [(0, .ref (ad 0)), (1, .int url), (2, .int st), (3, .int (nI (js_free u 10 47 0))), (4, .int ((jm_make u 0 url) 25 0)), (5, .int (nI i))] → W p l e (jr 4) s m args below meth c H locs 0 0 Q (F0 m 16 ls []) := by
    intro n
    induction n with
    | zero =>
      intro v i H locs ls hm hSv hv hh hl
      refine lv_iload hx hb d_M_loadWindow_16 (lv_at hl 5 rfl) ?_
      refine lv_iconst (v := 2) hx hb d_M_loadWindow_18 (by decide) ?_
      refine lv_icmp_ge (tgt := 90) hx hb d_M_loadWindow_19 rfl (fun h19 => ?_) (fun hq => absurd (nI_le (show 2 ≤ i by omega) (show i < 2 ^ 31 by omega)) hq)
      refine lv_aload_n hx hb d_M_loadWindow_90 rfl (lv_at hl 0 rfl) ?_
      refine lv_iload hx hb d_M_loadWindow_91 (lv_at hl 4 rfl) ?_
      refine jpm_25 hc hh wf_M_93 d_M_loadWindow_93 (fun H locs hh => ?_)
      refine lv_iload_n hx hb d_M_loadWindow_96 rfl (lv_at hl 3 rfl) ?_
      exact jx_iret (r := (nI (js_free u 10 47 0))) hc hh hQ hlk hr rfl rfl ⟨rfl, by rw [jm_lw_eq, ← hv]; rfl⟩ d_M_loadWindow_97
    | succ n ih =>
      intro v i H locs ls hm hSv hv hh hl
      refine lv_iload hx hb d_M_loadWindow_16 (lv_at hl 5 rfl) ?_
      refine lv_iconst (v := 2) hx hb d_M_loadWindow_18 (by decide) ?_
      refine lv_icmp_ge (tgt := 90) hx hb d_M_loadWindow_19 rfl (fun hq => absurd hq (nI_ge (show i < 2 by omega) (by decide))) (fun h19 => ?_)
      refine lv_aload_n hx hb d_M_loadWindow_22 rfl (lv_at hl 0 rfl) ?_
      refine lv_iload hx hb d_M_loadWindow_23 (lv_at hl 4 rfl) ?_
      refine lv_iload hx hb d_M_loadWindow_25 (lv_at hl 5 rfl) ?_
      refine lv_iconst (v := 2) hx hb d_M_loadWindow_27 (by decide) ?_
      refine jx_callV [.int ((jm_make u 0 url) 25 0), .int (nI i), .int 2] [] hc hh (m_wanted l D aK ad cA v ((jm_make u 0 url) 25 0) (nI i) 2 (jm_make_ok hS hu).2) wy_M_100 ⟨by decide, rfl, rfl⟩ (by decide) rfl hl.1 rfl (by decide) ⟨Nat.zero_le _, Nat.zero_le _⟩ d_M_loadWindow_28 (fun r u9 H locs hp hh _ _ => ?_)
      rw [hp.2] at hh
      refine W.eq (g2 := F0 m 31 ls [.int (jm_wanted v ((jm_make u 0 url) 25 0) (nI i) 2)]) (by rw [hp.1]; rfl) ?_
      refine lv_istore (i := 6) (lv' := [(6, .int (jm_wanted v ((jm_make u 0 url) 25 0) (nI i) 2)), (0, .ref (ad 0)), (1, .int url), (2, .int st), (3, .int (nI (js_free u 10 47 0))), (4, .int ((jm_make u 0 url) 25 0)), (5, .int (nI i))]) hx hb d_M_loadWindow_31 hl (by decide) rfl (fun ls hl => ?_)
      refine lv_iload hx hb d_M_loadWindow_33 (lv_at hl 0 rfl) ?_
      refine lv_bipush (v := -2) hx hb d_M_loadWindow_35 (by decide) ?_
      refine lv_icmp_eq (tgt := 84) hx hb d_M_loadWindow_37 rfl (fun h37 => ?_) (fun h37 => ?_)
      ·
        refine lv_iinc (k := 6) (v := nI (i + 1)) (lv' := [(5, .int (nI (i + 1))), (6, .int (jm_wanted v ((jm_make u 0 url) 25 0) (nI i) 2)), (0, .ref (ad 0)), (1, .int url), (2, .int st), (3, .int (nI (js_free u 10 47 0))), (4, .int ((jm_make u 0 url) 25 0))]) hx hb d_M_loadWindow_84 hl rfl (nI_1 i) (by decide) rfl (fun ls hl => ?_)
        refine lv_goto (tgt := 16) hx hb d_M_loadWindow_87 rfl ?_
        refine ih v (i + 1) _ _ _ (by omega) hSv (by rw [← hv]; simp [jm_lwL, jm_lw, jm_lwi, h37]) ?_ ?_
        ·
          exact hh
        exact lv_sub hl [2, 3, 4, 5, 6, 0] rfl
      refine lv_aload_n hx hb d_M_loadWindow_40 rfl (lv_at hl 1 rfl) ?_
      refine lv_iload_n hx hb d_M_loadWindow_41 rfl (lv_at hl 4 rfl) ?_
      refine lv_iload hx hb d_M_loadWindow_42 (lv_at hl 0 rfl) ?_
      refine lv_iload_n hx hb d_M_loadWindow_44 rfl (lv_at hl 3 rfl) ?_
      refine jx_callV [.int (nI (js_free u 10 47 0)), .int (jm_wanted v ((jm_make u 0 url) 25 0) (nI i) 2), .int st] [] hc hh (m_frameFor l D aK ad cA v (nI (js_free u 10 47 0)) (jm_wanted v ((jm_make u 0 url) 25 0) (nI i) 2) st hSv ⟨_, js_f47, rfl⟩ (jm_wanted_ok hSv (jm_make_ok hS hu).2 h37)) wy_M_104 ⟨by decide, rfl, rfl⟩ (by decide) rfl hl.1 rfl (by decide) ⟨Nat.zero_le _, Nat.zero_le _⟩ d_M_loadWindow_45 (fun r u9 H locs hp hh _ _ => ?_)
      rw [hp.2] at hh
      refine W.eq (g2 := F0 m 48 ls [.int (nI (js_free v 15 46 1))]) (by rw [hp.1]; rfl) ?_
      refine lv_istore (i := 7) (lv' := [(7, .int (nI (js_free v 15 46 1))), (6, .int (jm_wanted v ((jm_make u 0 url) 25 0) (nI i) 2)), (0, .ref (ad 0)), (1, .int url), (2, .int st), (3, .int (nI (js_free u 10 47 0))), (4, .int ((jm_make u 0 url) 25 0)), (5, .int (nI i))]) hx hb d_M_loadWindow_48 hl (by decide) rfl (fun ls hl => ?_)
      refine lv_aload_n hx hb d_M_loadWindow_50 rfl (lv_at hl 2 rfl) ?_
      refine lv_aload_n hx hb d_M_loadWindow_51 rfl (lv_at hl 2 rfl) ?_
      refine jg_M hc hh 25 (by decide) rfl wf_M_93 d_M_loadWindow_52 ?_
      refine lv_iconst (v := 0) hx hb d_M_loadWindow_55 (by decide) ?_
      refine lv_iconst (v := 1) hx hb d_M_loadWindow_56 (by decide) ?_
      refine jx_callV [.int ((jm_frameFor v (nI (js_free u 10 47 0)) (jm_wanted v ((jm_make u 0 url) 25 0) (nI i) 2) st) 25 0), .int 0, .int 1] [] hc hh (m_wanted l D aK ad cA (jm_frameFor v (nI (js_free u 10 47 0)) (jm_wanted v ((jm_make u 0 url) 25 0) (nI i) 2) st) ((jm_frameFor v (nI (js_free u 10 47 0)) (jm_wanted v ((jm_make u 0 url) 25 0) (nI i) 2) st) 25 0) 0 1 (jm_ff_ok (st := st) hSv ⟨_, js_f47, rfl⟩ (jm_wanted_ok hSv (jm_make_ok hS hu).2 h37)).2) wy_M_100 ⟨by decide, rfl, rfl⟩ (by decide) rfl hl.1 rfl (by decide) ⟨Nat.zero_le _, Nat.zero_le _⟩ d_M_loadWindow_57 (fun r u9 H locs hp hh _ _ => ?_)
      rw [hp.2] at hh
      refine W.eq (g2 := F0 m 60 ls [.int (jm_wanted (jm_frameFor v (nI (js_free u 10 47 0)) (jm_wanted v ((jm_make u 0 url) 25 0) (nI i) 2) st) ((jm_frameFor v (nI (js_free u 10 47 0)) (jm_wanted v ((jm_make u 0 url) 25 0) (nI i) 2) st) 25 0) 0 1)]) (by rw [hp.1]; rfl) ?_
      refine lv_istore (i := 8) (lv' := [(8, .int (jm_wanted (jm_frameFor v (nI (js_free u 10 47 0)) (jm_wanted v ((jm_make u 0 url) 25 0) (nI i) 2) st) ((jm_frameFor v (nI (js_free u 10 47 0)) (jm_wanted v ((jm_make u 0 url) 25 0) (nI i) 2) st) 25 0) 0 1)), (7, .int (nI (js_free v 15 46 1))), (6, .int (jm_wanted v ((jm_make u 0 url) 25 0) (nI i) 2)), (0, .ref (ad 0)), (1, .int url), (2, .int st), (3, .int (nI (js_free u 10 47 0))), (4, .int ((jm_make u 0 url) 25 0)), (5, .int (nI i))]) hx hb d_M_loadWindow_60 hl (by decide) rfl (fun ls hl => ?_)
      refine lv_iload hx hb d_M_loadWindow_62 (lv_at hl 0 rfl) ?_
      refine lv_bipush (v := -2) hx hb d_M_loadWindow_64 (by decide) ?_
      refine lv_icmp_eq (tgt := 84) hx hb d_M_loadWindow_66 rfl (fun h66 => ?_) (fun h66 => ?_)
      ·
        refine lv_iinc (k := 8) (v := nI (i + 1)) (lv' := [(5, .int (nI (i + 1))), (8, .int (jm_wanted (jm_frameFor v (nI (js_free u 10 47 0)) (jm_wanted v ((jm_make u 0 url) 25 0) (nI i) 2) st) ((jm_frameFor v (nI (js_free u 10 47 0)) (jm_wanted v ((jm_make u 0 url) 25 0) (nI i) 2) st) 25 0) 0 1)), (7, .int (nI (js_free v 15 46 1))), (6, .int (jm_wanted v ((jm_make u 0 url) 25 0) (nI i) 2)), (0, .ref (ad 0)), (1, .int url), (2, .int st), (3, .int (nI (js_free u 10 47 0))), (4, .int ((jm_make u 0 url) 25 0))]) hx hb d_M_loadWindow_84 hl rfl (nI_1 i) (by decide) rfl (fun ls hl => ?_)
        refine lv_goto (tgt := 16) hx hb d_M_loadWindow_87 rfl ?_
        refine ih (jm_frameFor v (nI (js_free u 10 47 0)) (jm_wanted v ((jm_make u 0 url) 25 0) (nI i) 2) st) (i + 1) _ _ _ (by omega) (jm_ff_ok (st := st) hSv ⟨_, js_f47, rfl⟩ (jm_wanted_ok hSv (jm_make_ok hS hu).2 h37)).1 (by rw [← hv]; simp [jm_lwL, jm_lw, jm_lwi, h37, h66]) ?_ ?_
        ·
          exact hh
        exact lv_sub hl [4, 5, 6, 7, 8, 0] rfl
      refine lv_aload_n hx hb d_M_loadWindow_69 rfl (lv_at hl 3 rfl) ?_
      refine lv_aload_n hx hb d_M_loadWindow_70 rfl (lv_at hl 3 rfl) ?_
      refine lv_iload hx hb d_M_loadWindow_71 (lv_at hl 1 rfl) ?_
      refine jx_callV [.int (nI (js_free v 15 46 1))] [.ref (ad 0)] hc hh (m_paperOf l D aK ad cA (jm_frameFor v (nI (js_free u 10 47 0)) (jm_wanted v ((jm_make u 0 url) 25 0) (nI i) 2) st) (nI (js_free v 15 46 1))) wy_M_107 ⟨by decide, rfl, rfl⟩ (by decide) rfl hl.1 rfl (by simp [vc_int, vc_ref, vc_long, jv_cat]) ⟨Nat.zero_le _, Nat.zero_le _⟩ d_M_loadWindow_73 (fun r u9 H locs hp hh _ _ => ?_)
      rw [hp.2] at hh
      refine W.eq (g2 := F0 m 76 ls [.int (jm_po (jm_frameFor v (nI (js_free u 10 47 0)) (jm_wanted v ((jm_make u 0 url) 25 0) (nI i) 2) st) (nI (js_free v 15 46 1)) 48 0), .ref (ad 0)]) (by rw [hp.1]; rfl) ?_
      refine lv_iload hx hb d_M_loadWindow_76 (lv_at hl 0 rfl) ?_
      refine lv_iload_n hx hb d_M_loadWindow_78 rfl (lv_at hl 5 rfl) ?_
      refine jx_callV [.int (jm_po (jm_frameFor v (nI (js_free u 10 47 0)) (jm_wanted v ((jm_make u 0 url) 25 0) (nI i) 2) st) (nI (js_free v 15 46 1)) 48 0), .int (jm_wanted (jm_frameFor v (nI (js_free u 10 47 0)) (jm_wanted v ((jm_make u 0 url) 25 0) (nI i) 2) st) ((jm_frameFor v (nI (js_free u 10 47 0)) (jm_wanted v ((jm_make u 0 url) 25 0) (nI i) 2) st) 25 0) 0 1), .int st] [] hc hh (m_frameFor l D aK ad cA (jm_frameFor v (nI (js_free u 10 47 0)) (jm_wanted v ((jm_make u 0 url) 25 0) (nI i) 2) st) (jm_po (jm_frameFor v (nI (js_free u 10 47 0)) (jm_wanted v ((jm_make u 0 url) 25 0) (nI i) 2) st) (nI (js_free v 15 46 1)) 48 0) (jm_wanted (jm_frameFor v (nI (js_free u 10 47 0)) (jm_wanted v ((jm_make u 0 url) 25 0) (nI i) 2) st) ((jm_frameFor v (nI (js_free u 10 47 0)) (jm_wanted v ((jm_make u 0 url) 25 0) (nI i) 2) st) 25 0) 0 1) st (jm_ff_ok (st := st) hSv ⟨_, js_f47, rfl⟩ (jm_wanted_ok hSv (jm_make_ok hS hu).2 h37)).1 (jm_ff_po hSv ⟨_, js_f47, rfl⟩ (jm_wanted_ok hSv (jm_make_ok hS hu).2 h37)) (jm_wanted_ok (jm_ff_ok (st := st) hSv ⟨_, js_f47, rfl⟩ (jm_wanted_ok hSv (jm_make_ok hS hu).2 h37)).1 (jm_ff_ok (st := st) hSv ⟨_, js_f47, rfl⟩ (jm_wanted_ok hSv (jm_make_ok hS hu).2 h37)).2 h66)) wy_M_104 ⟨by decide, rfl, rfl⟩ (by decide) rfl hl.1 rfl (by decide) ⟨Nat.zero_le _, Nat.zero_le _⟩ d_M_loadWindow_79 (fun r u9 H locs hp hh _ _ => ?_)
      rw [hp.2] at hh
      refine W.eq (g2 := F0 m 82 ls [.int (nI (js_free (jm_frameFor v (nI (js_free u 10 47 0)) (jm_wanted v ((jm_make u 0 url) 25 0) (nI i) 2) st) 15 46 1))]) (by rw [hp.1]; rfl) ?_
      refine lv_istore (i := 9) (lv' := [(9, .int (nI (js_free (jm_frameFor v (nI (js_free u 10 47 0)) (jm_wanted v ((jm_make u 0 url) 25 0) (nI i) 2) st) 15 46 1))), (8, .int (jm_wanted (jm_frameFor v (nI (js_free u 10 47 0)) (jm_wanted v ((jm_make u 0 url) 25 0) (nI i) 2) st) ((jm_frameFor v (nI (js_free u 10 47 0)) (jm_wanted v ((jm_make u 0 url) 25 0) (nI i) 2) st) 25 0) 0 1)), (7, .int (nI (js_free v 15 46 1))), (6, .int (jm_wanted v ((jm_make u 0 url) 25 0) (nI i) 2)), (0, .ref (ad 0)), (1, .int url), (2, .int st), (3, .int (nI (js_free u 10 47 0))), (4, .int ((jm_make u 0 url) 25 0)), (5, .int (nI i))]) hx hb d_M_loadWindow_82 hl (by decide) rfl (fun ls hl => ?_)
      refine lv_iinc (k := 9) (v := nI (i + 1)) (lv' := [(5, .int (nI (i + 1))), (9, .int (nI (js_free (jm_frameFor v (nI (js_free u 10 47 0)) (jm_wanted v ((jm_make u 0 url) 25 0) (nI i) 2) st) 15 46 1))), (8, .int (jm_wanted (jm_frameFor v (nI (js_free u 10 47 0)) (jm_wanted v ((jm_make u 0 url) 25 0) (nI i) 2) st) ((jm_frameFor v (nI (js_free u 10 47 0)) (jm_wanted v ((jm_make u 0 url) 25 0) (nI i) 2) st) 25 0) 0 1)), (7, .int (nI (js_free v 15 46 1))), (6, .int (jm_wanted v ((jm_make u 0 url) 25 0) (nI i) 2)), (0, .ref (ad 0)), (1, .int url), (2, .int st), (3, .int (nI (js_free u 10 47 0))), (4, .int ((jm_make u 0 url) 25 0))]) hx hb d_M_loadWindow_84 hl rfl (nI_1 i) (by decide) rfl (fun ls hl => ?_)
      refine lv_goto (tgt := 16) hx hb d_M_loadWindow_87 rfl ?_
      refine ih (jm_frameFor (jm_frameFor v (nI (js_free u 10 47 0)) (jm_wanted v ((jm_make u 0 url) 25 0) (nI i) 2) st) (jm_po (jm_frameFor v (nI (js_free u 10 47 0)) (jm_wanted v ((jm_make u 0 url) 25 0) (nI i) 2) st) (nI (js_free v 15 46 1)) 48 0) (jm_wanted (jm_frameFor v (nI (js_free u 10 47 0)) (jm_wanted v ((jm_make u 0 url) 25 0) (nI i) 2) st) ((jm_frameFor v (nI (js_free u 10 47 0)) (jm_wanted v ((jm_make u 0 url) 25 0) (nI i) 2) st) 25 0) 0 1) st) (i + 1) _ _ _ (by omega) (jm_ff_ok (st := st) (jm_ff_ok (st := st) hSv ⟨_, js_f47, rfl⟩ (jm_wanted_ok hSv (jm_make_ok hS hu).2 h37)).1 (jm_ff_po hSv ⟨_, js_f47, rfl⟩ (jm_wanted_ok hSv (jm_make_ok hS hu).2 h37)) (jm_wanted_ok (jm_ff_ok (st := st) hSv ⟨_, js_f47, rfl⟩ (jm_wanted_ok hSv (jm_make_ok hS hu).2 h37)).1 (jm_ff_ok (st := st) hSv ⟨_, js_f47, rfl⟩ (jm_wanted_ok hSv (jm_make_ok hS hu).2 h37)).2 h66)).1 (by rw [← hv]; simp [jm_lwL, jm_lw, jm_lwi, h37, h66]) ?_ ?_
      ·
        exact hh
      exact lv_sub hl [5, 6, 7, 8, 9, 0] rfl
  have e1 : nI 0 = 0 := rfl
  refine L16 2 (jm_make u 0 url) 0 _ _ _ (by omega) (jm_make_ok hS hu).1 rfl ?_ ?_
  ·
    try rw [e1]
    exact hh
  try rw [e1]
  exact lv_sub hl [3, 4, 5, 2, 1, 0] rfl
set_option maxHeartbeats 4000000 in
set_option maxRecDepth 100000 in
theorem m_load (l : Launch) (D : va_G) (aK ad : Nat → Nat) (cA : Nat → ClassId) (u : js_S) (nav : Int32) (url : Int32) (st : Int32) (hS : jm_Sh u) (h_nav : ∃ i, i < 48 ∧ nav = nI i) (hu : jq 256 url) : jx_M l y_M_load b_M_load 5 (some .int) (jr 5) D (jc_tys cA) aK 22 ad (jm_cell ad cA) [.ref (ad 0), .int nav, .int url, .int st] u (fun r : Int32 => some (.int r)) (fun r u' => r = nI (js_free u 10 47 0) ∧ u' = (jm_load u nav url st)) := by
  refine jx_enter "JointHistoryModel" (by decide) rfl (by simp [lg_sl, vc_int, vc_ref, vc_long, jv_cat]) ?_
  intro p e s m args below meth c A Q H locs ls hQ hc hh hr hlk hl
  have hx := hc.1
  have hb := hc.2.1
  have hl : lv_has ls 5 [(0, .ref (ad 0)), (1, .int nav), (2, .int url), (3, .int st)] := by simpa [lv_args, vc_int, vc_ref, vc_long, jv_cat] using hl
  refine lv_aload_n hx hb d_M_load_0 rfl (lv_at hl 0 rfl) ?_
  refine lv_iload_n hx hb d_M_load_1 rfl (lv_at hl 1 rfl) ?_
  refine jx_callV [.int nav] [] hc hh (m_deep l D aK ad cA u nav h_nav) wy_M_111 ⟨by decide, rfl, rfl⟩ (by decide) rfl hl.1 rfl (by decide) ⟨Nat.zero_le _, Nat.zero_le _⟩ d_M_load_2 (fun r u9 H locs hp hh _ _ => ?_)
  rw [hp.2] at hh
  refine W.eq (g2 := F0 m 5 ls [.int (jm_deep u nav)]) (by rw [hp.1]; rfl) ?_
  refine lv_istore (i := 4) (lv' := [(4, .int (jm_deep u nav)), (0, .ref (ad 0)), (1, .int nav), (2, .int url), (3, .int st)]) hx hb d_M_load_5 hl (by decide) rfl (fun ls hl => ?_)
  refine lv_iload hx hb d_M_load_7 (lv_at hl 0 rfl) ?_
  refine lv_if_ne (tgt := 21) hx hb d_M_load_9 rfl (fun h9 => ?_) (fun h9 => ?_)
  ·
    refine lv_iload hx hb d_M_load_21 (lv_at hl 0 rfl) ?_
    refine lv_iconst (v := 1) hx hb d_M_load_23 (by decide) ?_
    refine lv_icmp_ne (tgt := 37) hx hb d_M_load_24 rfl (fun h24 => ?_) (fun h24 => ?_)
    ·
      refine lv_aload_n hx hb d_M_load_37 rfl (lv_at hl 1 rfl) ?_
      refine lv_iload_n hx hb d_M_load_38 rfl (lv_at hl 2 rfl) ?_
      refine lv_iload_n hx hb d_M_load_39 rfl (lv_at hl 3 rfl) ?_
      refine jx_callV [.int nav, .int url] [] hc hh (m_make l D aK ad cA u nav url hS h_nav hu) wy_M_74 ⟨by decide, rfl, rfl⟩ (by decide) rfl hl.1 rfl (by decide) ⟨Nat.zero_le _, Nat.zero_le _⟩ d_M_load_40 (fun r u9 H locs hp hh _ _ => ?_)
      rw [hp.2] at hh
      refine W.eq (g2 := F0 m 43 ls [.int (nI (js_free u 10 47 0))]) (by rw [hp.1]; rfl) ?_
      exact jx_iret (r := (nI (js_free u 10 47 0))) hc hh hQ hlk hr rfl rfl ⟨rfl, by simp [jm_load, h9, h24]⟩ d_M_load_43
    refine lv_aload_n hx hb d_M_load_27 rfl (lv_at hl 1 rfl) ?_
    refine lv_iload_n hx hb d_M_load_28 rfl (lv_at hl 2 rfl) ?_
    refine lv_iload_n hx hb d_M_load_29 rfl (lv_at hl 3 rfl) ?_
    refine lv_iload_n hx hb d_M_load_30 rfl (lv_at hl 4 rfl) ?_
    refine jx_callV [.int nav, .int url, .int st] [] hc hh (m_loadMiddle l D aK ad cA u nav url st hS h_nav hu) wy_M_117 ⟨by decide, rfl, rfl⟩ (by decide) rfl hl.1 rfl (by decide) ⟨Nat.zero_le _, Nat.zero_le _⟩ d_M_load_31 (fun r u9 H locs hp hh _ _ => ?_)
    rw [hp.2] at hh
    refine W.eq (g2 := F0 m 34 ls [.int (nI (js_free u 10 47 0))]) (by rw [hp.1]; rfl) ?_
    refine lv_goto (tgt := 43) hx hb d_M_load_34 rfl ?_
    exact jx_iret (r := (nI (js_free u 10 47 0))) hc hh hQ hlk hr rfl rfl ⟨rfl, by first | (simp [jm_load, h9, h24]; done) | (simp [jm_load, h9, eq_true h24]; done)⟩ d_M_load_43
  refine lv_aload_n hx hb d_M_load_12 rfl (lv_at hl 1 rfl) ?_
  refine lv_iload_n hx hb d_M_load_13 rfl (lv_at hl 3 rfl) ?_
  refine lv_iload_n hx hb d_M_load_14 rfl (lv_at hl 4 rfl) ?_
  refine jx_callV [.int url, .int st] [] hc hh (m_loadWindow l D aK ad cA u url st hS hu) wy_M_114 ⟨by decide, rfl, rfl⟩ (by decide) rfl hl.1 rfl (by decide) ⟨Nat.zero_le _, Nat.zero_le _⟩ d_M_load_15 (fun r u9 H locs hp hh _ _ => ?_)
  rw [hp.2] at hh
  refine W.eq (g2 := F0 m 18 ls [.int (nI (js_free u 10 47 0))]) (by rw [hp.1]; rfl) ?_
  refine lv_goto (tgt := 43) hx hb d_M_load_18 rfl ?_
  exact jx_iret (r := (nI (js_free u 10 47 0))) hc hh hQ hlk hr rfl rfl ⟨rfl, by first | (simp [jm_load, h9]; done) | (simp [jm_load, eq_true h9]; done)⟩ d_M_load_43
set_option maxHeartbeats 4000000 in
set_option maxRecDepth 100000 in
theorem m_mark (l : Launch) (D : va_G) (aK ad : Nat → Nat) (cA : Nat → ClassId) (u : js_S) (hS : jm_Sh u) : jx_M l y_M_mark b_M_mark 3 none (jr 3) D (jc_tys cA) aK 22 ad (jm_cell ad cA) [.ref (ad 0)] u (fun _ : Unit => none) (fun r u' => r = () ∧ u' = (jm_mark u)) := by
  refine jx_enter "JointHistoryModel" (by decide) rfl (by simp [lg_sl, vc_int, vc_ref, vc_long, jv_cat]) ?_
  intro p e s m args below meth c A Q H locs ls hQ hc hh hr hlk hl
  have hx := hc.1
  have hb := hc.2.1
  have hl : lv_has ls 3 [(0, .ref (ad 0))] := by simpa [lv_args, vc_int, vc_ref, vc_long, jv_cat] using hl
  refine lv_iconst (v := 0) hx hb d_M_mark_0 (by decide) ?_
  refine lv_istore_n (i := 1) (lv' := [(1, .int 0), (0, .ref (ad 0))]) hx hb d_M_mark_1 rfl hl (by decide) rfl (fun ls hl => ?_)
  have L2 : ∀ (n : Nat) (i : Nat) (H : Heap) (locs : List Loc) (ls : Array Slot), i + n = 48 → jx_H D 22 ad (jm_cell ad cA (jm_m0 u i)) A s.heap H locs → lv_has ls 3 [(0, .ref (ad 0)), (1, .int (nI i))] → W p l e (jr 3) s m args below meth c H locs 0 0 Q (F0 m 2 ls []) := by
    intro n
    induction n with
    | zero =>
      intro i H locs ls hm hh hl
      have hi : i = 48 := by omega
      refine lv_iload_n hx hb d_M_mark_2 rfl (lv_at hl 1 rfl) ?_
      refine lv_bipush (v := 48) hx hb d_M_mark_3 (by decide) ?_
      refine lv_icmp_ge (tgt := 51) hx hb d_M_mark_5 rfl (fun h5 => ?_) (fun hq => absurd (nI_le (show 48 ≤ i by omega) (show i < 2 ^ 31 by omega)) hq)
      refine lv_iconst (v := 0) hx hb d_M_mark_51 (by decide) ?_
      refine lv_istore_n (i := 1) (lv' := [(1, .int 0), (0, .ref (ad 0))]) hx hb d_M_mark_52 rfl hl (by decide) rfl (fun ls hl => ?_)
      have L53 : ∀ (n : Nat) (b : js_S) (q : Nat) (H : Heap) (locs : List Loc) (ls : Array Slot), q + n = 3 → (jm_Sh b) → (jm_r1 n b = (jm_mkA3 (jm_m0 u 48))) → jx_H D 22 ad (jm_cell ad cA b) A s.heap H locs → lv_has ls 3 [(0, .ref (ad 0)), (1, .int (nI q))] → W p l e (jr 3) s m args below meth c H locs 0 0 Q (F0 m 53 ls []) := by
        intro n
        induction n with
        | zero =>
          intro b q H locs ls hm hSb hr1 hh hl
          refine lv_iload_n hx hb d_M_mark_53 rfl (lv_at hl 1 rfl) ?_
          refine lv_iconst (v := 3) hx hb d_M_mark_54 (by decide) ?_
          refine lv_icmp_ge (tgt := 143) hx hb d_M_mark_55 rfl (fun h55 => ?_) (fun hq => absurd (nI_le (show 3 ≤ q by omega) (show q < 2 ^ 31 by omega)) hq)
          have J143 : ∀  (H : Heap) (locs : List Loc) (ls : Array Slot), jx_H D 22 ad (jm_cell ad cA (jm_mkA3 (jm_m0 u 48))) A s.heap H locs → lv_has ls 3 [(0, .ref (ad 0))] → W p l e (jr 3) s m args below meth c H locs 0 0 Q (F0 m 143 ls []) := by
            intro  H locs ls hh hl
            refine lv_iconst (v := 0) hx hb d_M_mark_143 (by decide) ?_
            refine lv_istore_n (i := 1) (lv' := [(1, .int 0), (0, .ref (ad 0))]) hx hb d_M_mark_144 rfl hl (by decide) rfl (fun ls hl => ?_)
            have L145 : ∀ (n : Nat) (i : Nat) (H : Heap) (locs : List Loc) (ls : Array Slot), i + n = 48 → jx_H D 22 ad (jm_cell ad cA (jm_m2 (jm_mkA3 (jm_m0 u 48)) i)) A s.heap H locs → lv_has ls 3 [(0, .ref (ad 0)), (1, .int (nI i))] → W p l e (jr 3) s m args below meth c H locs 0 0 Q (F0 m 145 ls []) := by
              intro n
              induction n with
              | zero =>
                intro i H locs ls hm hh hl
                have hi : i = 48 := by omega
                refine lv_iload_n hx hb d_M_mark_145 rfl (lv_at hl 1 rfl) ?_
                refine lv_bipush (v := 48) hx hb d_M_mark_146 (by decide) ?_
                refine lv_icmp_ge (tgt := 249) hx hb d_M_mark_148 rfl (fun h148 => ?_) (fun hq => absurd (nI_le (show 48 ≤ i by omega) (show i < 2 ^ 31 by omega)) hq)
                refine lv_iconst (v := 0) hx hb d_M_mark_249 (by decide) ?_
                refine lv_istore_n (i := 1) (lv' := [(1, .int 0), (0, .ref (ad 0))]) hx hb d_M_mark_250 rfl hl (by decide) rfl (fun ls hl => ?_)
                have L251 : ∀ (n : Nat) (b : js_S) (q : Nat) (H : Heap) (locs : List Loc) (ls : Array Slot), q + n = 3 → (jm_Sh b) → (jm_r3 n b = jm_mkB3 (jm_m2 (jm_mkA3 (jm_m0 u 48)) 48)) → jx_H D 22 ad (jm_cell ad cA b) A s.heap H locs → lv_has ls 3 [(0, .ref (ad 0)), (1, .int (nI q))] → W p l e (jr 3) s m args below meth c H locs 0 0 Q (F0 m 251 ls []) := by
                  intro n
                  induction n with
                  | zero =>
                    intro b q H locs ls hm hSb hr3 hh hl
                    refine lv_iload_n hx hb d_M_mark_251 rfl (lv_at hl 1 rfl) ?_
                    refine lv_iconst (v := 3) hx hb d_M_mark_252 (by decide) ?_
                    refine lv_icmp_ge (tgt := 299) hx hb d_M_mark_253 rfl (fun h253 => ?_) (fun hq => absurd (nI_le (show 3 ≤ q by omega) (show q < 2 ^ 31 by omega)) hq)
                    exact jx_vret (r := ()) hc hh hQ hlk hr rfl ⟨rfl, hr3⟩ d_M_mark_299
                  | succ n ih =>
                    intro b q H locs ls hm hSb hr3 hh hl
                    refine lv_iload_n hx hb d_M_mark_251 rfl (lv_at hl 1 rfl) ?_
                    refine lv_iconst (v := 3) hx hb d_M_mark_252 (by decide) ?_
                    refine lv_icmp_ge (tgt := 299) hx hb d_M_mark_253 rfl (fun hq => absurd hq (nI_ge (show q < 3 by omega) (by decide))) (fun h253 => ?_)
                    refine lv_iconst (v := 0) hx hb d_M_mark_256 (by decide) ?_
                    refine lv_istore_n (i := 2) (lv' := [(2, .int 0), (0, .ref (ad 0)), (1, .int (nI q))]) hx hb d_M_mark_257 rfl hl (by decide) rfl (fun ls hl => ?_)
                    have L258 : ∀ (n : Nat) (i : Nat) (H : Heap) (locs : List Loc) (ls : Array Slot), i + n = 48 → jx_H D 22 ad (jm_cell ad cA (jm_m3 b i)) A s.heap H locs → lv_has ls 3 [(0, .ref (ad 0)), (1, .int (nI q)), (2, .int (nI i))] → W p l e (jr 3) s m args below meth c H locs 0 0 Q (F0 m 258 ls []) := by
                      intro n
                      induction n with
                      | zero =>
                        intro i H locs ls hm hh hl
                        have hi : i = 48 := by omega
                        refine lv_iload_n hx hb d_M_mark_258 rfl (lv_at hl 2 rfl) ?_
                        refine lv_bipush (v := 48) hx hb d_M_mark_259 (by decide) ?_
                        refine lv_icmp_ge (tgt := 293) hx hb d_M_mark_261 rfl (fun h261 => ?_) (fun hq => absurd (nI_le (show 48 ≤ i by omega) (show i < 2 ^ 31 by omega)) hq)
                        refine lv_iinc (k := 1) (v := nI (q + 1)) (lv' := [(1, .int (nI (q + 1))), (0, .ref (ad 0)), (2, .int (nI i))]) hx hb d_M_mark_293 hl rfl (nI_1 q) (by decide) rfl (fun ls hl => ?_)
                        refine lv_goto (tgt := 251) hx hb d_M_mark_296 rfl ?_
                        refine ih (jm_m3 b i) (q + 1) _ _ _ (by omega) (jm_Sh_m3 hSb i) (by rw [← hr3, hi]; rfl) ?_ ?_
                        ·
                          exact hh
                        exact lv_sub hl [1, 0] rfl
                      | succ n ih =>
                        intro i H locs ls hm hh hl
                        have hi : i < 48 := by omega
                        refine lv_iload_n hx hb d_M_mark_258 rfl (lv_at hl 2 rfl) ?_
                        refine lv_bipush (v := 48) hx hb d_M_mark_259 (by decide) ?_
                        refine lv_icmp_ge (tgt := 293) hx hb d_M_mark_261 rfl (fun hq => absurd hq (nI_ge hi (by decide))) (fun h261 => ?_)
                        refine lv_aload_n hx hb d_M_mark_264 rfl (lv_at hl 0 rfl) ?_
                        refine jg_M hc hh 17 (by decide) rfl wf_M_62 d_M_mark_265 ?_
                        refine lv_iload_n hx hb d_M_mark_268 rfl (lv_at hl 2 rfl) ?_
                        refine jmi_zld hc hh 17 (by decide) (by decide) hi d_M_mark_269 ?_
                        refine lv_if_eq (tgt := 287) hx hb d_M_mark_270 rfl (fun h270 => ?_) (fun h270 => ?_)
                        ·
                          refine lv_iinc (k := 2) (v := nI (i + 1)) (lv' := [(2, .int (nI (i + 1))), (0, .ref (ad 0)), (1, .int (nI q))]) hx hb d_M_mark_287 hl rfl (nI_1 i) (by decide) rfl (fun ls hl => ?_)
                          refine lv_goto (tgt := 258) hx hb d_M_mark_290 rfl ?_
                          have e1 : (jm_m3 b (i + 1)) = (jm_m3 b i) := by first | (simp [nI_0, jm_m3, h270]; done) | (simp [nI_0, jm_m3, eq_true h270]; done)
                          refine ih (i + 1) _ _ _ (by omega) ?_ ?_
                          ·
                            try rw [e1]
                            exact hh
                          try rw [e1]
                          exact lv_sub hl [1, 2, 0] rfl
                        refine lv_aload_n hx hb d_M_mark_273 rfl (lv_at hl 0 rfl) ?_
                        refine lv_aload_n hx hb d_M_mark_274 rfl (lv_at hl 0 rfl) ?_
                        refine jg_M hc hh 8 (by decide) rfl wf_M_35 d_M_mark_275 ?_
                        refine lv_aload_n hx hb d_M_mark_278 rfl (lv_at hl 0 rfl) ?_
                        refine lv_iload_n hx hb d_M_mark_279 rfl (lv_at hl 2 rfl) ?_
                        refine jx_callV [.int (nI i)] [.ref (ad 9), .ref (ad 0)] hc hh (m_presentOf l D aK ad cA (jm_m3 b i) (nI i)) wy_M_124 ⟨by decide, rfl, rfl⟩ (by decide) rfl hl.1 rfl (by simp [vc_int, vc_ref, vc_long, jv_cat]) ⟨Nat.zero_le _, Nat.zero_le _⟩ d_M_mark_280 (fun r u9 H locs hp hh _ _ => ?_)
                        rw [hp.2] at hh
                        refine W.eq (g2 := F0 m 283 ls [.int (jm_presentOf (jm_m3 b i) (nI i)), .ref (ad 9), .ref (ad 0)]) (by rw [hp.1]; rfl) ?_
                        refine jm_ild hc hh 8 (by decide) (by decide) jm_pr_ex d_M_mark_283 ?_
                        refine jx_callV [.int ((jm_m3 b i) 8 (ix (jm_presentOf (jm_m3 b i) (nI i))))] [] hc hh (m_show l D aK ad cA (jm_m3 b i) ((jm_m3 b i) 8 (ix (jm_presentOf (jm_m3 b i) (nI i)))) (jm_Sh_m3 hSb i) (jm_Spx (jm_Sh_m3 hSb i) jm_pr_ex)) wy_M_127 ⟨by decide, rfl, rfl⟩ (by decide) rfl hl.1 rfl (by decide) ⟨Nat.zero_le _, Nat.zero_le _⟩ d_M_mark_284 (fun r u9 H locs hp hh _ _ => ?_)
                        rw [hp.2] at hh
                        refine W.eq (g2 := F0 m 287 ls []) rfl ?_
                        refine lv_iinc (k := 2) (v := nI (i + 1)) (lv' := [(2, .int (nI (i + 1))), (0, .ref (ad 0)), (1, .int (nI q))]) hx hb d_M_mark_287 hl rfl (nI_1 i) (by decide) rfl (fun ls hl => ?_)
                        refine lv_goto (tgt := 258) hx hb d_M_mark_290 rfl ?_
                        have e2 : (jm_m3 b (i + 1)) = (jm_show (jm_m3 b i) ((jm_m3 b i) 8 (ix (jm_presentOf (jm_m3 b i) (nI i))))) := by simp [nI_0, jm_m3, h270]
                        refine ih (i + 1) _ _ _ (by omega) ?_ ?_
                        ·
                          try rw [e2]
                          exact hh
                        try rw [e2]
                        exact lv_sub hl [1, 2, 0] rfl
                    have e3 : nI 0 = 0 := rfl
                    have e4 : (jm_m3 b 0) = b := by simp [nI_0, jm_m3]
                    refine L258 48 0 _ _ _ (by omega) ?_ ?_
                    ·
                      try rw [e3]
                      try rw [e4]
                      exact hh
                    try rw [e3]
                    try rw [e4]
                    exact lv_sub hl [1, 2, 0] rfl
                have e5 : nI 0 = 0 := rfl
                have e6 : (jm_m2 (jm_mkA3 (jm_m0 u 48)) 48) = (jm_m2 (jm_mkA3 (jm_m0 u 48)) i) := by rw [hi]
                refine L251 3 (jm_m2 (jm_mkA3 (jm_m0 u 48)) 48) 0 _ _ _ (by omega) (jm_Sh_m2 (jm_Sh_A3 (jm_Sh_m0 hS 48)) 48) rfl ?_ ?_
                ·
                  try rw [e5]
                  try rw [e6]
                  exact hh
                try rw [e5]
                try rw [e6]
                exact lv_sub hl [1, 0] rfl
              | succ n ih =>
                intro i H locs ls hm hh hl
                have hi : i < 48 := by omega
                refine lv_iload_n hx hb d_M_mark_145 rfl (lv_at hl 1 rfl) ?_
                refine lv_bipush (v := 48) hx hb d_M_mark_146 (by decide) ?_
                refine lv_icmp_ge (tgt := 249) hx hb d_M_mark_148 rfl (fun hq => absurd hq (nI_ge hi (by decide))) (fun h148 => ?_)
                refine lv_aload_n hx hb d_M_mark_151 rfl (lv_at hl 0 rfl) ?_
                refine jg_M hc hh 15 (by decide) rfl wf_M_56 d_M_mark_152 ?_
                refine lv_iload_n hx hb d_M_mark_155 rfl (lv_at hl 1 rfl) ?_
                refine lv_aload_n hx hb d_M_mark_156 rfl (lv_at hl 0 rfl) ?_
                refine jg_M hc hh 15 (by decide) rfl wf_M_56 d_M_mark_157 ?_
                refine lv_iload_n hx hb d_M_mark_160 rfl (lv_at hl 1 rfl) ?_
                refine jmi_zld hc hh 15 (by decide) (by decide) hi d_M_mark_161 ?_
                refine lv_if_eq (tgt := 178) hx hb d_M_mark_162 rfl (fun h162 => ?_) (fun h162 => ?_)
                ·
                  refine lv_iconst (v := 0) hx hb d_M_mark_178 (by decide) ?_
                  have J179 : ∀  (ls : Array Slot), lv_has ls 3 [(0, .ref (ad 0)), (1, .int (nI i))] → W p l e (jr 3) s m args below meth c H locs 0 0 Q (F0 m 179 ls [.int (jm_an ((jm_m2 (jm_mkA3 (jm_m0 u 48)) i) 15 i) ((jm_m2 (jm_mkA3 (jm_m0 u 48)) i) 20 i)), .int (nI i), .ref (ad 16)]) := by
                    intro  ls hl
                    refine jmi_zst hc hh 15 (by decide) (by decide) hi jm_an_z d_M_mark_179 (fun H locs hh => ?_)
                    have J180 : ∀  (H : Heap) (locs : List Loc) (ls : Array Slot), jx_H D 22 ad (jm_cell ad cA (jm_n1 (jm_m2 (jm_mkA3 (jm_m0 u 48)) i) i)) A s.heap H locs → lv_has ls 3 [(0, .ref (ad 0)), (1, .int (nI i))] → W p l e (jr 3) s m args below meth c H locs 0 0 Q (F0 m 180 ls []) := by
                      intro  H locs ls hh hl
                      refine lv_aload_n hx hb d_M_mark_180 rfl (lv_at hl 0 rfl) ?_
                      refine jg_M hc hh 10 (by decide) rfl wf_M_41 d_M_mark_181 ?_
                      refine lv_iload_n hx hb d_M_mark_184 rfl (lv_at hl 1 rfl) ?_
                      refine lv_aload_n hx hb d_M_mark_185 rfl (lv_at hl 0 rfl) ?_
                      refine jg_M hc hh 10 (by decide) rfl wf_M_41 d_M_mark_186 ?_
                      refine lv_iload_n hx hb d_M_mark_189 rfl (lv_at hl 1 rfl) ?_
                      refine jmi_zld hc hh 10 (by decide) (by decide) hi d_M_mark_190 ?_
                      refine lv_if_eq (tgt := 207) hx hb d_M_mark_191 rfl (fun h191 => ?_) (fun h191 => ?_)
                      ·
                        refine lv_iconst (v := 0) hx hb d_M_mark_207 (by decide) ?_
                        have J208 : ∀  (ls : Array Slot), lv_has ls 3 [(0, .ref (ad 0)), (1, .int (nI i))] → W p l e (jr 3) s m args below meth c H locs 0 0 Q (F0 m 208 ls [.int (jm_an ((jm_n1 (jm_m2 (jm_mkA3 (jm_m0 u 48)) i) i) 10 i) ((jm_n1 (jm_m2 (jm_mkA3 (jm_m0 u 48)) i) i) 19 i)), .int (nI i), .ref (ad 11)]) := by
                          intro  ls hl
                          refine jmi_zst hc hh 10 (by decide) (by decide) hi jm_an_z d_M_mark_208 (fun H locs hh => ?_)
                          have J209 : ∀  (H : Heap) (locs : List Loc) (ls : Array Slot), jx_H D 22 ad (jm_cell ad cA (jm_n2 (jm_n1 (jm_m2 (jm_mkA3 (jm_m0 u 48)) i) i) i)) A s.heap H locs → lv_has ls 3 [(0, .ref (ad 0)), (1, .int (nI i))] → W p l e (jr 3) s m args below meth c H locs 0 0 Q (F0 m 209 ls []) := by
                            intro  H locs ls hh hl
                            refine lv_aload_n hx hb d_M_mark_209 rfl (lv_at hl 0 rfl) ?_
                            refine jg_M hc hh 9 (by decide) rfl wf_M_38 d_M_mark_210 ?_
                            refine lv_iload_n hx hb d_M_mark_213 rfl (lv_at hl 1 rfl) ?_
                            refine lv_aload_n hx hb d_M_mark_214 rfl (lv_at hl 0 rfl) ?_
                            refine jg_M hc hh 9 (by decide) rfl wf_M_38 d_M_mark_215 ?_
                            refine lv_iload_n hx hb d_M_mark_218 rfl (lv_at hl 1 rfl) ?_
                            refine jmi_zld hc hh 9 (by decide) (by decide) hi d_M_mark_219 ?_
                            refine lv_if_eq (tgt := 241) hx hb d_M_mark_220 rfl (fun h220 => ?_) (fun h220 => ?_)
                            ·
                              refine lv_iconst (v := 0) hx hb d_M_mark_241 (by decide) ?_
                              have J242 : ∀  (ls : Array Slot), lv_has ls 3 [(0, .ref (ad 0)), (1, .int (nI i))] → W p l e (jr 3) s m args below meth c H locs 0 0 Q (F0 m 242 ls [.int (jm_an ((jm_n2 (jm_n1 (jm_m2 (jm_mkA3 (jm_m0 u 48)) i) i) i) 9 i) ((jm_n2 (jm_n1 (jm_m2 (jm_mkA3 (jm_m0 u 48)) i) i) i) 20 (ix ((jm_n2 (jm_n1 (jm_m2 (jm_mkA3 (jm_m0 u 48)) i) i) i) 4 i)))), .int (nI i), .ref (ad 10)]) := by
                                intro  ls hl
                                refine jmi_zst hc hh 9 (by decide) (by decide) hi jm_an_z d_M_mark_242 (fun H locs hh => ?_)
                                refine lv_iinc (k := 1) (v := nI (i + 1)) (lv' := [(1, .int (nI (i + 1))), (0, .ref (ad 0))]) hx hb d_M_mark_243 hl rfl (nI_1 i) (by decide) rfl (fun ls hl => ?_)
                                refine lv_goto (tgt := 145) hx hb d_M_mark_246 rfl ?_
                                have e7 : (jm_m2 (jm_mkA3 (jm_m0 u 48)) (i + 1)) = (js_up (jm_n2 (jm_n1 (jm_m2 (jm_mkA3 (jm_m0 u 48)) i) i) i) 9 i (jm_an ((jm_n2 (jm_n1 (jm_m2 (jm_mkA3 (jm_m0 u 48)) i) i) i) 9 i) ((jm_n2 (jm_n1 (jm_m2 (jm_mkA3 (jm_m0 u 48)) i) i) i) 20 (ix ((jm_n2 (jm_n1 (jm_m2 (jm_mkA3 (jm_m0 u 48)) i) i) i) 4 i))))) := by simp [nI_0, jm_m2, jm_n3]
                                refine ih (i + 1) _ _ _ (by omega) ?_ ?_
                                ·
                                  try rw [e7]
                                  exact hh
                                try rw [e7]
                                exact lv_sub hl [1, 0] rfl
                              have e8 : (jm_an ((jm_n2 (jm_n1 (jm_m2 (jm_mkA3 (jm_m0 u 48)) i) i) i) 9 i) ((jm_n2 (jm_n1 (jm_m2 (jm_mkA3 (jm_m0 u 48)) i) i) i) 20 (ix ((jm_n2 (jm_n1 (jm_m2 (jm_mkA3 (jm_m0 u 48)) i) i) i) 4 i)))) = 0 := by first | (simp [jm_an, h220]; done) | (simp [jm_an, eq_true h220]; done)
                              refine W.eq (g2 := F0 m 242 ls [.int (jm_an ((jm_n2 (jm_n1 (jm_m2 (jm_mkA3 (jm_m0 u 48)) i) i) i) 9 i) ((jm_n2 (jm_n1 (jm_m2 (jm_mkA3 (jm_m0 u 48)) i) i) i) 20 (ix ((jm_n2 (jm_n1 (jm_m2 (jm_mkA3 (jm_m0 u 48)) i) i) i) 4 i)))), .int (nI i), .ref (ad 10)]) (by first | (rw [e8]; done) | (rw [e8]; rfl)) ?_
                              refine J242 _ ?_
                              exact lv_sub hl [0, 1] rfl
                            refine lv_aload_n hx hb d_M_mark_223 rfl (lv_at hl 0 rfl) ?_
                            refine jg_M hc hh 20 (by decide) rfl wf_M_71 d_M_mark_224 ?_
                            refine lv_aload_n hx hb d_M_mark_227 rfl (lv_at hl 0 rfl) ?_
                            refine jg_M hc hh 4 (by decide) rfl wf_M_23 d_M_mark_228 ?_
                            refine lv_iload_n hx hb d_M_mark_231 rfl (lv_at hl 1 rfl) ?_
                            refine jmi_ild hc hh 4 (by decide) (by decide) hi d_M_mark_232 ?_
                            refine jm_zld hc hh 20 (by decide) (by decide) ((jm_Sh_10 (jm_Sh_15 (jm_Sh_m2 (jm_Sh_A3 (jm_Sh_m0 hS 48)) i))).1 _ hi).1 d_M_mark_233 ?_
                            refine lv_if_eq (tgt := 241) hx hb d_M_mark_234 rfl (fun h234 => ?_) (fun h234 => ?_)
                            ·
                              refine lv_iconst (v := 0) hx hb d_M_mark_241 (by decide) ?_
                              have J242 : ∀  (ls : Array Slot), lv_has ls 3 [(0, .ref (ad 0)), (1, .int (nI i))] → W p l e (jr 3) s m args below meth c H locs 0 0 Q (F0 m 242 ls [.int (jm_an ((jm_n2 (jm_n1 (jm_m2 (jm_mkA3 (jm_m0 u 48)) i) i) i) 9 i) ((jm_n2 (jm_n1 (jm_m2 (jm_mkA3 (jm_m0 u 48)) i) i) i) 20 (ix ((jm_n2 (jm_n1 (jm_m2 (jm_mkA3 (jm_m0 u 48)) i) i) i) 4 i)))), .int (nI i), .ref (ad 10)]) := by
                                intro  ls hl
                                refine jmi_zst hc hh 9 (by decide) (by decide) hi jm_an_z d_M_mark_242 (fun H locs hh => ?_)
                                refine lv_iinc (k := 1) (v := nI (i + 1)) (lv' := [(1, .int (nI (i + 1))), (0, .ref (ad 0))]) hx hb d_M_mark_243 hl rfl (nI_1 i) (by decide) rfl (fun ls hl => ?_)
                                refine lv_goto (tgt := 145) hx hb d_M_mark_246 rfl ?_
                                have e9 : (jm_m2 (jm_mkA3 (jm_m0 u 48)) (i + 1)) = (js_up (jm_n2 (jm_n1 (jm_m2 (jm_mkA3 (jm_m0 u 48)) i) i) i) 9 i (jm_an ((jm_n2 (jm_n1 (jm_m2 (jm_mkA3 (jm_m0 u 48)) i) i) i) 9 i) ((jm_n2 (jm_n1 (jm_m2 (jm_mkA3 (jm_m0 u 48)) i) i) i) 20 (ix ((jm_n2 (jm_n1 (jm_m2 (jm_mkA3 (jm_m0 u 48)) i) i) i) 4 i))))) := by simp [nI_0, jm_m2, jm_n3]
                                refine ih (i + 1) _ _ _ (by omega) ?_ ?_
                                ·
                                  try rw [e9]
                                  exact hh
                                try rw [e9]
                                exact lv_sub hl [1, 0] rfl
                              have e10 : (jm_an ((jm_n2 (jm_n1 (jm_m2 (jm_mkA3 (jm_m0 u 48)) i) i) i) 9 i) ((jm_n2 (jm_n1 (jm_m2 (jm_mkA3 (jm_m0 u 48)) i) i) i) 20 (ix ((jm_n2 (jm_n1 (jm_m2 (jm_mkA3 (jm_m0 u 48)) i) i) i) 4 i)))) = 0 := by first | (simp [jm_an, h220, h234]; done) | (simp [jm_an, h220, eq_true h234]; done)
                              refine W.eq (g2 := F0 m 242 ls [.int (jm_an ((jm_n2 (jm_n1 (jm_m2 (jm_mkA3 (jm_m0 u 48)) i) i) i) 9 i) ((jm_n2 (jm_n1 (jm_m2 (jm_mkA3 (jm_m0 u 48)) i) i) i) 20 (ix ((jm_n2 (jm_n1 (jm_m2 (jm_mkA3 (jm_m0 u 48)) i) i) i) 4 i)))), .int (nI i), .ref (ad 10)]) (by first | (rw [e10]; done) | (rw [e10]; rfl)) ?_
                              refine J242 _ ?_
                              exact lv_sub hl [0, 1] rfl
                            refine lv_iconst (v := 1) hx hb d_M_mark_237 (by decide) ?_
                            refine lv_goto (tgt := 242) hx hb d_M_mark_238 rfl ?_
                            have J242 : ∀  (ls : Array Slot), lv_has ls 3 [(0, .ref (ad 0)), (1, .int (nI i))] → W p l e (jr 3) s m args below meth c H locs 0 0 Q (F0 m 242 ls [.int (jm_an ((jm_n2 (jm_n1 (jm_m2 (jm_mkA3 (jm_m0 u 48)) i) i) i) 9 i) ((jm_n2 (jm_n1 (jm_m2 (jm_mkA3 (jm_m0 u 48)) i) i) i) 20 (ix ((jm_n2 (jm_n1 (jm_m2 (jm_mkA3 (jm_m0 u 48)) i) i) i) 4 i)))), .int (nI i), .ref (ad 10)]) := by
                              intro  ls hl
                              refine jmi_zst hc hh 9 (by decide) (by decide) hi jm_an_z d_M_mark_242 (fun H locs hh => ?_)
                              refine lv_iinc (k := 1) (v := nI (i + 1)) (lv' := [(1, .int (nI (i + 1))), (0, .ref (ad 0))]) hx hb d_M_mark_243 hl rfl (nI_1 i) (by decide) rfl (fun ls hl => ?_)
                              refine lv_goto (tgt := 145) hx hb d_M_mark_246 rfl ?_
                              have e11 : (jm_m2 (jm_mkA3 (jm_m0 u 48)) (i + 1)) = (js_up (jm_n2 (jm_n1 (jm_m2 (jm_mkA3 (jm_m0 u 48)) i) i) i) 9 i (jm_an ((jm_n2 (jm_n1 (jm_m2 (jm_mkA3 (jm_m0 u 48)) i) i) i) 9 i) ((jm_n2 (jm_n1 (jm_m2 (jm_mkA3 (jm_m0 u 48)) i) i) i) 20 (ix ((jm_n2 (jm_n1 (jm_m2 (jm_mkA3 (jm_m0 u 48)) i) i) i) 4 i))))) := by simp [nI_0, jm_m2, jm_n3]
                              refine ih (i + 1) _ _ _ (by omega) ?_ ?_
                              ·
                                try rw [e11]
                                exact hh
                              try rw [e11]
                              exact lv_sub hl [1, 0] rfl
                            have e12 : (jm_an ((jm_n2 (jm_n1 (jm_m2 (jm_mkA3 (jm_m0 u 48)) i) i) i) 9 i) ((jm_n2 (jm_n1 (jm_m2 (jm_mkA3 (jm_m0 u 48)) i) i) i) 20 (ix ((jm_n2 (jm_n1 (jm_m2 (jm_mkA3 (jm_m0 u 48)) i) i) i) 4 i)))) = 1 := by simp [jm_an, h220, h234]
                            refine W.eq (g2 := F0 m 242 ls [.int (jm_an ((jm_n2 (jm_n1 (jm_m2 (jm_mkA3 (jm_m0 u 48)) i) i) i) 9 i) ((jm_n2 (jm_n1 (jm_m2 (jm_mkA3 (jm_m0 u 48)) i) i) i) 20 (ix ((jm_n2 (jm_n1 (jm_m2 (jm_mkA3 (jm_m0 u 48)) i) i) i) 4 i)))), .int (nI i), .ref (ad 10)]) (by first | (rw [e12]; done) | (rw [e12]; rfl)) ?_
                            refine J242 _ ?_
                            exact lv_sub hl [0, 1] rfl
                          have e13 : (jm_n2 (jm_n1 (jm_m2 (jm_mkA3 (jm_m0 u 48)) i) i) i) = (js_up (jm_n1 (jm_m2 (jm_mkA3 (jm_m0 u 48)) i) i) 10 i (jm_an ((jm_n1 (jm_m2 (jm_mkA3 (jm_m0 u 48)) i) i) 10 i) ((jm_n1 (jm_m2 (jm_mkA3 (jm_m0 u 48)) i) i) 19 i))) := rfl
                          refine J209 _ _ _ ?_ ?_
                          ·
                            try rw [e13]
                            exact hh
                          try rw [e13]
                          exact lv_sub hl [0, 1] rfl
                        have e14 : (jm_an ((jm_n1 (jm_m2 (jm_mkA3 (jm_m0 u 48)) i) i) 10 i) ((jm_n1 (jm_m2 (jm_mkA3 (jm_m0 u 48)) i) i) 19 i)) = 0 := by first | (simp [jm_an, h191]; done) | (simp [jm_an, eq_true h191]; done)
                        refine W.eq (g2 := F0 m 208 ls [.int (jm_an ((jm_n1 (jm_m2 (jm_mkA3 (jm_m0 u 48)) i) i) 10 i) ((jm_n1 (jm_m2 (jm_mkA3 (jm_m0 u 48)) i) i) 19 i)), .int (nI i), .ref (ad 11)]) (by first | (rw [e14]; done) | (rw [e14]; rfl)) ?_
                        refine J208 _ ?_
                        exact lv_sub hl [0, 1] rfl
                      refine lv_aload_n hx hb d_M_mark_194 rfl (lv_at hl 0 rfl) ?_
                      refine jg_M hc hh 19 (by decide) rfl wf_M_68 d_M_mark_195 ?_
                      refine lv_iload_n hx hb d_M_mark_198 rfl (lv_at hl 1 rfl) ?_
                      refine jmi_zld hc hh 19 (by decide) (by decide) hi d_M_mark_199 ?_
                      refine lv_if_eq (tgt := 207) hx hb d_M_mark_200 rfl (fun h200 => ?_) (fun h200 => ?_)
                      ·
                        refine lv_iconst (v := 0) hx hb d_M_mark_207 (by decide) ?_
                        have J208 : ∀  (ls : Array Slot), lv_has ls 3 [(0, .ref (ad 0)), (1, .int (nI i))] → W p l e (jr 3) s m args below meth c H locs 0 0 Q (F0 m 208 ls [.int (jm_an ((jm_n1 (jm_m2 (jm_mkA3 (jm_m0 u 48)) i) i) 10 i) ((jm_n1 (jm_m2 (jm_mkA3 (jm_m0 u 48)) i) i) 19 i)), .int (nI i), .ref (ad 11)]) := by
                          intro  ls hl
                          refine jmi_zst hc hh 10 (by decide) (by decide) hi jm_an_z d_M_mark_208 (fun H locs hh => ?_)
                          have J209 : ∀  (H : Heap) (locs : List Loc) (ls : Array Slot), jx_H D 22 ad (jm_cell ad cA (jm_n2 (jm_n1 (jm_m2 (jm_mkA3 (jm_m0 u 48)) i) i) i)) A s.heap H locs → lv_has ls 3 [(0, .ref (ad 0)), (1, .int (nI i))] → W p l e (jr 3) s m args below meth c H locs 0 0 Q (F0 m 209 ls []) := by
                            intro  H locs ls hh hl
                            refine lv_aload_n hx hb d_M_mark_209 rfl (lv_at hl 0 rfl) ?_
                            refine jg_M hc hh 9 (by decide) rfl wf_M_38 d_M_mark_210 ?_
                            refine lv_iload_n hx hb d_M_mark_213 rfl (lv_at hl 1 rfl) ?_
                            refine lv_aload_n hx hb d_M_mark_214 rfl (lv_at hl 0 rfl) ?_
                            refine jg_M hc hh 9 (by decide) rfl wf_M_38 d_M_mark_215 ?_
                            refine lv_iload_n hx hb d_M_mark_218 rfl (lv_at hl 1 rfl) ?_
                            refine jmi_zld hc hh 9 (by decide) (by decide) hi d_M_mark_219 ?_
                            refine lv_if_eq (tgt := 241) hx hb d_M_mark_220 rfl (fun h220 => ?_) (fun h220 => ?_)
                            ·
                              refine lv_iconst (v := 0) hx hb d_M_mark_241 (by decide) ?_
                              have J242 : ∀  (ls : Array Slot), lv_has ls 3 [(0, .ref (ad 0)), (1, .int (nI i))] → W p l e (jr 3) s m args below meth c H locs 0 0 Q (F0 m 242 ls [.int (jm_an ((jm_n2 (jm_n1 (jm_m2 (jm_mkA3 (jm_m0 u 48)) i) i) i) 9 i) ((jm_n2 (jm_n1 (jm_m2 (jm_mkA3 (jm_m0 u 48)) i) i) i) 20 (ix ((jm_n2 (jm_n1 (jm_m2 (jm_mkA3 (jm_m0 u 48)) i) i) i) 4 i)))), .int (nI i), .ref (ad 10)]) := by
                                intro  ls hl
                                refine jmi_zst hc hh 9 (by decide) (by decide) hi jm_an_z d_M_mark_242 (fun H locs hh => ?_)
                                refine lv_iinc (k := 1) (v := nI (i + 1)) (lv' := [(1, .int (nI (i + 1))), (0, .ref (ad 0))]) hx hb d_M_mark_243 hl rfl (nI_1 i) (by decide) rfl (fun ls hl => ?_)
                                refine lv_goto (tgt := 145) hx hb d_M_mark_246 rfl ?_
                                have e15 : (jm_m2 (jm_mkA3 (jm_m0 u 48)) (i + 1)) = (js_up (jm_n2 (jm_n1 (jm_m2 (jm_mkA3 (jm_m0 u 48)) i) i) i) 9 i (jm_an ((jm_n2 (jm_n1 (jm_m2 (jm_mkA3 (jm_m0 u 48)) i) i) i) 9 i) ((jm_n2 (jm_n1 (jm_m2 (jm_mkA3 (jm_m0 u 48)) i) i) i) 20 (ix ((jm_n2 (jm_n1 (jm_m2 (jm_mkA3 (jm_m0 u 48)) i) i) i) 4 i))))) := by simp [nI_0, jm_m2, jm_n3]
                                refine ih (i + 1) _ _ _ (by omega) ?_ ?_
                                ·
                                  try rw [e15]
                                  exact hh
                                try rw [e15]
                                exact lv_sub hl [1, 0] rfl
                              have e16 : (jm_an ((jm_n2 (jm_n1 (jm_m2 (jm_mkA3 (jm_m0 u 48)) i) i) i) 9 i) ((jm_n2 (jm_n1 (jm_m2 (jm_mkA3 (jm_m0 u 48)) i) i) i) 20 (ix ((jm_n2 (jm_n1 (jm_m2 (jm_mkA3 (jm_m0 u 48)) i) i) i) 4 i)))) = 0 := by first | (simp [jm_an, h220]; done) | (simp [jm_an, eq_true h220]; done)
                              refine W.eq (g2 := F0 m 242 ls [.int (jm_an ((jm_n2 (jm_n1 (jm_m2 (jm_mkA3 (jm_m0 u 48)) i) i) i) 9 i) ((jm_n2 (jm_n1 (jm_m2 (jm_mkA3 (jm_m0 u 48)) i) i) i) 20 (ix ((jm_n2 (jm_n1 (jm_m2 (jm_mkA3 (jm_m0 u 48)) i) i) i) 4 i)))), .int (nI i), .ref (ad 10)]) (by first | (rw [e16]; done) | (rw [e16]; rfl)) ?_
                              refine J242 _ ?_
                              exact lv_sub hl [0, 1] rfl
                            refine lv_aload_n hx hb d_M_mark_223 rfl (lv_at hl 0 rfl) ?_
                            refine jg_M hc hh 20 (by decide) rfl wf_M_71 d_M_mark_224 ?_
                            refine lv_aload_n hx hb d_M_mark_227 rfl (lv_at hl 0 rfl) ?_
                            refine jg_M hc hh 4 (by decide) rfl wf_M_23 d_M_mark_228 ?_
                            refine lv_iload_n hx hb d_M_mark_231 rfl (lv_at hl 1 rfl) ?_
                            refine jmi_ild hc hh 4 (by decide) (by decide) hi d_M_mark_232 ?_
                            refine jm_zld hc hh 20 (by decide) (by decide) ((jm_Sh_10 (jm_Sh_15 (jm_Sh_m2 (jm_Sh_A3 (jm_Sh_m0 hS 48)) i))).1 _ hi).1 d_M_mark_233 ?_
                            refine lv_if_eq (tgt := 241) hx hb d_M_mark_234 rfl (fun h234 => ?_) (fun h234 => ?_)
                            ·
                              refine lv_iconst (v := 0) hx hb d_M_mark_241 (by decide) ?_
                              have J242 : ∀  (ls : Array Slot), lv_has ls 3 [(0, .ref (ad 0)), (1, .int (nI i))] → W p l e (jr 3) s m args below meth c H locs 0 0 Q (F0 m 242 ls [.int (jm_an ((jm_n2 (jm_n1 (jm_m2 (jm_mkA3 (jm_m0 u 48)) i) i) i) 9 i) ((jm_n2 (jm_n1 (jm_m2 (jm_mkA3 (jm_m0 u 48)) i) i) i) 20 (ix ((jm_n2 (jm_n1 (jm_m2 (jm_mkA3 (jm_m0 u 48)) i) i) i) 4 i)))), .int (nI i), .ref (ad 10)]) := by
                                intro  ls hl
                                refine jmi_zst hc hh 9 (by decide) (by decide) hi jm_an_z d_M_mark_242 (fun H locs hh => ?_)
                                refine lv_iinc (k := 1) (v := nI (i + 1)) (lv' := [(1, .int (nI (i + 1))), (0, .ref (ad 0))]) hx hb d_M_mark_243 hl rfl (nI_1 i) (by decide) rfl (fun ls hl => ?_)
                                refine lv_goto (tgt := 145) hx hb d_M_mark_246 rfl ?_
                                have e17 : (jm_m2 (jm_mkA3 (jm_m0 u 48)) (i + 1)) = (js_up (jm_n2 (jm_n1 (jm_m2 (jm_mkA3 (jm_m0 u 48)) i) i) i) 9 i (jm_an ((jm_n2 (jm_n1 (jm_m2 (jm_mkA3 (jm_m0 u 48)) i) i) i) 9 i) ((jm_n2 (jm_n1 (jm_m2 (jm_mkA3 (jm_m0 u 48)) i) i) i) 20 (ix ((jm_n2 (jm_n1 (jm_m2 (jm_mkA3 (jm_m0 u 48)) i) i) i) 4 i))))) := by simp [nI_0, jm_m2, jm_n3]
                                refine ih (i + 1) _ _ _ (by omega) ?_ ?_
                                ·
                                  try rw [e17]
                                  exact hh
                                try rw [e17]
                                exact lv_sub hl [1, 0] rfl
                              have e18 : (jm_an ((jm_n2 (jm_n1 (jm_m2 (jm_mkA3 (jm_m0 u 48)) i) i) i) 9 i) ((jm_n2 (jm_n1 (jm_m2 (jm_mkA3 (jm_m0 u 48)) i) i) i) 20 (ix ((jm_n2 (jm_n1 (jm_m2 (jm_mkA3 (jm_m0 u 48)) i) i) i) 4 i)))) = 0 := by first | (simp [jm_an, h220, h234]; done) | (simp [jm_an, h220, eq_true h234]; done)
                              refine W.eq (g2 := F0 m 242 ls [.int (jm_an ((jm_n2 (jm_n1 (jm_m2 (jm_mkA3 (jm_m0 u 48)) i) i) i) 9 i) ((jm_n2 (jm_n1 (jm_m2 (jm_mkA3 (jm_m0 u 48)) i) i) i) 20 (ix ((jm_n2 (jm_n1 (jm_m2 (jm_mkA3 (jm_m0 u 48)) i) i) i) 4 i)))), .int (nI i), .ref (ad 10)]) (by first | (rw [e18]; done) | (rw [e18]; rfl)) ?_
                              refine J242 _ ?_
                              exact lv_sub hl [0, 1] rfl
                            refine lv_iconst (v := 1) hx hb d_M_mark_237 (by decide) ?_
                            refine lv_goto (tgt := 242) hx hb d_M_mark_238 rfl ?_
                            have J242 : ∀  (ls : Array Slot), lv_has ls 3 [(0, .ref (ad 0)), (1, .int (nI i))] → W p l e (jr 3) s m args below meth c H locs 0 0 Q (F0 m 242 ls [.int (jm_an ((jm_n2 (jm_n1 (jm_m2 (jm_mkA3 (jm_m0 u 48)) i) i) i) 9 i) ((jm_n2 (jm_n1 (jm_m2 (jm_mkA3 (jm_m0 u 48)) i) i) i) 20 (ix ((jm_n2 (jm_n1 (jm_m2 (jm_mkA3 (jm_m0 u 48)) i) i) i) 4 i)))), .int (nI i), .ref (ad 10)]) := by
                              intro  ls hl
                              refine jmi_zst hc hh 9 (by decide) (by decide) hi jm_an_z d_M_mark_242 (fun H locs hh => ?_)
                              refine lv_iinc (k := 1) (v := nI (i + 1)) (lv' := [(1, .int (nI (i + 1))), (0, .ref (ad 0))]) hx hb d_M_mark_243 hl rfl (nI_1 i) (by decide) rfl (fun ls hl => ?_)
                              refine lv_goto (tgt := 145) hx hb d_M_mark_246 rfl ?_
                              have e19 : (jm_m2 (jm_mkA3 (jm_m0 u 48)) (i + 1)) = (js_up (jm_n2 (jm_n1 (jm_m2 (jm_mkA3 (jm_m0 u 48)) i) i) i) 9 i (jm_an ((jm_n2 (jm_n1 (jm_m2 (jm_mkA3 (jm_m0 u 48)) i) i) i) 9 i) ((jm_n2 (jm_n1 (jm_m2 (jm_mkA3 (jm_m0 u 48)) i) i) i) 20 (ix ((jm_n2 (jm_n1 (jm_m2 (jm_mkA3 (jm_m0 u 48)) i) i) i) 4 i))))) := by simp [nI_0, jm_m2, jm_n3]
                              refine ih (i + 1) _ _ _ (by omega) ?_ ?_
                              ·
                                try rw [e19]
                                exact hh
                              try rw [e19]
                              exact lv_sub hl [1, 0] rfl
                            have e20 : (jm_an ((jm_n2 (jm_n1 (jm_m2 (jm_mkA3 (jm_m0 u 48)) i) i) i) 9 i) ((jm_n2 (jm_n1 (jm_m2 (jm_mkA3 (jm_m0 u 48)) i) i) i) 20 (ix ((jm_n2 (jm_n1 (jm_m2 (jm_mkA3 (jm_m0 u 48)) i) i) i) 4 i)))) = 1 := by simp [jm_an, h220, h234]
                            refine W.eq (g2 := F0 m 242 ls [.int (jm_an ((jm_n2 (jm_n1 (jm_m2 (jm_mkA3 (jm_m0 u 48)) i) i) i) 9 i) ((jm_n2 (jm_n1 (jm_m2 (jm_mkA3 (jm_m0 u 48)) i) i) i) 20 (ix ((jm_n2 (jm_n1 (jm_m2 (jm_mkA3 (jm_m0 u 48)) i) i) i) 4 i)))), .int (nI i), .ref (ad 10)]) (by first | (rw [e20]; done) | (rw [e20]; rfl)) ?_
                            refine J242 _ ?_
                            exact lv_sub hl [0, 1] rfl
                          have e21 : (jm_n2 (jm_n1 (jm_m2 (jm_mkA3 (jm_m0 u 48)) i) i) i) = (js_up (jm_n1 (jm_m2 (jm_mkA3 (jm_m0 u 48)) i) i) 10 i (jm_an ((jm_n1 (jm_m2 (jm_mkA3 (jm_m0 u 48)) i) i) 10 i) ((jm_n1 (jm_m2 (jm_mkA3 (jm_m0 u 48)) i) i) 19 i))) := rfl
                          refine J209 _ _ _ ?_ ?_
                          ·
                            try rw [e21]
                            exact hh
                          try rw [e21]
                          exact lv_sub hl [0, 1] rfl
                        have e22 : (jm_an ((jm_n1 (jm_m2 (jm_mkA3 (jm_m0 u 48)) i) i) 10 i) ((jm_n1 (jm_m2 (jm_mkA3 (jm_m0 u 48)) i) i) 19 i)) = 0 := by first | (simp [jm_an, h191, h200]; done) | (simp [jm_an, h191, eq_true h200]; done)
                        refine W.eq (g2 := F0 m 208 ls [.int (jm_an ((jm_n1 (jm_m2 (jm_mkA3 (jm_m0 u 48)) i) i) 10 i) ((jm_n1 (jm_m2 (jm_mkA3 (jm_m0 u 48)) i) i) 19 i)), .int (nI i), .ref (ad 11)]) (by first | (rw [e22]; done) | (rw [e22]; rfl)) ?_
                        refine J208 _ ?_
                        exact lv_sub hl [0, 1] rfl
                      refine lv_iconst (v := 1) hx hb d_M_mark_203 (by decide) ?_
                      refine lv_goto (tgt := 208) hx hb d_M_mark_204 rfl ?_
                      have J208 : ∀  (ls : Array Slot), lv_has ls 3 [(0, .ref (ad 0)), (1, .int (nI i))] → W p l e (jr 3) s m args below meth c H locs 0 0 Q (F0 m 208 ls [.int (jm_an ((jm_n1 (jm_m2 (jm_mkA3 (jm_m0 u 48)) i) i) 10 i) ((jm_n1 (jm_m2 (jm_mkA3 (jm_m0 u 48)) i) i) 19 i)), .int (nI i), .ref (ad 11)]) := by
                        intro  ls hl
                        refine jmi_zst hc hh 10 (by decide) (by decide) hi jm_an_z d_M_mark_208 (fun H locs hh => ?_)
                        have J209 : ∀  (H : Heap) (locs : List Loc) (ls : Array Slot), jx_H D 22 ad (jm_cell ad cA (jm_n2 (jm_n1 (jm_m2 (jm_mkA3 (jm_m0 u 48)) i) i) i)) A s.heap H locs → lv_has ls 3 [(0, .ref (ad 0)), (1, .int (nI i))] → W p l e (jr 3) s m args below meth c H locs 0 0 Q (F0 m 209 ls []) := by
                          intro  H locs ls hh hl
                          refine lv_aload_n hx hb d_M_mark_209 rfl (lv_at hl 0 rfl) ?_
                          refine jg_M hc hh 9 (by decide) rfl wf_M_38 d_M_mark_210 ?_
                          refine lv_iload_n hx hb d_M_mark_213 rfl (lv_at hl 1 rfl) ?_
                          refine lv_aload_n hx hb d_M_mark_214 rfl (lv_at hl 0 rfl) ?_
                          refine jg_M hc hh 9 (by decide) rfl wf_M_38 d_M_mark_215 ?_
                          refine lv_iload_n hx hb d_M_mark_218 rfl (lv_at hl 1 rfl) ?_
                          refine jmi_zld hc hh 9 (by decide) (by decide) hi d_M_mark_219 ?_
                          refine lv_if_eq (tgt := 241) hx hb d_M_mark_220 rfl (fun h220 => ?_) (fun h220 => ?_)
                          ·
                            refine lv_iconst (v := 0) hx hb d_M_mark_241 (by decide) ?_
                            have J242 : ∀  (ls : Array Slot), lv_has ls 3 [(0, .ref (ad 0)), (1, .int (nI i))] → W p l e (jr 3) s m args below meth c H locs 0 0 Q (F0 m 242 ls [.int (jm_an ((jm_n2 (jm_n1 (jm_m2 (jm_mkA3 (jm_m0 u 48)) i) i) i) 9 i) ((jm_n2 (jm_n1 (jm_m2 (jm_mkA3 (jm_m0 u 48)) i) i) i) 20 (ix ((jm_n2 (jm_n1 (jm_m2 (jm_mkA3 (jm_m0 u 48)) i) i) i) 4 i)))), .int (nI i), .ref (ad 10)]) := by
                              intro  ls hl
                              refine jmi_zst hc hh 9 (by decide) (by decide) hi jm_an_z d_M_mark_242 (fun H locs hh => ?_)
                              refine lv_iinc (k := 1) (v := nI (i + 1)) (lv' := [(1, .int (nI (i + 1))), (0, .ref (ad 0))]) hx hb d_M_mark_243 hl rfl (nI_1 i) (by decide) rfl (fun ls hl => ?_)
                              refine lv_goto (tgt := 145) hx hb d_M_mark_246 rfl ?_
                              have e23 : (jm_m2 (jm_mkA3 (jm_m0 u 48)) (i + 1)) = (js_up (jm_n2 (jm_n1 (jm_m2 (jm_mkA3 (jm_m0 u 48)) i) i) i) 9 i (jm_an ((jm_n2 (jm_n1 (jm_m2 (jm_mkA3 (jm_m0 u 48)) i) i) i) 9 i) ((jm_n2 (jm_n1 (jm_m2 (jm_mkA3 (jm_m0 u 48)) i) i) i) 20 (ix ((jm_n2 (jm_n1 (jm_m2 (jm_mkA3 (jm_m0 u 48)) i) i) i) 4 i))))) := by simp [nI_0, jm_m2, jm_n3]
                              refine ih (i + 1) _ _ _ (by omega) ?_ ?_
                              ·
                                try rw [e23]
                                exact hh
                              try rw [e23]
                              exact lv_sub hl [1, 0] rfl
                            have e24 : (jm_an ((jm_n2 (jm_n1 (jm_m2 (jm_mkA3 (jm_m0 u 48)) i) i) i) 9 i) ((jm_n2 (jm_n1 (jm_m2 (jm_mkA3 (jm_m0 u 48)) i) i) i) 20 (ix ((jm_n2 (jm_n1 (jm_m2 (jm_mkA3 (jm_m0 u 48)) i) i) i) 4 i)))) = 0 := by first | (simp [jm_an, h220]; done) | (simp [jm_an, eq_true h220]; done)
                            refine W.eq (g2 := F0 m 242 ls [.int (jm_an ((jm_n2 (jm_n1 (jm_m2 (jm_mkA3 (jm_m0 u 48)) i) i) i) 9 i) ((jm_n2 (jm_n1 (jm_m2 (jm_mkA3 (jm_m0 u 48)) i) i) i) 20 (ix ((jm_n2 (jm_n1 (jm_m2 (jm_mkA3 (jm_m0 u 48)) i) i) i) 4 i)))), .int (nI i), .ref (ad 10)]) (by first | (rw [e24]; done) | (rw [e24]; rfl)) ?_
                            refine J242 _ ?_
                            exact lv_sub hl [0, 1] rfl
                          refine lv_aload_n hx hb d_M_mark_223 rfl (lv_at hl 0 rfl) ?_
                          refine jg_M hc hh 20 (by decide) rfl wf_M_71 d_M_mark_224 ?_
                          refine lv_aload_n hx hb d_M_mark_227 rfl (lv_at hl 0 rfl) ?_
                          refine jg_M hc hh 4 (by decide) rfl wf_M_23 d_M_mark_228 ?_
                          refine lv_iload_n hx hb d_M_mark_231 rfl (lv_at hl 1 rfl) ?_
                          refine jmi_ild hc hh 4 (by decide) (by decide) hi d_M_mark_232 ?_
                          refine jm_zld hc hh 20 (by decide) (by decide) ((jm_Sh_10 (jm_Sh_15 (jm_Sh_m2 (jm_Sh_A3 (jm_Sh_m0 hS 48)) i))).1 _ hi).1 d_M_mark_233 ?_
                          refine lv_if_eq (tgt := 241) hx hb d_M_mark_234 rfl (fun h234 => ?_) (fun h234 => ?_)
                          ·
                            refine lv_iconst (v := 0) hx hb d_M_mark_241 (by decide) ?_
                            have J242 : ∀  (ls : Array Slot), lv_has ls 3 [(0, .ref (ad 0)), (1, .int (nI i))] → W p l e (jr 3) s m args below meth c H locs 0 0 Q (F0 m 242 ls [.int (jm_an ((jm_n2 (jm_n1 (jm_m2 (jm_mkA3 (jm_m0 u 48)) i) i) i) 9 i) ((jm_n2 (jm_n1 (jm_m2 (jm_mkA3 (jm_m0 u 48)) i) i) i) 20 (ix ((jm_n2 (jm_n1 (jm_m2 (jm_mkA3 (jm_m0 u 48)) i) i) i) 4 i)))), .int (nI i), .ref (ad 10)]) := by
                              intro  ls hl
                              refine jmi_zst hc hh 9 (by decide) (by decide) hi jm_an_z d_M_mark_242 (fun H locs hh => ?_)
                              refine lv_iinc (k := 1) (v := nI (i + 1)) (lv' := [(1, .int (nI (i + 1))), (0, .ref (ad 0))]) hx hb d_M_mark_243 hl rfl (nI_1 i) (by decide) rfl (fun ls hl => ?_)
                              refine lv_goto (tgt := 145) hx hb d_M_mark_246 rfl ?_
                              have e25 : (jm_m2 (jm_mkA3 (jm_m0 u 48)) (i + 1)) = (js_up (jm_n2 (jm_n1 (jm_m2 (jm_mkA3 (jm_m0 u 48)) i) i) i) 9 i (jm_an ((jm_n2 (jm_n1 (jm_m2 (jm_mkA3 (jm_m0 u 48)) i) i) i) 9 i) ((jm_n2 (jm_n1 (jm_m2 (jm_mkA3 (jm_m0 u 48)) i) i) i) 20 (ix ((jm_n2 (jm_n1 (jm_m2 (jm_mkA3 (jm_m0 u 48)) i) i) i) 4 i))))) := by simp [nI_0, jm_m2, jm_n3]
                              refine ih (i + 1) _ _ _ (by omega) ?_ ?_
                              ·
                                try rw [e25]
                                exact hh
                              try rw [e25]
                              exact lv_sub hl [1, 0] rfl
                            have e26 : (jm_an ((jm_n2 (jm_n1 (jm_m2 (jm_mkA3 (jm_m0 u 48)) i) i) i) 9 i) ((jm_n2 (jm_n1 (jm_m2 (jm_mkA3 (jm_m0 u 48)) i) i) i) 20 (ix ((jm_n2 (jm_n1 (jm_m2 (jm_mkA3 (jm_m0 u 48)) i) i) i) 4 i)))) = 0 := by first | (simp [jm_an, h220, h234]; done) | (simp [jm_an, h220, eq_true h234]; done)
                            refine W.eq (g2 := F0 m 242 ls [.int (jm_an ((jm_n2 (jm_n1 (jm_m2 (jm_mkA3 (jm_m0 u 48)) i) i) i) 9 i) ((jm_n2 (jm_n1 (jm_m2 (jm_mkA3 (jm_m0 u 48)) i) i) i) 20 (ix ((jm_n2 (jm_n1 (jm_m2 (jm_mkA3 (jm_m0 u 48)) i) i) i) 4 i)))), .int (nI i), .ref (ad 10)]) (by first | (rw [e26]; done) | (rw [e26]; rfl)) ?_
                            refine J242 _ ?_
                            exact lv_sub hl [0, 1] rfl
                          refine lv_iconst (v := 1) hx hb d_M_mark_237 (by decide) ?_
                          refine lv_goto (tgt := 242) hx hb d_M_mark_238 rfl ?_
                          have J242 : ∀  (ls : Array Slot), lv_has ls 3 [(0, .ref (ad 0)), (1, .int (nI i))] → W p l e (jr 3) s m args below meth c H locs 0 0 Q (F0 m 242 ls [.int (jm_an ((jm_n2 (jm_n1 (jm_m2 (jm_mkA3 (jm_m0 u 48)) i) i) i) 9 i) ((jm_n2 (jm_n1 (jm_m2 (jm_mkA3 (jm_m0 u 48)) i) i) i) 20 (ix ((jm_n2 (jm_n1 (jm_m2 (jm_mkA3 (jm_m0 u 48)) i) i) i) 4 i)))), .int (nI i), .ref (ad 10)]) := by
                            intro  ls hl
                            refine jmi_zst hc hh 9 (by decide) (by decide) hi jm_an_z d_M_mark_242 (fun H locs hh => ?_)
                            refine lv_iinc (k := 1) (v := nI (i + 1)) (lv' := [(1, .int (nI (i + 1))), (0, .ref (ad 0))]) hx hb d_M_mark_243 hl rfl (nI_1 i) (by decide) rfl (fun ls hl => ?_)
                            refine lv_goto (tgt := 145) hx hb d_M_mark_246 rfl ?_
                            have e27 : (jm_m2 (jm_mkA3 (jm_m0 u 48)) (i + 1)) = (js_up (jm_n2 (jm_n1 (jm_m2 (jm_mkA3 (jm_m0 u 48)) i) i) i) 9 i (jm_an ((jm_n2 (jm_n1 (jm_m2 (jm_mkA3 (jm_m0 u 48)) i) i) i) 9 i) ((jm_n2 (jm_n1 (jm_m2 (jm_mkA3 (jm_m0 u 48)) i) i) i) 20 (ix ((jm_n2 (jm_n1 (jm_m2 (jm_mkA3 (jm_m0 u 48)) i) i) i) 4 i))))) := by simp [nI_0, jm_m2, jm_n3]
                            refine ih (i + 1) _ _ _ (by omega) ?_ ?_
                            ·
                              try rw [e27]
                              exact hh
                            try rw [e27]
                            exact lv_sub hl [1, 0] rfl
                          have e28 : (jm_an ((jm_n2 (jm_n1 (jm_m2 (jm_mkA3 (jm_m0 u 48)) i) i) i) 9 i) ((jm_n2 (jm_n1 (jm_m2 (jm_mkA3 (jm_m0 u 48)) i) i) i) 20 (ix ((jm_n2 (jm_n1 (jm_m2 (jm_mkA3 (jm_m0 u 48)) i) i) i) 4 i)))) = 1 := by simp [jm_an, h220, h234]
                          refine W.eq (g2 := F0 m 242 ls [.int (jm_an ((jm_n2 (jm_n1 (jm_m2 (jm_mkA3 (jm_m0 u 48)) i) i) i) 9 i) ((jm_n2 (jm_n1 (jm_m2 (jm_mkA3 (jm_m0 u 48)) i) i) i) 20 (ix ((jm_n2 (jm_n1 (jm_m2 (jm_mkA3 (jm_m0 u 48)) i) i) i) 4 i)))), .int (nI i), .ref (ad 10)]) (by first | (rw [e28]; done) | (rw [e28]; rfl)) ?_
                          refine J242 _ ?_
                          exact lv_sub hl [0, 1] rfl
                        have e29 : (jm_n2 (jm_n1 (jm_m2 (jm_mkA3 (jm_m0 u 48)) i) i) i) = (js_up (jm_n1 (jm_m2 (jm_mkA3 (jm_m0 u 48)) i) i) 10 i (jm_an ((jm_n1 (jm_m2 (jm_mkA3 (jm_m0 u 48)) i) i) 10 i) ((jm_n1 (jm_m2 (jm_mkA3 (jm_m0 u 48)) i) i) 19 i))) := rfl
                        refine J209 _ _ _ ?_ ?_
                        ·
                          try rw [e29]
                          exact hh
                        try rw [e29]
                        exact lv_sub hl [0, 1] rfl
                      have e30 : (jm_an ((jm_n1 (jm_m2 (jm_mkA3 (jm_m0 u 48)) i) i) 10 i) ((jm_n1 (jm_m2 (jm_mkA3 (jm_m0 u 48)) i) i) 19 i)) = 1 := by simp [jm_an, h191, h200]
                      refine W.eq (g2 := F0 m 208 ls [.int (jm_an ((jm_n1 (jm_m2 (jm_mkA3 (jm_m0 u 48)) i) i) 10 i) ((jm_n1 (jm_m2 (jm_mkA3 (jm_m0 u 48)) i) i) 19 i)), .int (nI i), .ref (ad 11)]) (by first | (rw [e30]; done) | (rw [e30]; rfl)) ?_
                      refine J208 _ ?_
                      exact lv_sub hl [0, 1] rfl
                    have e31 : (jm_n1 (jm_m2 (jm_mkA3 (jm_m0 u 48)) i) i) = (js_up (jm_m2 (jm_mkA3 (jm_m0 u 48)) i) 15 i (jm_an ((jm_m2 (jm_mkA3 (jm_m0 u 48)) i) 15 i) ((jm_m2 (jm_mkA3 (jm_m0 u 48)) i) 20 i))) := rfl
                    refine J180 _ _ _ ?_ ?_
                    ·
                      try rw [e31]
                      exact hh
                    try rw [e31]
                    exact lv_sub hl [0, 1] rfl
                  have e32 : (jm_an ((jm_m2 (jm_mkA3 (jm_m0 u 48)) i) 15 i) ((jm_m2 (jm_mkA3 (jm_m0 u 48)) i) 20 i)) = 0 := by first | (simp [jm_an, h162]; done) | (simp [jm_an, eq_true h162]; done)
                  refine W.eq (g2 := F0 m 179 ls [.int (jm_an ((jm_m2 (jm_mkA3 (jm_m0 u 48)) i) 15 i) ((jm_m2 (jm_mkA3 (jm_m0 u 48)) i) 20 i)), .int (nI i), .ref (ad 16)]) (by first | (rw [e32]; done) | (rw [e32]; rfl)) ?_
                  refine J179 _ ?_
                  exact lv_sub hl [0, 1] rfl
                refine lv_aload_n hx hb d_M_mark_165 rfl (lv_at hl 0 rfl) ?_
                refine jg_M hc hh 20 (by decide) rfl wf_M_71 d_M_mark_166 ?_
                refine lv_iload_n hx hb d_M_mark_169 rfl (lv_at hl 1 rfl) ?_
                refine jmi_zld hc hh 20 (by decide) (by decide) hi d_M_mark_170 ?_
                refine lv_if_eq (tgt := 178) hx hb d_M_mark_171 rfl (fun h171 => ?_) (fun h171 => ?_)
                ·
                  refine lv_iconst (v := 0) hx hb d_M_mark_178 (by decide) ?_
                  have J179 : ∀  (ls : Array Slot), lv_has ls 3 [(0, .ref (ad 0)), (1, .int (nI i))] → W p l e (jr 3) s m args below meth c H locs 0 0 Q (F0 m 179 ls [.int (jm_an ((jm_m2 (jm_mkA3 (jm_m0 u 48)) i) 15 i) ((jm_m2 (jm_mkA3 (jm_m0 u 48)) i) 20 i)), .int (nI i), .ref (ad 16)]) := by
                    intro  ls hl
                    refine jmi_zst hc hh 15 (by decide) (by decide) hi jm_an_z d_M_mark_179 (fun H locs hh => ?_)
                    have J180 : ∀  (H : Heap) (locs : List Loc) (ls : Array Slot), jx_H D 22 ad (jm_cell ad cA (jm_n1 (jm_m2 (jm_mkA3 (jm_m0 u 48)) i) i)) A s.heap H locs → lv_has ls 3 [(0, .ref (ad 0)), (1, .int (nI i))] → W p l e (jr 3) s m args below meth c H locs 0 0 Q (F0 m 180 ls []) := by
                      intro  H locs ls hh hl
                      refine lv_aload_n hx hb d_M_mark_180 rfl (lv_at hl 0 rfl) ?_
                      refine jg_M hc hh 10 (by decide) rfl wf_M_41 d_M_mark_181 ?_
                      refine lv_iload_n hx hb d_M_mark_184 rfl (lv_at hl 1 rfl) ?_
                      refine lv_aload_n hx hb d_M_mark_185 rfl (lv_at hl 0 rfl) ?_
                      refine jg_M hc hh 10 (by decide) rfl wf_M_41 d_M_mark_186 ?_
                      refine lv_iload_n hx hb d_M_mark_189 rfl (lv_at hl 1 rfl) ?_
                      refine jmi_zld hc hh 10 (by decide) (by decide) hi d_M_mark_190 ?_
                      refine lv_if_eq (tgt := 207) hx hb d_M_mark_191 rfl (fun h191 => ?_) (fun h191 => ?_)
                      ·
                        refine lv_iconst (v := 0) hx hb d_M_mark_207 (by decide) ?_
                        have J208 : ∀  (ls : Array Slot), lv_has ls 3 [(0, .ref (ad 0)), (1, .int (nI i))] → W p l e (jr 3) s m args below meth c H locs 0 0 Q (F0 m 208 ls [.int (jm_an ((jm_n1 (jm_m2 (jm_mkA3 (jm_m0 u 48)) i) i) 10 i) ((jm_n1 (jm_m2 (jm_mkA3 (jm_m0 u 48)) i) i) 19 i)), .int (nI i), .ref (ad 11)]) := by
                          intro  ls hl
                          refine jmi_zst hc hh 10 (by decide) (by decide) hi jm_an_z d_M_mark_208 (fun H locs hh => ?_)
                          have J209 : ∀  (H : Heap) (locs : List Loc) (ls : Array Slot), jx_H D 22 ad (jm_cell ad cA (jm_n2 (jm_n1 (jm_m2 (jm_mkA3 (jm_m0 u 48)) i) i) i)) A s.heap H locs → lv_has ls 3 [(0, .ref (ad 0)), (1, .int (nI i))] → W p l e (jr 3) s m args below meth c H locs 0 0 Q (F0 m 209 ls []) := by
                            intro  H locs ls hh hl
                            refine lv_aload_n hx hb d_M_mark_209 rfl (lv_at hl 0 rfl) ?_
                            refine jg_M hc hh 9 (by decide) rfl wf_M_38 d_M_mark_210 ?_
                            refine lv_iload_n hx hb d_M_mark_213 rfl (lv_at hl 1 rfl) ?_
                            refine lv_aload_n hx hb d_M_mark_214 rfl (lv_at hl 0 rfl) ?_
                            refine jg_M hc hh 9 (by decide) rfl wf_M_38 d_M_mark_215 ?_
                            refine lv_iload_n hx hb d_M_mark_218 rfl (lv_at hl 1 rfl) ?_
                            refine jmi_zld hc hh 9 (by decide) (by decide) hi d_M_mark_219 ?_
                            refine lv_if_eq (tgt := 241) hx hb d_M_mark_220 rfl (fun h220 => ?_) (fun h220 => ?_)
                            ·
                              refine lv_iconst (v := 0) hx hb d_M_mark_241 (by decide) ?_
                              have J242 : ∀  (ls : Array Slot), lv_has ls 3 [(0, .ref (ad 0)), (1, .int (nI i))] → W p l e (jr 3) s m args below meth c H locs 0 0 Q (F0 m 242 ls [.int (jm_an ((jm_n2 (jm_n1 (jm_m2 (jm_mkA3 (jm_m0 u 48)) i) i) i) 9 i) ((jm_n2 (jm_n1 (jm_m2 (jm_mkA3 (jm_m0 u 48)) i) i) i) 20 (ix ((jm_n2 (jm_n1 (jm_m2 (jm_mkA3 (jm_m0 u 48)) i) i) i) 4 i)))), .int (nI i), .ref (ad 10)]) := by
                                intro  ls hl
                                refine jmi_zst hc hh 9 (by decide) (by decide) hi jm_an_z d_M_mark_242 (fun H locs hh => ?_)
                                refine lv_iinc (k := 1) (v := nI (i + 1)) (lv' := [(1, .int (nI (i + 1))), (0, .ref (ad 0))]) hx hb d_M_mark_243 hl rfl (nI_1 i) (by decide) rfl (fun ls hl => ?_)
                                refine lv_goto (tgt := 145) hx hb d_M_mark_246 rfl ?_
                                have e33 : (jm_m2 (jm_mkA3 (jm_m0 u 48)) (i + 1)) = (js_up (jm_n2 (jm_n1 (jm_m2 (jm_mkA3 (jm_m0 u 48)) i) i) i) 9 i (jm_an ((jm_n2 (jm_n1 (jm_m2 (jm_mkA3 (jm_m0 u 48)) i) i) i) 9 i) ((jm_n2 (jm_n1 (jm_m2 (jm_mkA3 (jm_m0 u 48)) i) i) i) 20 (ix ((jm_n2 (jm_n1 (jm_m2 (jm_mkA3 (jm_m0 u 48)) i) i) i) 4 i))))) := by simp [nI_0, jm_m2, jm_n3]
                                refine ih (i + 1) _ _ _ (by omega) ?_ ?_
                                ·
                                  try rw [e33]
                                  exact hh
                                try rw [e33]
                                exact lv_sub hl [1, 0] rfl
                              have e34 : (jm_an ((jm_n2 (jm_n1 (jm_m2 (jm_mkA3 (jm_m0 u 48)) i) i) i) 9 i) ((jm_n2 (jm_n1 (jm_m2 (jm_mkA3 (jm_m0 u 48)) i) i) i) 20 (ix ((jm_n2 (jm_n1 (jm_m2 (jm_mkA3 (jm_m0 u 48)) i) i) i) 4 i)))) = 0 := by first | (simp [jm_an, h220]; done) | (simp [jm_an, eq_true h220]; done)
                              refine W.eq (g2 := F0 m 242 ls [.int (jm_an ((jm_n2 (jm_n1 (jm_m2 (jm_mkA3 (jm_m0 u 48)) i) i) i) 9 i) ((jm_n2 (jm_n1 (jm_m2 (jm_mkA3 (jm_m0 u 48)) i) i) i) 20 (ix ((jm_n2 (jm_n1 (jm_m2 (jm_mkA3 (jm_m0 u 48)) i) i) i) 4 i)))), .int (nI i), .ref (ad 10)]) (by first | (rw [e34]; done) | (rw [e34]; rfl)) ?_
                              refine J242 _ ?_
                              exact lv_sub hl [0, 1] rfl
                            refine lv_aload_n hx hb d_M_mark_223 rfl (lv_at hl 0 rfl) ?_
                            refine jg_M hc hh 20 (by decide) rfl wf_M_71 d_M_mark_224 ?_
                            refine lv_aload_n hx hb d_M_mark_227 rfl (lv_at hl 0 rfl) ?_
                            refine jg_M hc hh 4 (by decide) rfl wf_M_23 d_M_mark_228 ?_
                            refine lv_iload_n hx hb d_M_mark_231 rfl (lv_at hl 1 rfl) ?_
                            refine jmi_ild hc hh 4 (by decide) (by decide) hi d_M_mark_232 ?_
                            refine jm_zld hc hh 20 (by decide) (by decide) ((jm_Sh_10 (jm_Sh_15 (jm_Sh_m2 (jm_Sh_A3 (jm_Sh_m0 hS 48)) i))).1 _ hi).1 d_M_mark_233 ?_
                            refine lv_if_eq (tgt := 241) hx hb d_M_mark_234 rfl (fun h234 => ?_) (fun h234 => ?_)
                            ·
                              refine lv_iconst (v := 0) hx hb d_M_mark_241 (by decide) ?_
                              have J242 : ∀  (ls : Array Slot), lv_has ls 3 [(0, .ref (ad 0)), (1, .int (nI i))] → W p l e (jr 3) s m args below meth c H locs 0 0 Q (F0 m 242 ls [.int (jm_an ((jm_n2 (jm_n1 (jm_m2 (jm_mkA3 (jm_m0 u 48)) i) i) i) 9 i) ((jm_n2 (jm_n1 (jm_m2 (jm_mkA3 (jm_m0 u 48)) i) i) i) 20 (ix ((jm_n2 (jm_n1 (jm_m2 (jm_mkA3 (jm_m0 u 48)) i) i) i) 4 i)))), .int (nI i), .ref (ad 10)]) := by
                                intro  ls hl
                                refine jmi_zst hc hh 9 (by decide) (by decide) hi jm_an_z d_M_mark_242 (fun H locs hh => ?_)
                                refine lv_iinc (k := 1) (v := nI (i + 1)) (lv' := [(1, .int (nI (i + 1))), (0, .ref (ad 0))]) hx hb d_M_mark_243 hl rfl (nI_1 i) (by decide) rfl (fun ls hl => ?_)
                                refine lv_goto (tgt := 145) hx hb d_M_mark_246 rfl ?_
                                have e35 : (jm_m2 (jm_mkA3 (jm_m0 u 48)) (i + 1)) = (js_up (jm_n2 (jm_n1 (jm_m2 (jm_mkA3 (jm_m0 u 48)) i) i) i) 9 i (jm_an ((jm_n2 (jm_n1 (jm_m2 (jm_mkA3 (jm_m0 u 48)) i) i) i) 9 i) ((jm_n2 (jm_n1 (jm_m2 (jm_mkA3 (jm_m0 u 48)) i) i) i) 20 (ix ((jm_n2 (jm_n1 (jm_m2 (jm_mkA3 (jm_m0 u 48)) i) i) i) 4 i))))) := by simp [nI_0, jm_m2, jm_n3]
                                refine ih (i + 1) _ _ _ (by omega) ?_ ?_
                                ·
                                  try rw [e35]
                                  exact hh
                                try rw [e35]
                                exact lv_sub hl [1, 0] rfl
                              have e36 : (jm_an ((jm_n2 (jm_n1 (jm_m2 (jm_mkA3 (jm_m0 u 48)) i) i) i) 9 i) ((jm_n2 (jm_n1 (jm_m2 (jm_mkA3 (jm_m0 u 48)) i) i) i) 20 (ix ((jm_n2 (jm_n1 (jm_m2 (jm_mkA3 (jm_m0 u 48)) i) i) i) 4 i)))) = 0 := by first | (simp [jm_an, h220, h234]; done) | (simp [jm_an, h220, eq_true h234]; done)
                              refine W.eq (g2 := F0 m 242 ls [.int (jm_an ((jm_n2 (jm_n1 (jm_m2 (jm_mkA3 (jm_m0 u 48)) i) i) i) 9 i) ((jm_n2 (jm_n1 (jm_m2 (jm_mkA3 (jm_m0 u 48)) i) i) i) 20 (ix ((jm_n2 (jm_n1 (jm_m2 (jm_mkA3 (jm_m0 u 48)) i) i) i) 4 i)))), .int (nI i), .ref (ad 10)]) (by first | (rw [e36]; done) | (rw [e36]; rfl)) ?_
                              refine J242 _ ?_
                              exact lv_sub hl [0, 1] rfl
                            refine lv_iconst (v := 1) hx hb d_M_mark_237 (by decide) ?_
                            refine lv_goto (tgt := 242) hx hb d_M_mark_238 rfl ?_
                            have J242 : ∀  (ls : Array Slot), lv_has ls 3 [(0, .ref (ad 0)), (1, .int (nI i))] → W p l e (jr 3) s m args below meth c H locs 0 0 Q (F0 m 242 ls [.int (jm_an ((jm_n2 (jm_n1 (jm_m2 (jm_mkA3 (jm_m0 u 48)) i) i) i) 9 i) ((jm_n2 (jm_n1 (jm_m2 (jm_mkA3 (jm_m0 u 48)) i) i) i) 20 (ix ((jm_n2 (jm_n1 (jm_m2 (jm_mkA3 (jm_m0 u 48)) i) i) i) 4 i)))), .int (nI i), .ref (ad 10)]) := by
                              intro  ls hl
                              refine jmi_zst hc hh 9 (by decide) (by decide) hi jm_an_z d_M_mark_242 (fun H locs hh => ?_)
                              refine lv_iinc (k := 1) (v := nI (i + 1)) (lv' := [(1, .int (nI (i + 1))), (0, .ref (ad 0))]) hx hb d_M_mark_243 hl rfl (nI_1 i) (by decide) rfl (fun ls hl => ?_)
                              refine lv_goto (tgt := 145) hx hb d_M_mark_246 rfl ?_
                              have e37 : (jm_m2 (jm_mkA3 (jm_m0 u 48)) (i + 1)) = (js_up (jm_n2 (jm_n1 (jm_m2 (jm_mkA3 (jm_m0 u 48)) i) i) i) 9 i (jm_an ((jm_n2 (jm_n1 (jm_m2 (jm_mkA3 (jm_m0 u 48)) i) i) i) 9 i) ((jm_n2 (jm_n1 (jm_m2 (jm_mkA3 (jm_m0 u 48)) i) i) i) 20 (ix ((jm_n2 (jm_n1 (jm_m2 (jm_mkA3 (jm_m0 u 48)) i) i) i) 4 i))))) := by simp [nI_0, jm_m2, jm_n3]
                              refine ih (i + 1) _ _ _ (by omega) ?_ ?_
                              ·
                                try rw [e37]
                                exact hh
                              try rw [e37]
                              exact lv_sub hl [1, 0] rfl
                            have e38 : (jm_an ((jm_n2 (jm_n1 (jm_m2 (jm_mkA3 (jm_m0 u 48)) i) i) i) 9 i) ((jm_n2 (jm_n1 (jm_m2 (jm_mkA3 (jm_m0 u 48)) i) i) i) 20 (ix ((jm_n2 (jm_n1 (jm_m2 (jm_mkA3 (jm_m0 u 48)) i) i) i) 4 i)))) = 1 := by simp [jm_an, h220, h234]
                            refine W.eq (g2 := F0 m 242 ls [.int (jm_an ((jm_n2 (jm_n1 (jm_m2 (jm_mkA3 (jm_m0 u 48)) i) i) i) 9 i) ((jm_n2 (jm_n1 (jm_m2 (jm_mkA3 (jm_m0 u 48)) i) i) i) 20 (ix ((jm_n2 (jm_n1 (jm_m2 (jm_mkA3 (jm_m0 u 48)) i) i) i) 4 i)))), .int (nI i), .ref (ad 10)]) (by first | (rw [e38]; done) | (rw [e38]; rfl)) ?_
                            refine J242 _ ?_
                            exact lv_sub hl [0, 1] rfl
                          have e39 : (jm_n2 (jm_n1 (jm_m2 (jm_mkA3 (jm_m0 u 48)) i) i) i) = (js_up (jm_n1 (jm_m2 (jm_mkA3 (jm_m0 u 48)) i) i) 10 i (jm_an ((jm_n1 (jm_m2 (jm_mkA3 (jm_m0 u 48)) i) i) 10 i) ((jm_n1 (jm_m2 (jm_mkA3 (jm_m0 u 48)) i) i) 19 i))) := rfl
                          refine J209 _ _ _ ?_ ?_
                          ·
                            try rw [e39]
                            exact hh
                          try rw [e39]
                          exact lv_sub hl [0, 1] rfl
                        have e40 : (jm_an ((jm_n1 (jm_m2 (jm_mkA3 (jm_m0 u 48)) i) i) 10 i) ((jm_n1 (jm_m2 (jm_mkA3 (jm_m0 u 48)) i) i) 19 i)) = 0 := by first | (simp [jm_an, h191]; done) | (simp [jm_an, eq_true h191]; done)
                        refine W.eq (g2 := F0 m 208 ls [.int (jm_an ((jm_n1 (jm_m2 (jm_mkA3 (jm_m0 u 48)) i) i) 10 i) ((jm_n1 (jm_m2 (jm_mkA3 (jm_m0 u 48)) i) i) 19 i)), .int (nI i), .ref (ad 11)]) (by first | (rw [e40]; done) | (rw [e40]; rfl)) ?_
                        refine J208 _ ?_
                        exact lv_sub hl [0, 1] rfl
                      refine lv_aload_n hx hb d_M_mark_194 rfl (lv_at hl 0 rfl) ?_
                      refine jg_M hc hh 19 (by decide) rfl wf_M_68 d_M_mark_195 ?_
                      refine lv_iload_n hx hb d_M_mark_198 rfl (lv_at hl 1 rfl) ?_
                      refine jmi_zld hc hh 19 (by decide) (by decide) hi d_M_mark_199 ?_
                      refine lv_if_eq (tgt := 207) hx hb d_M_mark_200 rfl (fun h200 => ?_) (fun h200 => ?_)
                      ·
                        refine lv_iconst (v := 0) hx hb d_M_mark_207 (by decide) ?_
                        have J208 : ∀  (ls : Array Slot), lv_has ls 3 [(0, .ref (ad 0)), (1, .int (nI i))] → W p l e (jr 3) s m args below meth c H locs 0 0 Q (F0 m 208 ls [.int (jm_an ((jm_n1 (jm_m2 (jm_mkA3 (jm_m0 u 48)) i) i) 10 i) ((jm_n1 (jm_m2 (jm_mkA3 (jm_m0 u 48)) i) i) 19 i)), .int (nI i), .ref (ad 11)]) := by
                          intro  ls hl
                          refine jmi_zst hc hh 10 (by decide) (by decide) hi jm_an_z d_M_mark_208 (fun H locs hh => ?_)
                          have J209 : ∀  (H : Heap) (locs : List Loc) (ls : Array Slot), jx_H D 22 ad (jm_cell ad cA (jm_n2 (jm_n1 (jm_m2 (jm_mkA3 (jm_m0 u 48)) i) i) i)) A s.heap H locs → lv_has ls 3 [(0, .ref (ad 0)), (1, .int (nI i))] → W p l e (jr 3) s m args below meth c H locs 0 0 Q (F0 m 209 ls []) := by
                            intro  H locs ls hh hl
                            refine lv_aload_n hx hb d_M_mark_209 rfl (lv_at hl 0 rfl) ?_
                            refine jg_M hc hh 9 (by decide) rfl wf_M_38 d_M_mark_210 ?_
                            refine lv_iload_n hx hb d_M_mark_213 rfl (lv_at hl 1 rfl) ?_
                            refine lv_aload_n hx hb d_M_mark_214 rfl (lv_at hl 0 rfl) ?_
                            refine jg_M hc hh 9 (by decide) rfl wf_M_38 d_M_mark_215 ?_
                            refine lv_iload_n hx hb d_M_mark_218 rfl (lv_at hl 1 rfl) ?_
                            refine jmi_zld hc hh 9 (by decide) (by decide) hi d_M_mark_219 ?_
                            refine lv_if_eq (tgt := 241) hx hb d_M_mark_220 rfl (fun h220 => ?_) (fun h220 => ?_)
                            ·
                              refine lv_iconst (v := 0) hx hb d_M_mark_241 (by decide) ?_
                              have J242 : ∀  (ls : Array Slot), lv_has ls 3 [(0, .ref (ad 0)), (1, .int (nI i))] → W p l e (jr 3) s m args below meth c H locs 0 0 Q (F0 m 242 ls [.int (jm_an ((jm_n2 (jm_n1 (jm_m2 (jm_mkA3 (jm_m0 u 48)) i) i) i) 9 i) ((jm_n2 (jm_n1 (jm_m2 (jm_mkA3 (jm_m0 u 48)) i) i) i) 20 (ix ((jm_n2 (jm_n1 (jm_m2 (jm_mkA3 (jm_m0 u 48)) i) i) i) 4 i)))), .int (nI i), .ref (ad 10)]) := by
                                intro  ls hl
                                refine jmi_zst hc hh 9 (by decide) (by decide) hi jm_an_z d_M_mark_242 (fun H locs hh => ?_)
                                refine lv_iinc (k := 1) (v := nI (i + 1)) (lv' := [(1, .int (nI (i + 1))), (0, .ref (ad 0))]) hx hb d_M_mark_243 hl rfl (nI_1 i) (by decide) rfl (fun ls hl => ?_)
                                refine lv_goto (tgt := 145) hx hb d_M_mark_246 rfl ?_
                                have e41 : (jm_m2 (jm_mkA3 (jm_m0 u 48)) (i + 1)) = (js_up (jm_n2 (jm_n1 (jm_m2 (jm_mkA3 (jm_m0 u 48)) i) i) i) 9 i (jm_an ((jm_n2 (jm_n1 (jm_m2 (jm_mkA3 (jm_m0 u 48)) i) i) i) 9 i) ((jm_n2 (jm_n1 (jm_m2 (jm_mkA3 (jm_m0 u 48)) i) i) i) 20 (ix ((jm_n2 (jm_n1 (jm_m2 (jm_mkA3 (jm_m0 u 48)) i) i) i) 4 i))))) := by simp [nI_0, jm_m2, jm_n3]
                                refine ih (i + 1) _ _ _ (by omega) ?_ ?_
                                ·
                                  try rw [e41]
                                  exact hh
                                try rw [e41]
                                exact lv_sub hl [1, 0] rfl
                              have e42 : (jm_an ((jm_n2 (jm_n1 (jm_m2 (jm_mkA3 (jm_m0 u 48)) i) i) i) 9 i) ((jm_n2 (jm_n1 (jm_m2 (jm_mkA3 (jm_m0 u 48)) i) i) i) 20 (ix ((jm_n2 (jm_n1 (jm_m2 (jm_mkA3 (jm_m0 u 48)) i) i) i) 4 i)))) = 0 := by first | (simp [jm_an, h220]; done) | (simp [jm_an, eq_true h220]; done)
                              refine W.eq (g2 := F0 m 242 ls [.int (jm_an ((jm_n2 (jm_n1 (jm_m2 (jm_mkA3 (jm_m0 u 48)) i) i) i) 9 i) ((jm_n2 (jm_n1 (jm_m2 (jm_mkA3 (jm_m0 u 48)) i) i) i) 20 (ix ((jm_n2 (jm_n1 (jm_m2 (jm_mkA3 (jm_m0 u 48)) i) i) i) 4 i)))), .int (nI i), .ref (ad 10)]) (by first | (rw [e42]; done) | (rw [e42]; rfl)) ?_
                              refine J242 _ ?_
                              exact lv_sub hl [0, 1] rfl
                            refine lv_aload_n hx hb d_M_mark_223 rfl (lv_at hl 0 rfl) ?_
                            refine jg_M hc hh 20 (by decide) rfl wf_M_71 d_M_mark_224 ?_
                            refine lv_aload_n hx hb d_M_mark_227 rfl (lv_at hl 0 rfl) ?_
                            refine jg_M hc hh 4 (by decide) rfl wf_M_23 d_M_mark_228 ?_
                            refine lv_iload_n hx hb d_M_mark_231 rfl (lv_at hl 1 rfl) ?_
                            refine jmi_ild hc hh 4 (by decide) (by decide) hi d_M_mark_232 ?_
                            refine jm_zld hc hh 20 (by decide) (by decide) ((jm_Sh_10 (jm_Sh_15 (jm_Sh_m2 (jm_Sh_A3 (jm_Sh_m0 hS 48)) i))).1 _ hi).1 d_M_mark_233 ?_
                            refine lv_if_eq (tgt := 241) hx hb d_M_mark_234 rfl (fun h234 => ?_) (fun h234 => ?_)
                            ·
                              refine lv_iconst (v := 0) hx hb d_M_mark_241 (by decide) ?_
                              have J242 : ∀  (ls : Array Slot), lv_has ls 3 [(0, .ref (ad 0)), (1, .int (nI i))] → W p l e (jr 3) s m args below meth c H locs 0 0 Q (F0 m 242 ls [.int (jm_an ((jm_n2 (jm_n1 (jm_m2 (jm_mkA3 (jm_m0 u 48)) i) i) i) 9 i) ((jm_n2 (jm_n1 (jm_m2 (jm_mkA3 (jm_m0 u 48)) i) i) i) 20 (ix ((jm_n2 (jm_n1 (jm_m2 (jm_mkA3 (jm_m0 u 48)) i) i) i) 4 i)))), .int (nI i), .ref (ad 10)]) := by
                                intro  ls hl
                                refine jmi_zst hc hh 9 (by decide) (by decide) hi jm_an_z d_M_mark_242 (fun H locs hh => ?_)
                                refine lv_iinc (k := 1) (v := nI (i + 1)) (lv' := [(1, .int (nI (i + 1))), (0, .ref (ad 0))]) hx hb d_M_mark_243 hl rfl (nI_1 i) (by decide) rfl (fun ls hl => ?_)
                                refine lv_goto (tgt := 145) hx hb d_M_mark_246 rfl ?_
                                have e43 : (jm_m2 (jm_mkA3 (jm_m0 u 48)) (i + 1)) = (js_up (jm_n2 (jm_n1 (jm_m2 (jm_mkA3 (jm_m0 u 48)) i) i) i) 9 i (jm_an ((jm_n2 (jm_n1 (jm_m2 (jm_mkA3 (jm_m0 u 48)) i) i) i) 9 i) ((jm_n2 (jm_n1 (jm_m2 (jm_mkA3 (jm_m0 u 48)) i) i) i) 20 (ix ((jm_n2 (jm_n1 (jm_m2 (jm_mkA3 (jm_m0 u 48)) i) i) i) 4 i))))) := by simp [nI_0, jm_m2, jm_n3]
                                refine ih (i + 1) _ _ _ (by omega) ?_ ?_
                                ·
                                  try rw [e43]
                                  exact hh
                                try rw [e43]
                                exact lv_sub hl [1, 0] rfl
                              have e44 : (jm_an ((jm_n2 (jm_n1 (jm_m2 (jm_mkA3 (jm_m0 u 48)) i) i) i) 9 i) ((jm_n2 (jm_n1 (jm_m2 (jm_mkA3 (jm_m0 u 48)) i) i) i) 20 (ix ((jm_n2 (jm_n1 (jm_m2 (jm_mkA3 (jm_m0 u 48)) i) i) i) 4 i)))) = 0 := by first | (simp [jm_an, h220, h234]; done) | (simp [jm_an, h220, eq_true h234]; done)
                              refine W.eq (g2 := F0 m 242 ls [.int (jm_an ((jm_n2 (jm_n1 (jm_m2 (jm_mkA3 (jm_m0 u 48)) i) i) i) 9 i) ((jm_n2 (jm_n1 (jm_m2 (jm_mkA3 (jm_m0 u 48)) i) i) i) 20 (ix ((jm_n2 (jm_n1 (jm_m2 (jm_mkA3 (jm_m0 u 48)) i) i) i) 4 i)))), .int (nI i), .ref (ad 10)]) (by first | (rw [e44]; done) | (rw [e44]; rfl)) ?_
                              refine J242 _ ?_
                              exact lv_sub hl [0, 1] rfl
                            refine lv_iconst (v := 1) hx hb d_M_mark_237 (by decide) ?_
                            refine lv_goto (tgt := 242) hx hb d_M_mark_238 rfl ?_
                            have J242 : ∀  (ls : Array Slot), lv_has ls 3 [(0, .ref (ad 0)), (1, .int (nI i))] → W p l e (jr 3) s m args below meth c H locs 0 0 Q (F0 m 242 ls [.int (jm_an ((jm_n2 (jm_n1 (jm_m2 (jm_mkA3 (jm_m0 u 48)) i) i) i) 9 i) ((jm_n2 (jm_n1 (jm_m2 (jm_mkA3 (jm_m0 u 48)) i) i) i) 20 (ix ((jm_n2 (jm_n1 (jm_m2 (jm_mkA3 (jm_m0 u 48)) i) i) i) 4 i)))), .int (nI i), .ref (ad 10)]) := by
                              intro  ls hl
                              refine jmi_zst hc hh 9 (by decide) (by decide) hi jm_an_z d_M_mark_242 (fun H locs hh => ?_)
                              refine lv_iinc (k := 1) (v := nI (i + 1)) (lv' := [(1, .int (nI (i + 1))), (0, .ref (ad 0))]) hx hb d_M_mark_243 hl rfl (nI_1 i) (by decide) rfl (fun ls hl => ?_)
                              refine lv_goto (tgt := 145) hx hb d_M_mark_246 rfl ?_
                              have e45 : (jm_m2 (jm_mkA3 (jm_m0 u 48)) (i + 1)) = (js_up (jm_n2 (jm_n1 (jm_m2 (jm_mkA3 (jm_m0 u 48)) i) i) i) 9 i (jm_an ((jm_n2 (jm_n1 (jm_m2 (jm_mkA3 (jm_m0 u 48)) i) i) i) 9 i) ((jm_n2 (jm_n1 (jm_m2 (jm_mkA3 (jm_m0 u 48)) i) i) i) 20 (ix ((jm_n2 (jm_n1 (jm_m2 (jm_mkA3 (jm_m0 u 48)) i) i) i) 4 i))))) := by simp [nI_0, jm_m2, jm_n3]
                              refine ih (i + 1) _ _ _ (by omega) ?_ ?_
                              ·
                                try rw [e45]
                                exact hh
                              try rw [e45]
                              exact lv_sub hl [1, 0] rfl
                            have e46 : (jm_an ((jm_n2 (jm_n1 (jm_m2 (jm_mkA3 (jm_m0 u 48)) i) i) i) 9 i) ((jm_n2 (jm_n1 (jm_m2 (jm_mkA3 (jm_m0 u 48)) i) i) i) 20 (ix ((jm_n2 (jm_n1 (jm_m2 (jm_mkA3 (jm_m0 u 48)) i) i) i) 4 i)))) = 1 := by simp [jm_an, h220, h234]
                            refine W.eq (g2 := F0 m 242 ls [.int (jm_an ((jm_n2 (jm_n1 (jm_m2 (jm_mkA3 (jm_m0 u 48)) i) i) i) 9 i) ((jm_n2 (jm_n1 (jm_m2 (jm_mkA3 (jm_m0 u 48)) i) i) i) 20 (ix ((jm_n2 (jm_n1 (jm_m2 (jm_mkA3 (jm_m0 u 48)) i) i) i) 4 i)))), .int (nI i), .ref (ad 10)]) (by first | (rw [e46]; done) | (rw [e46]; rfl)) ?_
                            refine J242 _ ?_
                            exact lv_sub hl [0, 1] rfl
                          have e47 : (jm_n2 (jm_n1 (jm_m2 (jm_mkA3 (jm_m0 u 48)) i) i) i) = (js_up (jm_n1 (jm_m2 (jm_mkA3 (jm_m0 u 48)) i) i) 10 i (jm_an ((jm_n1 (jm_m2 (jm_mkA3 (jm_m0 u 48)) i) i) 10 i) ((jm_n1 (jm_m2 (jm_mkA3 (jm_m0 u 48)) i) i) 19 i))) := rfl
                          refine J209 _ _ _ ?_ ?_
                          ·
                            try rw [e47]
                            exact hh
                          try rw [e47]
                          exact lv_sub hl [0, 1] rfl
                        have e48 : (jm_an ((jm_n1 (jm_m2 (jm_mkA3 (jm_m0 u 48)) i) i) 10 i) ((jm_n1 (jm_m2 (jm_mkA3 (jm_m0 u 48)) i) i) 19 i)) = 0 := by first | (simp [jm_an, h191, h200]; done) | (simp [jm_an, h191, eq_true h200]; done)
                        refine W.eq (g2 := F0 m 208 ls [.int (jm_an ((jm_n1 (jm_m2 (jm_mkA3 (jm_m0 u 48)) i) i) 10 i) ((jm_n1 (jm_m2 (jm_mkA3 (jm_m0 u 48)) i) i) 19 i)), .int (nI i), .ref (ad 11)]) (by first | (rw [e48]; done) | (rw [e48]; rfl)) ?_
                        refine J208 _ ?_
                        exact lv_sub hl [0, 1] rfl
                      refine lv_iconst (v := 1) hx hb d_M_mark_203 (by decide) ?_
                      refine lv_goto (tgt := 208) hx hb d_M_mark_204 rfl ?_
                      have J208 : ∀  (ls : Array Slot), lv_has ls 3 [(0, .ref (ad 0)), (1, .int (nI i))] → W p l e (jr 3) s m args below meth c H locs 0 0 Q (F0 m 208 ls [.int (jm_an ((jm_n1 (jm_m2 (jm_mkA3 (jm_m0 u 48)) i) i) 10 i) ((jm_n1 (jm_m2 (jm_mkA3 (jm_m0 u 48)) i) i) 19 i)), .int (nI i), .ref (ad 11)]) := by
                        intro  ls hl
                        refine jmi_zst hc hh 10 (by decide) (by decide) hi jm_an_z d_M_mark_208 (fun H locs hh => ?_)
                        have J209 : ∀  (H : Heap) (locs : List Loc) (ls : Array Slot), jx_H D 22 ad (jm_cell ad cA (jm_n2 (jm_n1 (jm_m2 (jm_mkA3 (jm_m0 u 48)) i) i) i)) A s.heap H locs → lv_has ls 3 [(0, .ref (ad 0)), (1, .int (nI i))] → W p l e (jr 3) s m args below meth c H locs 0 0 Q (F0 m 209 ls []) := by
                          intro  H locs ls hh hl
                          refine lv_aload_n hx hb d_M_mark_209 rfl (lv_at hl 0 rfl) ?_
                          refine jg_M hc hh 9 (by decide) rfl wf_M_38 d_M_mark_210 ?_
                          refine lv_iload_n hx hb d_M_mark_213 rfl (lv_at hl 1 rfl) ?_
                          refine lv_aload_n hx hb d_M_mark_214 rfl (lv_at hl 0 rfl) ?_
                          refine jg_M hc hh 9 (by decide) rfl wf_M_38 d_M_mark_215 ?_
                          refine lv_iload_n hx hb d_M_mark_218 rfl (lv_at hl 1 rfl) ?_
                          refine jmi_zld hc hh 9 (by decide) (by decide) hi d_M_mark_219 ?_
                          refine lv_if_eq (tgt := 241) hx hb d_M_mark_220 rfl (fun h220 => ?_) (fun h220 => ?_)
                          ·
                            refine lv_iconst (v := 0) hx hb d_M_mark_241 (by decide) ?_
                            have J242 : ∀  (ls : Array Slot), lv_has ls 3 [(0, .ref (ad 0)), (1, .int (nI i))] → W p l e (jr 3) s m args below meth c H locs 0 0 Q (F0 m 242 ls [.int (jm_an ((jm_n2 (jm_n1 (jm_m2 (jm_mkA3 (jm_m0 u 48)) i) i) i) 9 i) ((jm_n2 (jm_n1 (jm_m2 (jm_mkA3 (jm_m0 u 48)) i) i) i) 20 (ix ((jm_n2 (jm_n1 (jm_m2 (jm_mkA3 (jm_m0 u 48)) i) i) i) 4 i)))), .int (nI i), .ref (ad 10)]) := by
                              intro  ls hl
                              refine jmi_zst hc hh 9 (by decide) (by decide) hi jm_an_z d_M_mark_242 (fun H locs hh => ?_)
                              refine lv_iinc (k := 1) (v := nI (i + 1)) (lv' := [(1, .int (nI (i + 1))), (0, .ref (ad 0))]) hx hb d_M_mark_243 hl rfl (nI_1 i) (by decide) rfl (fun ls hl => ?_)
                              refine lv_goto (tgt := 145) hx hb d_M_mark_246 rfl ?_
                              have e49 : (jm_m2 (jm_mkA3 (jm_m0 u 48)) (i + 1)) = (js_up (jm_n2 (jm_n1 (jm_m2 (jm_mkA3 (jm_m0 u 48)) i) i) i) 9 i (jm_an ((jm_n2 (jm_n1 (jm_m2 (jm_mkA3 (jm_m0 u 48)) i) i) i) 9 i) ((jm_n2 (jm_n1 (jm_m2 (jm_mkA3 (jm_m0 u 48)) i) i) i) 20 (ix ((jm_n2 (jm_n1 (jm_m2 (jm_mkA3 (jm_m0 u 48)) i) i) i) 4 i))))) := by simp [nI_0, jm_m2, jm_n3]
                              refine ih (i + 1) _ _ _ (by omega) ?_ ?_
                              ·
                                try rw [e49]
                                exact hh
                              try rw [e49]
                              exact lv_sub hl [1, 0] rfl
                            have e50 : (jm_an ((jm_n2 (jm_n1 (jm_m2 (jm_mkA3 (jm_m0 u 48)) i) i) i) 9 i) ((jm_n2 (jm_n1 (jm_m2 (jm_mkA3 (jm_m0 u 48)) i) i) i) 20 (ix ((jm_n2 (jm_n1 (jm_m2 (jm_mkA3 (jm_m0 u 48)) i) i) i) 4 i)))) = 0 := by first | (simp [jm_an, h220]; done) | (simp [jm_an, eq_true h220]; done)
                            refine W.eq (g2 := F0 m 242 ls [.int (jm_an ((jm_n2 (jm_n1 (jm_m2 (jm_mkA3 (jm_m0 u 48)) i) i) i) 9 i) ((jm_n2 (jm_n1 (jm_m2 (jm_mkA3 (jm_m0 u 48)) i) i) i) 20 (ix ((jm_n2 (jm_n1 (jm_m2 (jm_mkA3 (jm_m0 u 48)) i) i) i) 4 i)))), .int (nI i), .ref (ad 10)]) (by first | (rw [e50]; done) | (rw [e50]; rfl)) ?_
                            refine J242 _ ?_
                            exact lv_sub hl [0, 1] rfl
                          refine lv_aload_n hx hb d_M_mark_223 rfl (lv_at hl 0 rfl) ?_
                          refine jg_M hc hh 20 (by decide) rfl wf_M_71 d_M_mark_224 ?_
                          refine lv_aload_n hx hb d_M_mark_227 rfl (lv_at hl 0 rfl) ?_
                          refine jg_M hc hh 4 (by decide) rfl wf_M_23 d_M_mark_228 ?_
                          refine lv_iload_n hx hb d_M_mark_231 rfl (lv_at hl 1 rfl) ?_
                          refine jmi_ild hc hh 4 (by decide) (by decide) hi d_M_mark_232 ?_
                          refine jm_zld hc hh 20 (by decide) (by decide) ((jm_Sh_10 (jm_Sh_15 (jm_Sh_m2 (jm_Sh_A3 (jm_Sh_m0 hS 48)) i))).1 _ hi).1 d_M_mark_233 ?_
                          refine lv_if_eq (tgt := 241) hx hb d_M_mark_234 rfl (fun h234 => ?_) (fun h234 => ?_)
                          ·
                            refine lv_iconst (v := 0) hx hb d_M_mark_241 (by decide) ?_
                            have J242 : ∀  (ls : Array Slot), lv_has ls 3 [(0, .ref (ad 0)), (1, .int (nI i))] → W p l e (jr 3) s m args below meth c H locs 0 0 Q (F0 m 242 ls [.int (jm_an ((jm_n2 (jm_n1 (jm_m2 (jm_mkA3 (jm_m0 u 48)) i) i) i) 9 i) ((jm_n2 (jm_n1 (jm_m2 (jm_mkA3 (jm_m0 u 48)) i) i) i) 20 (ix ((jm_n2 (jm_n1 (jm_m2 (jm_mkA3 (jm_m0 u 48)) i) i) i) 4 i)))), .int (nI i), .ref (ad 10)]) := by
                              intro  ls hl
                              refine jmi_zst hc hh 9 (by decide) (by decide) hi jm_an_z d_M_mark_242 (fun H locs hh => ?_)
                              refine lv_iinc (k := 1) (v := nI (i + 1)) (lv' := [(1, .int (nI (i + 1))), (0, .ref (ad 0))]) hx hb d_M_mark_243 hl rfl (nI_1 i) (by decide) rfl (fun ls hl => ?_)
                              refine lv_goto (tgt := 145) hx hb d_M_mark_246 rfl ?_
                              have e51 : (jm_m2 (jm_mkA3 (jm_m0 u 48)) (i + 1)) = (js_up (jm_n2 (jm_n1 (jm_m2 (jm_mkA3 (jm_m0 u 48)) i) i) i) 9 i (jm_an ((jm_n2 (jm_n1 (jm_m2 (jm_mkA3 (jm_m0 u 48)) i) i) i) 9 i) ((jm_n2 (jm_n1 (jm_m2 (jm_mkA3 (jm_m0 u 48)) i) i) i) 20 (ix ((jm_n2 (jm_n1 (jm_m2 (jm_mkA3 (jm_m0 u 48)) i) i) i) 4 i))))) := by simp [nI_0, jm_m2, jm_n3]
                              refine ih (i + 1) _ _ _ (by omega) ?_ ?_
                              ·
                                try rw [e51]
                                exact hh
                              try rw [e51]
                              exact lv_sub hl [1, 0] rfl
                            have e52 : (jm_an ((jm_n2 (jm_n1 (jm_m2 (jm_mkA3 (jm_m0 u 48)) i) i) i) 9 i) ((jm_n2 (jm_n1 (jm_m2 (jm_mkA3 (jm_m0 u 48)) i) i) i) 20 (ix ((jm_n2 (jm_n1 (jm_m2 (jm_mkA3 (jm_m0 u 48)) i) i) i) 4 i)))) = 0 := by first | (simp [jm_an, h220, h234]; done) | (simp [jm_an, h220, eq_true h234]; done)
                            refine W.eq (g2 := F0 m 242 ls [.int (jm_an ((jm_n2 (jm_n1 (jm_m2 (jm_mkA3 (jm_m0 u 48)) i) i) i) 9 i) ((jm_n2 (jm_n1 (jm_m2 (jm_mkA3 (jm_m0 u 48)) i) i) i) 20 (ix ((jm_n2 (jm_n1 (jm_m2 (jm_mkA3 (jm_m0 u 48)) i) i) i) 4 i)))), .int (nI i), .ref (ad 10)]) (by first | (rw [e52]; done) | (rw [e52]; rfl)) ?_
                            refine J242 _ ?_
                            exact lv_sub hl [0, 1] rfl
                          refine lv_iconst (v := 1) hx hb d_M_mark_237 (by decide) ?_
                          refine lv_goto (tgt := 242) hx hb d_M_mark_238 rfl ?_
                          have J242 : ∀  (ls : Array Slot), lv_has ls 3 [(0, .ref (ad 0)), (1, .int (nI i))] → W p l e (jr 3) s m args below meth c H locs 0 0 Q (F0 m 242 ls [.int (jm_an ((jm_n2 (jm_n1 (jm_m2 (jm_mkA3 (jm_m0 u 48)) i) i) i) 9 i) ((jm_n2 (jm_n1 (jm_m2 (jm_mkA3 (jm_m0 u 48)) i) i) i) 20 (ix ((jm_n2 (jm_n1 (jm_m2 (jm_mkA3 (jm_m0 u 48)) i) i) i) 4 i)))), .int (nI i), .ref (ad 10)]) := by
                            intro  ls hl
                            refine jmi_zst hc hh 9 (by decide) (by decide) hi jm_an_z d_M_mark_242 (fun H locs hh => ?_)
                            refine lv_iinc (k := 1) (v := nI (i + 1)) (lv' := [(1, .int (nI (i + 1))), (0, .ref (ad 0))]) hx hb d_M_mark_243 hl rfl (nI_1 i) (by decide) rfl (fun ls hl => ?_)
                            refine lv_goto (tgt := 145) hx hb d_M_mark_246 rfl ?_
                            have e53 : (jm_m2 (jm_mkA3 (jm_m0 u 48)) (i + 1)) = (js_up (jm_n2 (jm_n1 (jm_m2 (jm_mkA3 (jm_m0 u 48)) i) i) i) 9 i (jm_an ((jm_n2 (jm_n1 (jm_m2 (jm_mkA3 (jm_m0 u 48)) i) i) i) 9 i) ((jm_n2 (jm_n1 (jm_m2 (jm_mkA3 (jm_m0 u 48)) i) i) i) 20 (ix ((jm_n2 (jm_n1 (jm_m2 (jm_mkA3 (jm_m0 u 48)) i) i) i) 4 i))))) := by simp [nI_0, jm_m2, jm_n3]
                            refine ih (i + 1) _ _ _ (by omega) ?_ ?_
                            ·
                              try rw [e53]
                              exact hh
                            try rw [e53]
                            exact lv_sub hl [1, 0] rfl
                          have e54 : (jm_an ((jm_n2 (jm_n1 (jm_m2 (jm_mkA3 (jm_m0 u 48)) i) i) i) 9 i) ((jm_n2 (jm_n1 (jm_m2 (jm_mkA3 (jm_m0 u 48)) i) i) i) 20 (ix ((jm_n2 (jm_n1 (jm_m2 (jm_mkA3 (jm_m0 u 48)) i) i) i) 4 i)))) = 1 := by simp [jm_an, h220, h234]
                          refine W.eq (g2 := F0 m 242 ls [.int (jm_an ((jm_n2 (jm_n1 (jm_m2 (jm_mkA3 (jm_m0 u 48)) i) i) i) 9 i) ((jm_n2 (jm_n1 (jm_m2 (jm_mkA3 (jm_m0 u 48)) i) i) i) 20 (ix ((jm_n2 (jm_n1 (jm_m2 (jm_mkA3 (jm_m0 u 48)) i) i) i) 4 i)))), .int (nI i), .ref (ad 10)]) (by first | (rw [e54]; done) | (rw [e54]; rfl)) ?_
                          refine J242 _ ?_
                          exact lv_sub hl [0, 1] rfl
                        have e55 : (jm_n2 (jm_n1 (jm_m2 (jm_mkA3 (jm_m0 u 48)) i) i) i) = (js_up (jm_n1 (jm_m2 (jm_mkA3 (jm_m0 u 48)) i) i) 10 i (jm_an ((jm_n1 (jm_m2 (jm_mkA3 (jm_m0 u 48)) i) i) 10 i) ((jm_n1 (jm_m2 (jm_mkA3 (jm_m0 u 48)) i) i) 19 i))) := rfl
                        refine J209 _ _ _ ?_ ?_
                        ·
                          try rw [e55]
                          exact hh
                        try rw [e55]
                        exact lv_sub hl [0, 1] rfl
                      have e56 : (jm_an ((jm_n1 (jm_m2 (jm_mkA3 (jm_m0 u 48)) i) i) 10 i) ((jm_n1 (jm_m2 (jm_mkA3 (jm_m0 u 48)) i) i) 19 i)) = 1 := by simp [jm_an, h191, h200]
                      refine W.eq (g2 := F0 m 208 ls [.int (jm_an ((jm_n1 (jm_m2 (jm_mkA3 (jm_m0 u 48)) i) i) 10 i) ((jm_n1 (jm_m2 (jm_mkA3 (jm_m0 u 48)) i) i) 19 i)), .int (nI i), .ref (ad 11)]) (by first | (rw [e56]; done) | (rw [e56]; rfl)) ?_
                      refine J208 _ ?_
                      exact lv_sub hl [0, 1] rfl
                    have e57 : (jm_n1 (jm_m2 (jm_mkA3 (jm_m0 u 48)) i) i) = (js_up (jm_m2 (jm_mkA3 (jm_m0 u 48)) i) 15 i (jm_an ((jm_m2 (jm_mkA3 (jm_m0 u 48)) i) 15 i) ((jm_m2 (jm_mkA3 (jm_m0 u 48)) i) 20 i))) := rfl
                    refine J180 _ _ _ ?_ ?_
                    ·
                      try rw [e57]
                      exact hh
                    try rw [e57]
                    exact lv_sub hl [0, 1] rfl
                  have e58 : (jm_an ((jm_m2 (jm_mkA3 (jm_m0 u 48)) i) 15 i) ((jm_m2 (jm_mkA3 (jm_m0 u 48)) i) 20 i)) = 0 := by first | (simp [jm_an, h162, h171]; done) | (simp [jm_an, h162, eq_true h171]; done)
                  refine W.eq (g2 := F0 m 179 ls [.int (jm_an ((jm_m2 (jm_mkA3 (jm_m0 u 48)) i) 15 i) ((jm_m2 (jm_mkA3 (jm_m0 u 48)) i) 20 i)), .int (nI i), .ref (ad 16)]) (by first | (rw [e58]; done) | (rw [e58]; rfl)) ?_
                  refine J179 _ ?_
                  exact lv_sub hl [0, 1] rfl
                refine lv_iconst (v := 1) hx hb d_M_mark_174 (by decide) ?_
                refine lv_goto (tgt := 179) hx hb d_M_mark_175 rfl ?_
                have J179 : ∀  (ls : Array Slot), lv_has ls 3 [(0, .ref (ad 0)), (1, .int (nI i))] → W p l e (jr 3) s m args below meth c H locs 0 0 Q (F0 m 179 ls [.int (jm_an ((jm_m2 (jm_mkA3 (jm_m0 u 48)) i) 15 i) ((jm_m2 (jm_mkA3 (jm_m0 u 48)) i) 20 i)), .int (nI i), .ref (ad 16)]) := by
                  intro  ls hl
                  refine jmi_zst hc hh 15 (by decide) (by decide) hi jm_an_z d_M_mark_179 (fun H locs hh => ?_)
                  have J180 : ∀  (H : Heap) (locs : List Loc) (ls : Array Slot), jx_H D 22 ad (jm_cell ad cA (jm_n1 (jm_m2 (jm_mkA3 (jm_m0 u 48)) i) i)) A s.heap H locs → lv_has ls 3 [(0, .ref (ad 0)), (1, .int (nI i))] → W p l e (jr 3) s m args below meth c H locs 0 0 Q (F0 m 180 ls []) := by
                    intro  H locs ls hh hl
                    refine lv_aload_n hx hb d_M_mark_180 rfl (lv_at hl 0 rfl) ?_
                    refine jg_M hc hh 10 (by decide) rfl wf_M_41 d_M_mark_181 ?_
                    refine lv_iload_n hx hb d_M_mark_184 rfl (lv_at hl 1 rfl) ?_
                    refine lv_aload_n hx hb d_M_mark_185 rfl (lv_at hl 0 rfl) ?_
                    refine jg_M hc hh 10 (by decide) rfl wf_M_41 d_M_mark_186 ?_
                    refine lv_iload_n hx hb d_M_mark_189 rfl (lv_at hl 1 rfl) ?_
                    refine jmi_zld hc hh 10 (by decide) (by decide) hi d_M_mark_190 ?_
                    refine lv_if_eq (tgt := 207) hx hb d_M_mark_191 rfl (fun h191 => ?_) (fun h191 => ?_)
                    ·
                      refine lv_iconst (v := 0) hx hb d_M_mark_207 (by decide) ?_
                      have J208 : ∀  (ls : Array Slot), lv_has ls 3 [(0, .ref (ad 0)), (1, .int (nI i))] → W p l e (jr 3) s m args below meth c H locs 0 0 Q (F0 m 208 ls [.int (jm_an ((jm_n1 (jm_m2 (jm_mkA3 (jm_m0 u 48)) i) i) 10 i) ((jm_n1 (jm_m2 (jm_mkA3 (jm_m0 u 48)) i) i) 19 i)), .int (nI i), .ref (ad 11)]) := by
                        intro  ls hl
                        refine jmi_zst hc hh 10 (by decide) (by decide) hi jm_an_z d_M_mark_208 (fun H locs hh => ?_)
                        have J209 : ∀  (H : Heap) (locs : List Loc) (ls : Array Slot), jx_H D 22 ad (jm_cell ad cA (jm_n2 (jm_n1 (jm_m2 (jm_mkA3 (jm_m0 u 48)) i) i) i)) A s.heap H locs → lv_has ls 3 [(0, .ref (ad 0)), (1, .int (nI i))] → W p l e (jr 3) s m args below meth c H locs 0 0 Q (F0 m 209 ls []) := by
                          intro  H locs ls hh hl
                          refine lv_aload_n hx hb d_M_mark_209 rfl (lv_at hl 0 rfl) ?_
                          refine jg_M hc hh 9 (by decide) rfl wf_M_38 d_M_mark_210 ?_
                          refine lv_iload_n hx hb d_M_mark_213 rfl (lv_at hl 1 rfl) ?_
                          refine lv_aload_n hx hb d_M_mark_214 rfl (lv_at hl 0 rfl) ?_
                          refine jg_M hc hh 9 (by decide) rfl wf_M_38 d_M_mark_215 ?_
                          refine lv_iload_n hx hb d_M_mark_218 rfl (lv_at hl 1 rfl) ?_
                          refine jmi_zld hc hh 9 (by decide) (by decide) hi d_M_mark_219 ?_
                          refine lv_if_eq (tgt := 241) hx hb d_M_mark_220 rfl (fun h220 => ?_) (fun h220 => ?_)
                          ·
                            refine lv_iconst (v := 0) hx hb d_M_mark_241 (by decide) ?_
                            have J242 : ∀  (ls : Array Slot), lv_has ls 3 [(0, .ref (ad 0)), (1, .int (nI i))] → W p l e (jr 3) s m args below meth c H locs 0 0 Q (F0 m 242 ls [.int (jm_an ((jm_n2 (jm_n1 (jm_m2 (jm_mkA3 (jm_m0 u 48)) i) i) i) 9 i) ((jm_n2 (jm_n1 (jm_m2 (jm_mkA3 (jm_m0 u 48)) i) i) i) 20 (ix ((jm_n2 (jm_n1 (jm_m2 (jm_mkA3 (jm_m0 u 48)) i) i) i) 4 i)))), .int (nI i), .ref (ad 10)]) := by
                              intro  ls hl
                              refine jmi_zst hc hh 9 (by decide) (by decide) hi jm_an_z d_M_mark_242 (fun H locs hh => ?_)
                              refine lv_iinc (k := 1) (v := nI (i + 1)) (lv' := [(1, .int (nI (i + 1))), (0, .ref (ad 0))]) hx hb d_M_mark_243 hl rfl (nI_1 i) (by decide) rfl (fun ls hl => ?_)
                              refine lv_goto (tgt := 145) hx hb d_M_mark_246 rfl ?_
                              have e59 : (jm_m2 (jm_mkA3 (jm_m0 u 48)) (i + 1)) = (js_up (jm_n2 (jm_n1 (jm_m2 (jm_mkA3 (jm_m0 u 48)) i) i) i) 9 i (jm_an ((jm_n2 (jm_n1 (jm_m2 (jm_mkA3 (jm_m0 u 48)) i) i) i) 9 i) ((jm_n2 (jm_n1 (jm_m2 (jm_mkA3 (jm_m0 u 48)) i) i) i) 20 (ix ((jm_n2 (jm_n1 (jm_m2 (jm_mkA3 (jm_m0 u 48)) i) i) i) 4 i))))) := by simp [nI_0, jm_m2, jm_n3]
                              refine ih (i + 1) _ _ _ (by omega) ?_ ?_
                              ·
                                try rw [e59]
                                exact hh
                              try rw [e59]
                              exact lv_sub hl [1, 0] rfl
                            have e60 : (jm_an ((jm_n2 (jm_n1 (jm_m2 (jm_mkA3 (jm_m0 u 48)) i) i) i) 9 i) ((jm_n2 (jm_n1 (jm_m2 (jm_mkA3 (jm_m0 u 48)) i) i) i) 20 (ix ((jm_n2 (jm_n1 (jm_m2 (jm_mkA3 (jm_m0 u 48)) i) i) i) 4 i)))) = 0 := by first | (simp [jm_an, h220]; done) | (simp [jm_an, eq_true h220]; done)
                            refine W.eq (g2 := F0 m 242 ls [.int (jm_an ((jm_n2 (jm_n1 (jm_m2 (jm_mkA3 (jm_m0 u 48)) i) i) i) 9 i) ((jm_n2 (jm_n1 (jm_m2 (jm_mkA3 (jm_m0 u 48)) i) i) i) 20 (ix ((jm_n2 (jm_n1 (jm_m2 (jm_mkA3 (jm_m0 u 48)) i) i) i) 4 i)))), .int (nI i), .ref (ad 10)]) (by first | (rw [e60]; done) | (rw [e60]; rfl)) ?_
                            refine J242 _ ?_
                            exact lv_sub hl [0, 1] rfl
                          refine lv_aload_n hx hb d_M_mark_223 rfl (lv_at hl 0 rfl) ?_
                          refine jg_M hc hh 20 (by decide) rfl wf_M_71 d_M_mark_224 ?_
                          refine lv_aload_n hx hb d_M_mark_227 rfl (lv_at hl 0 rfl) ?_
                          refine jg_M hc hh 4 (by decide) rfl wf_M_23 d_M_mark_228 ?_
                          refine lv_iload_n hx hb d_M_mark_231 rfl (lv_at hl 1 rfl) ?_
                          refine jmi_ild hc hh 4 (by decide) (by decide) hi d_M_mark_232 ?_
                          refine jm_zld hc hh 20 (by decide) (by decide) ((jm_Sh_10 (jm_Sh_15 (jm_Sh_m2 (jm_Sh_A3 (jm_Sh_m0 hS 48)) i))).1 _ hi).1 d_M_mark_233 ?_
                          refine lv_if_eq (tgt := 241) hx hb d_M_mark_234 rfl (fun h234 => ?_) (fun h234 => ?_)
                          ·
                            refine lv_iconst (v := 0) hx hb d_M_mark_241 (by decide) ?_
                            have J242 : ∀  (ls : Array Slot), lv_has ls 3 [(0, .ref (ad 0)), (1, .int (nI i))] → W p l e (jr 3) s m args below meth c H locs 0 0 Q (F0 m 242 ls [.int (jm_an ((jm_n2 (jm_n1 (jm_m2 (jm_mkA3 (jm_m0 u 48)) i) i) i) 9 i) ((jm_n2 (jm_n1 (jm_m2 (jm_mkA3 (jm_m0 u 48)) i) i) i) 20 (ix ((jm_n2 (jm_n1 (jm_m2 (jm_mkA3 (jm_m0 u 48)) i) i) i) 4 i)))), .int (nI i), .ref (ad 10)]) := by
                              intro  ls hl
                              refine jmi_zst hc hh 9 (by decide) (by decide) hi jm_an_z d_M_mark_242 (fun H locs hh => ?_)
                              refine lv_iinc (k := 1) (v := nI (i + 1)) (lv' := [(1, .int (nI (i + 1))), (0, .ref (ad 0))]) hx hb d_M_mark_243 hl rfl (nI_1 i) (by decide) rfl (fun ls hl => ?_)
                              refine lv_goto (tgt := 145) hx hb d_M_mark_246 rfl ?_
                              have e61 : (jm_m2 (jm_mkA3 (jm_m0 u 48)) (i + 1)) = (js_up (jm_n2 (jm_n1 (jm_m2 (jm_mkA3 (jm_m0 u 48)) i) i) i) 9 i (jm_an ((jm_n2 (jm_n1 (jm_m2 (jm_mkA3 (jm_m0 u 48)) i) i) i) 9 i) ((jm_n2 (jm_n1 (jm_m2 (jm_mkA3 (jm_m0 u 48)) i) i) i) 20 (ix ((jm_n2 (jm_n1 (jm_m2 (jm_mkA3 (jm_m0 u 48)) i) i) i) 4 i))))) := by simp [nI_0, jm_m2, jm_n3]
                              refine ih (i + 1) _ _ _ (by omega) ?_ ?_
                              ·
                                try rw [e61]
                                exact hh
                              try rw [e61]
                              exact lv_sub hl [1, 0] rfl
                            have e62 : (jm_an ((jm_n2 (jm_n1 (jm_m2 (jm_mkA3 (jm_m0 u 48)) i) i) i) 9 i) ((jm_n2 (jm_n1 (jm_m2 (jm_mkA3 (jm_m0 u 48)) i) i) i) 20 (ix ((jm_n2 (jm_n1 (jm_m2 (jm_mkA3 (jm_m0 u 48)) i) i) i) 4 i)))) = 0 := by first | (simp [jm_an, h220, h234]; done) | (simp [jm_an, h220, eq_true h234]; done)
                            refine W.eq (g2 := F0 m 242 ls [.int (jm_an ((jm_n2 (jm_n1 (jm_m2 (jm_mkA3 (jm_m0 u 48)) i) i) i) 9 i) ((jm_n2 (jm_n1 (jm_m2 (jm_mkA3 (jm_m0 u 48)) i) i) i) 20 (ix ((jm_n2 (jm_n1 (jm_m2 (jm_mkA3 (jm_m0 u 48)) i) i) i) 4 i)))), .int (nI i), .ref (ad 10)]) (by first | (rw [e62]; done) | (rw [e62]; rfl)) ?_
                            refine J242 _ ?_
                            exact lv_sub hl [0, 1] rfl
                          refine lv_iconst (v := 1) hx hb d_M_mark_237 (by decide) ?_
                          refine lv_goto (tgt := 242) hx hb d_M_mark_238 rfl ?_
                          have J242 : ∀  (ls : Array Slot), lv_has ls 3 [(0, .ref (ad 0)), (1, .int (nI i))] → W p l e (jr 3) s m args below meth c H locs 0 0 Q (F0 m 242 ls [.int (jm_an ((jm_n2 (jm_n1 (jm_m2 (jm_mkA3 (jm_m0 u 48)) i) i) i) 9 i) ((jm_n2 (jm_n1 (jm_m2 (jm_mkA3 (jm_m0 u 48)) i) i) i) 20 (ix ((jm_n2 (jm_n1 (jm_m2 (jm_mkA3 (jm_m0 u 48)) i) i) i) 4 i)))), .int (nI i), .ref (ad 10)]) := by
                            intro  ls hl
                            refine jmi_zst hc hh 9 (by decide) (by decide) hi jm_an_z d_M_mark_242 (fun H locs hh => ?_)
                            refine lv_iinc (k := 1) (v := nI (i + 1)) (lv' := [(1, .int (nI (i + 1))), (0, .ref (ad 0))]) hx hb d_M_mark_243 hl rfl (nI_1 i) (by decide) rfl (fun ls hl => ?_)
                            refine lv_goto (tgt := 145) hx hb d_M_mark_246 rfl ?_
                            have e63 : (jm_m2 (jm_mkA3 (jm_m0 u 48)) (i + 1)) = (js_up (jm_n2 (jm_n1 (jm_m2 (jm_mkA3 (jm_m0 u 48)) i) i) i) 9 i (jm_an ((jm_n2 (jm_n1 (jm_m2 (jm_mkA3 (jm_m0 u 48)) i) i) i) 9 i) ((jm_n2 (jm_n1 (jm_m2 (jm_mkA3 (jm_m0 u 48)) i) i) i) 20 (ix ((jm_n2 (jm_n1 (jm_m2 (jm_mkA3 (jm_m0 u 48)) i) i) i) 4 i))))) := by simp [nI_0, jm_m2, jm_n3]
                            refine ih (i + 1) _ _ _ (by omega) ?_ ?_
                            ·
                              try rw [e63]
                              exact hh
                            try rw [e63]
                            exact lv_sub hl [1, 0] rfl
                          have e64 : (jm_an ((jm_n2 (jm_n1 (jm_m2 (jm_mkA3 (jm_m0 u 48)) i) i) i) 9 i) ((jm_n2 (jm_n1 (jm_m2 (jm_mkA3 (jm_m0 u 48)) i) i) i) 20 (ix ((jm_n2 (jm_n1 (jm_m2 (jm_mkA3 (jm_m0 u 48)) i) i) i) 4 i)))) = 1 := by simp [jm_an, h220, h234]
                          refine W.eq (g2 := F0 m 242 ls [.int (jm_an ((jm_n2 (jm_n1 (jm_m2 (jm_mkA3 (jm_m0 u 48)) i) i) i) 9 i) ((jm_n2 (jm_n1 (jm_m2 (jm_mkA3 (jm_m0 u 48)) i) i) i) 20 (ix ((jm_n2 (jm_n1 (jm_m2 (jm_mkA3 (jm_m0 u 48)) i) i) i) 4 i)))), .int (nI i), .ref (ad 10)]) (by first | (rw [e64]; done) | (rw [e64]; rfl)) ?_
                          refine J242 _ ?_
                          exact lv_sub hl [0, 1] rfl
                        have e65 : (jm_n2 (jm_n1 (jm_m2 (jm_mkA3 (jm_m0 u 48)) i) i) i) = (js_up (jm_n1 (jm_m2 (jm_mkA3 (jm_m0 u 48)) i) i) 10 i (jm_an ((jm_n1 (jm_m2 (jm_mkA3 (jm_m0 u 48)) i) i) 10 i) ((jm_n1 (jm_m2 (jm_mkA3 (jm_m0 u 48)) i) i) 19 i))) := rfl
                        refine J209 _ _ _ ?_ ?_
                        ·
                          try rw [e65]
                          exact hh
                        try rw [e65]
                        exact lv_sub hl [0, 1] rfl
                      have e66 : (jm_an ((jm_n1 (jm_m2 (jm_mkA3 (jm_m0 u 48)) i) i) 10 i) ((jm_n1 (jm_m2 (jm_mkA3 (jm_m0 u 48)) i) i) 19 i)) = 0 := by first | (simp [jm_an, h191]; done) | (simp [jm_an, eq_true h191]; done)
                      refine W.eq (g2 := F0 m 208 ls [.int (jm_an ((jm_n1 (jm_m2 (jm_mkA3 (jm_m0 u 48)) i) i) 10 i) ((jm_n1 (jm_m2 (jm_mkA3 (jm_m0 u 48)) i) i) 19 i)), .int (nI i), .ref (ad 11)]) (by first | (rw [e66]; done) | (rw [e66]; rfl)) ?_
                      refine J208 _ ?_
                      exact lv_sub hl [0, 1] rfl
                    refine lv_aload_n hx hb d_M_mark_194 rfl (lv_at hl 0 rfl) ?_
                    refine jg_M hc hh 19 (by decide) rfl wf_M_68 d_M_mark_195 ?_
                    refine lv_iload_n hx hb d_M_mark_198 rfl (lv_at hl 1 rfl) ?_
                    refine jmi_zld hc hh 19 (by decide) (by decide) hi d_M_mark_199 ?_
                    refine lv_if_eq (tgt := 207) hx hb d_M_mark_200 rfl (fun h200 => ?_) (fun h200 => ?_)
                    ·
                      refine lv_iconst (v := 0) hx hb d_M_mark_207 (by decide) ?_
                      have J208 : ∀  (ls : Array Slot), lv_has ls 3 [(0, .ref (ad 0)), (1, .int (nI i))] → W p l e (jr 3) s m args below meth c H locs 0 0 Q (F0 m 208 ls [.int (jm_an ((jm_n1 (jm_m2 (jm_mkA3 (jm_m0 u 48)) i) i) 10 i) ((jm_n1 (jm_m2 (jm_mkA3 (jm_m0 u 48)) i) i) 19 i)), .int (nI i), .ref (ad 11)]) := by
                        intro  ls hl
                        refine jmi_zst hc hh 10 (by decide) (by decide) hi jm_an_z d_M_mark_208 (fun H locs hh => ?_)
                        have J209 : ∀  (H : Heap) (locs : List Loc) (ls : Array Slot), jx_H D 22 ad (jm_cell ad cA (jm_n2 (jm_n1 (jm_m2 (jm_mkA3 (jm_m0 u 48)) i) i) i)) A s.heap H locs → lv_has ls 3 [(0, .ref (ad 0)), (1, .int (nI i))] → W p l e (jr 3) s m args below meth c H locs 0 0 Q (F0 m 209 ls []) := by
                          intro  H locs ls hh hl
                          refine lv_aload_n hx hb d_M_mark_209 rfl (lv_at hl 0 rfl) ?_
                          refine jg_M hc hh 9 (by decide) rfl wf_M_38 d_M_mark_210 ?_
                          refine lv_iload_n hx hb d_M_mark_213 rfl (lv_at hl 1 rfl) ?_
                          refine lv_aload_n hx hb d_M_mark_214 rfl (lv_at hl 0 rfl) ?_
                          refine jg_M hc hh 9 (by decide) rfl wf_M_38 d_M_mark_215 ?_
                          refine lv_iload_n hx hb d_M_mark_218 rfl (lv_at hl 1 rfl) ?_
                          refine jmi_zld hc hh 9 (by decide) (by decide) hi d_M_mark_219 ?_
                          refine lv_if_eq (tgt := 241) hx hb d_M_mark_220 rfl (fun h220 => ?_) (fun h220 => ?_)
                          ·
                            refine lv_iconst (v := 0) hx hb d_M_mark_241 (by decide) ?_
                            have J242 : ∀  (ls : Array Slot), lv_has ls 3 [(0, .ref (ad 0)), (1, .int (nI i))] → W p l e (jr 3) s m args below meth c H locs 0 0 Q (F0 m 242 ls [.int (jm_an ((jm_n2 (jm_n1 (jm_m2 (jm_mkA3 (jm_m0 u 48)) i) i) i) 9 i) ((jm_n2 (jm_n1 (jm_m2 (jm_mkA3 (jm_m0 u 48)) i) i) i) 20 (ix ((jm_n2 (jm_n1 (jm_m2 (jm_mkA3 (jm_m0 u 48)) i) i) i) 4 i)))), .int (nI i), .ref (ad 10)]) := by
                              intro  ls hl
                              refine jmi_zst hc hh 9 (by decide) (by decide) hi jm_an_z d_M_mark_242 (fun H locs hh => ?_)
                              refine lv_iinc (k := 1) (v := nI (i + 1)) (lv' := [(1, .int (nI (i + 1))), (0, .ref (ad 0))]) hx hb d_M_mark_243 hl rfl (nI_1 i) (by decide) rfl (fun ls hl => ?_)
                              refine lv_goto (tgt := 145) hx hb d_M_mark_246 rfl ?_
                              have e67 : (jm_m2 (jm_mkA3 (jm_m0 u 48)) (i + 1)) = (js_up (jm_n2 (jm_n1 (jm_m2 (jm_mkA3 (jm_m0 u 48)) i) i) i) 9 i (jm_an ((jm_n2 (jm_n1 (jm_m2 (jm_mkA3 (jm_m0 u 48)) i) i) i) 9 i) ((jm_n2 (jm_n1 (jm_m2 (jm_mkA3 (jm_m0 u 48)) i) i) i) 20 (ix ((jm_n2 (jm_n1 (jm_m2 (jm_mkA3 (jm_m0 u 48)) i) i) i) 4 i))))) := by simp [nI_0, jm_m2, jm_n3]
                              refine ih (i + 1) _ _ _ (by omega) ?_ ?_
                              ·
                                try rw [e67]
                                exact hh
                              try rw [e67]
                              exact lv_sub hl [1, 0] rfl
                            have e68 : (jm_an ((jm_n2 (jm_n1 (jm_m2 (jm_mkA3 (jm_m0 u 48)) i) i) i) 9 i) ((jm_n2 (jm_n1 (jm_m2 (jm_mkA3 (jm_m0 u 48)) i) i) i) 20 (ix ((jm_n2 (jm_n1 (jm_m2 (jm_mkA3 (jm_m0 u 48)) i) i) i) 4 i)))) = 0 := by first | (simp [jm_an, h220]; done) | (simp [jm_an, eq_true h220]; done)
                            refine W.eq (g2 := F0 m 242 ls [.int (jm_an ((jm_n2 (jm_n1 (jm_m2 (jm_mkA3 (jm_m0 u 48)) i) i) i) 9 i) ((jm_n2 (jm_n1 (jm_m2 (jm_mkA3 (jm_m0 u 48)) i) i) i) 20 (ix ((jm_n2 (jm_n1 (jm_m2 (jm_mkA3 (jm_m0 u 48)) i) i) i) 4 i)))), .int (nI i), .ref (ad 10)]) (by first | (rw [e68]; done) | (rw [e68]; rfl)) ?_
                            refine J242 _ ?_
                            exact lv_sub hl [0, 1] rfl
                          refine lv_aload_n hx hb d_M_mark_223 rfl (lv_at hl 0 rfl) ?_
                          refine jg_M hc hh 20 (by decide) rfl wf_M_71 d_M_mark_224 ?_
                          refine lv_aload_n hx hb d_M_mark_227 rfl (lv_at hl 0 rfl) ?_
                          refine jg_M hc hh 4 (by decide) rfl wf_M_23 d_M_mark_228 ?_
                          refine lv_iload_n hx hb d_M_mark_231 rfl (lv_at hl 1 rfl) ?_
                          refine jmi_ild hc hh 4 (by decide) (by decide) hi d_M_mark_232 ?_
                          refine jm_zld hc hh 20 (by decide) (by decide) ((jm_Sh_10 (jm_Sh_15 (jm_Sh_m2 (jm_Sh_A3 (jm_Sh_m0 hS 48)) i))).1 _ hi).1 d_M_mark_233 ?_
                          refine lv_if_eq (tgt := 241) hx hb d_M_mark_234 rfl (fun h234 => ?_) (fun h234 => ?_)
                          ·
                            refine lv_iconst (v := 0) hx hb d_M_mark_241 (by decide) ?_
                            have J242 : ∀  (ls : Array Slot), lv_has ls 3 [(0, .ref (ad 0)), (1, .int (nI i))] → W p l e (jr 3) s m args below meth c H locs 0 0 Q (F0 m 242 ls [.int (jm_an ((jm_n2 (jm_n1 (jm_m2 (jm_mkA3 (jm_m0 u 48)) i) i) i) 9 i) ((jm_n2 (jm_n1 (jm_m2 (jm_mkA3 (jm_m0 u 48)) i) i) i) 20 (ix ((jm_n2 (jm_n1 (jm_m2 (jm_mkA3 (jm_m0 u 48)) i) i) i) 4 i)))), .int (nI i), .ref (ad 10)]) := by
                              intro  ls hl
                              refine jmi_zst hc hh 9 (by decide) (by decide) hi jm_an_z d_M_mark_242 (fun H locs hh => ?_)
                              refine lv_iinc (k := 1) (v := nI (i + 1)) (lv' := [(1, .int (nI (i + 1))), (0, .ref (ad 0))]) hx hb d_M_mark_243 hl rfl (nI_1 i) (by decide) rfl (fun ls hl => ?_)
                              refine lv_goto (tgt := 145) hx hb d_M_mark_246 rfl ?_
                              have e69 : (jm_m2 (jm_mkA3 (jm_m0 u 48)) (i + 1)) = (js_up (jm_n2 (jm_n1 (jm_m2 (jm_mkA3 (jm_m0 u 48)) i) i) i) 9 i (jm_an ((jm_n2 (jm_n1 (jm_m2 (jm_mkA3 (jm_m0 u 48)) i) i) i) 9 i) ((jm_n2 (jm_n1 (jm_m2 (jm_mkA3 (jm_m0 u 48)) i) i) i) 20 (ix ((jm_n2 (jm_n1 (jm_m2 (jm_mkA3 (jm_m0 u 48)) i) i) i) 4 i))))) := by simp [nI_0, jm_m2, jm_n3]
                              refine ih (i + 1) _ _ _ (by omega) ?_ ?_
                              ·
                                try rw [e69]
                                exact hh
                              try rw [e69]
                              exact lv_sub hl [1, 0] rfl
                            have e70 : (jm_an ((jm_n2 (jm_n1 (jm_m2 (jm_mkA3 (jm_m0 u 48)) i) i) i) 9 i) ((jm_n2 (jm_n1 (jm_m2 (jm_mkA3 (jm_m0 u 48)) i) i) i) 20 (ix ((jm_n2 (jm_n1 (jm_m2 (jm_mkA3 (jm_m0 u 48)) i) i) i) 4 i)))) = 0 := by first | (simp [jm_an, h220, h234]; done) | (simp [jm_an, h220, eq_true h234]; done)
                            refine W.eq (g2 := F0 m 242 ls [.int (jm_an ((jm_n2 (jm_n1 (jm_m2 (jm_mkA3 (jm_m0 u 48)) i) i) i) 9 i) ((jm_n2 (jm_n1 (jm_m2 (jm_mkA3 (jm_m0 u 48)) i) i) i) 20 (ix ((jm_n2 (jm_n1 (jm_m2 (jm_mkA3 (jm_m0 u 48)) i) i) i) 4 i)))), .int (nI i), .ref (ad 10)]) (by first | (rw [e70]; done) | (rw [e70]; rfl)) ?_
                            refine J242 _ ?_
                            exact lv_sub hl [0, 1] rfl
                          refine lv_iconst (v := 1) hx hb d_M_mark_237 (by decide) ?_
                          refine lv_goto (tgt := 242) hx hb d_M_mark_238 rfl ?_
                          have J242 : ∀  (ls : Array Slot), lv_has ls 3 [(0, .ref (ad 0)), (1, .int (nI i))] → W p l e (jr 3) s m args below meth c H locs 0 0 Q (F0 m 242 ls [.int (jm_an ((jm_n2 (jm_n1 (jm_m2 (jm_mkA3 (jm_m0 u 48)) i) i) i) 9 i) ((jm_n2 (jm_n1 (jm_m2 (jm_mkA3 (jm_m0 u 48)) i) i) i) 20 (ix ((jm_n2 (jm_n1 (jm_m2 (jm_mkA3 (jm_m0 u 48)) i) i) i) 4 i)))), .int (nI i), .ref (ad 10)]) := by
                            intro  ls hl
                            refine jmi_zst hc hh 9 (by decide) (by decide) hi jm_an_z d_M_mark_242 (fun H locs hh => ?_)
                            refine lv_iinc (k := 1) (v := nI (i + 1)) (lv' := [(1, .int (nI (i + 1))), (0, .ref (ad 0))]) hx hb d_M_mark_243 hl rfl (nI_1 i) (by decide) rfl (fun ls hl => ?_)
                            refine lv_goto (tgt := 145) hx hb d_M_mark_246 rfl ?_
                            have e71 : (jm_m2 (jm_mkA3 (jm_m0 u 48)) (i + 1)) = (js_up (jm_n2 (jm_n1 (jm_m2 (jm_mkA3 (jm_m0 u 48)) i) i) i) 9 i (jm_an ((jm_n2 (jm_n1 (jm_m2 (jm_mkA3 (jm_m0 u 48)) i) i) i) 9 i) ((jm_n2 (jm_n1 (jm_m2 (jm_mkA3 (jm_m0 u 48)) i) i) i) 20 (ix ((jm_n2 (jm_n1 (jm_m2 (jm_mkA3 (jm_m0 u 48)) i) i) i) 4 i))))) := by simp [nI_0, jm_m2, jm_n3]
                            refine ih (i + 1) _ _ _ (by omega) ?_ ?_
                            ·
                              try rw [e71]
                              exact hh
                            try rw [e71]
                            exact lv_sub hl [1, 0] rfl
                          have e72 : (jm_an ((jm_n2 (jm_n1 (jm_m2 (jm_mkA3 (jm_m0 u 48)) i) i) i) 9 i) ((jm_n2 (jm_n1 (jm_m2 (jm_mkA3 (jm_m0 u 48)) i) i) i) 20 (ix ((jm_n2 (jm_n1 (jm_m2 (jm_mkA3 (jm_m0 u 48)) i) i) i) 4 i)))) = 1 := by simp [jm_an, h220, h234]
                          refine W.eq (g2 := F0 m 242 ls [.int (jm_an ((jm_n2 (jm_n1 (jm_m2 (jm_mkA3 (jm_m0 u 48)) i) i) i) 9 i) ((jm_n2 (jm_n1 (jm_m2 (jm_mkA3 (jm_m0 u 48)) i) i) i) 20 (ix ((jm_n2 (jm_n1 (jm_m2 (jm_mkA3 (jm_m0 u 48)) i) i) i) 4 i)))), .int (nI i), .ref (ad 10)]) (by first | (rw [e72]; done) | (rw [e72]; rfl)) ?_
                          refine J242 _ ?_
                          exact lv_sub hl [0, 1] rfl
                        have e73 : (jm_n2 (jm_n1 (jm_m2 (jm_mkA3 (jm_m0 u 48)) i) i) i) = (js_up (jm_n1 (jm_m2 (jm_mkA3 (jm_m0 u 48)) i) i) 10 i (jm_an ((jm_n1 (jm_m2 (jm_mkA3 (jm_m0 u 48)) i) i) 10 i) ((jm_n1 (jm_m2 (jm_mkA3 (jm_m0 u 48)) i) i) 19 i))) := rfl
                        refine J209 _ _ _ ?_ ?_
                        ·
                          try rw [e73]
                          exact hh
                        try rw [e73]
                        exact lv_sub hl [0, 1] rfl
                      have e74 : (jm_an ((jm_n1 (jm_m2 (jm_mkA3 (jm_m0 u 48)) i) i) 10 i) ((jm_n1 (jm_m2 (jm_mkA3 (jm_m0 u 48)) i) i) 19 i)) = 0 := by first | (simp [jm_an, h191, h200]; done) | (simp [jm_an, h191, eq_true h200]; done)
                      refine W.eq (g2 := F0 m 208 ls [.int (jm_an ((jm_n1 (jm_m2 (jm_mkA3 (jm_m0 u 48)) i) i) 10 i) ((jm_n1 (jm_m2 (jm_mkA3 (jm_m0 u 48)) i) i) 19 i)), .int (nI i), .ref (ad 11)]) (by first | (rw [e74]; done) | (rw [e74]; rfl)) ?_
                      refine J208 _ ?_
                      exact lv_sub hl [0, 1] rfl
                    refine lv_iconst (v := 1) hx hb d_M_mark_203 (by decide) ?_
                    refine lv_goto (tgt := 208) hx hb d_M_mark_204 rfl ?_
                    have J208 : ∀  (ls : Array Slot), lv_has ls 3 [(0, .ref (ad 0)), (1, .int (nI i))] → W p l e (jr 3) s m args below meth c H locs 0 0 Q (F0 m 208 ls [.int (jm_an ((jm_n1 (jm_m2 (jm_mkA3 (jm_m0 u 48)) i) i) 10 i) ((jm_n1 (jm_m2 (jm_mkA3 (jm_m0 u 48)) i) i) 19 i)), .int (nI i), .ref (ad 11)]) := by
                      intro  ls hl
                      refine jmi_zst hc hh 10 (by decide) (by decide) hi jm_an_z d_M_mark_208 (fun H locs hh => ?_)
                      have J209 : ∀  (H : Heap) (locs : List Loc) (ls : Array Slot), jx_H D 22 ad (jm_cell ad cA (jm_n2 (jm_n1 (jm_m2 (jm_mkA3 (jm_m0 u 48)) i) i) i)) A s.heap H locs → lv_has ls 3 [(0, .ref (ad 0)), (1, .int (nI i))] → W p l e (jr 3) s m args below meth c H locs 0 0 Q (F0 m 209 ls []) := by
                        intro  H locs ls hh hl
                        refine lv_aload_n hx hb d_M_mark_209 rfl (lv_at hl 0 rfl) ?_
                        refine jg_M hc hh 9 (by decide) rfl wf_M_38 d_M_mark_210 ?_
                        refine lv_iload_n hx hb d_M_mark_213 rfl (lv_at hl 1 rfl) ?_
                        refine lv_aload_n hx hb d_M_mark_214 rfl (lv_at hl 0 rfl) ?_
                        refine jg_M hc hh 9 (by decide) rfl wf_M_38 d_M_mark_215 ?_
                        refine lv_iload_n hx hb d_M_mark_218 rfl (lv_at hl 1 rfl) ?_
                        refine jmi_zld hc hh 9 (by decide) (by decide) hi d_M_mark_219 ?_
                        refine lv_if_eq (tgt := 241) hx hb d_M_mark_220 rfl (fun h220 => ?_) (fun h220 => ?_)
                        ·
                          refine lv_iconst (v := 0) hx hb d_M_mark_241 (by decide) ?_
                          have J242 : ∀  (ls : Array Slot), lv_has ls 3 [(0, .ref (ad 0)), (1, .int (nI i))] → W p l e (jr 3) s m args below meth c H locs 0 0 Q (F0 m 242 ls [.int (jm_an ((jm_n2 (jm_n1 (jm_m2 (jm_mkA3 (jm_m0 u 48)) i) i) i) 9 i) ((jm_n2 (jm_n1 (jm_m2 (jm_mkA3 (jm_m0 u 48)) i) i) i) 20 (ix ((jm_n2 (jm_n1 (jm_m2 (jm_mkA3 (jm_m0 u 48)) i) i) i) 4 i)))), .int (nI i), .ref (ad 10)]) := by
                            intro  ls hl
                            refine jmi_zst hc hh 9 (by decide) (by decide) hi jm_an_z d_M_mark_242 (fun H locs hh => ?_)
                            refine lv_iinc (k := 1) (v := nI (i + 1)) (lv' := [(1, .int (nI (i + 1))), (0, .ref (ad 0))]) hx hb d_M_mark_243 hl rfl (nI_1 i) (by decide) rfl (fun ls hl => ?_)
                            refine lv_goto (tgt := 145) hx hb d_M_mark_246 rfl ?_
                            have e75 : (jm_m2 (jm_mkA3 (jm_m0 u 48)) (i + 1)) = (js_up (jm_n2 (jm_n1 (jm_m2 (jm_mkA3 (jm_m0 u 48)) i) i) i) 9 i (jm_an ((jm_n2 (jm_n1 (jm_m2 (jm_mkA3 (jm_m0 u 48)) i) i) i) 9 i) ((jm_n2 (jm_n1 (jm_m2 (jm_mkA3 (jm_m0 u 48)) i) i) i) 20 (ix ((jm_n2 (jm_n1 (jm_m2 (jm_mkA3 (jm_m0 u 48)) i) i) i) 4 i))))) := by simp [nI_0, jm_m2, jm_n3]
                            refine ih (i + 1) _ _ _ (by omega) ?_ ?_
                            ·
                              try rw [e75]
                              exact hh
                            try rw [e75]
                            exact lv_sub hl [1, 0] rfl
                          have e76 : (jm_an ((jm_n2 (jm_n1 (jm_m2 (jm_mkA3 (jm_m0 u 48)) i) i) i) 9 i) ((jm_n2 (jm_n1 (jm_m2 (jm_mkA3 (jm_m0 u 48)) i) i) i) 20 (ix ((jm_n2 (jm_n1 (jm_m2 (jm_mkA3 (jm_m0 u 48)) i) i) i) 4 i)))) = 0 := by first | (simp [jm_an, h220]; done) | (simp [jm_an, eq_true h220]; done)
                          refine W.eq (g2 := F0 m 242 ls [.int (jm_an ((jm_n2 (jm_n1 (jm_m2 (jm_mkA3 (jm_m0 u 48)) i) i) i) 9 i) ((jm_n2 (jm_n1 (jm_m2 (jm_mkA3 (jm_m0 u 48)) i) i) i) 20 (ix ((jm_n2 (jm_n1 (jm_m2 (jm_mkA3 (jm_m0 u 48)) i) i) i) 4 i)))), .int (nI i), .ref (ad 10)]) (by first | (rw [e76]; done) | (rw [e76]; rfl)) ?_
                          refine J242 _ ?_
                          exact lv_sub hl [0, 1] rfl
                        refine lv_aload_n hx hb d_M_mark_223 rfl (lv_at hl 0 rfl) ?_
                        refine jg_M hc hh 20 (by decide) rfl wf_M_71 d_M_mark_224 ?_
                        refine lv_aload_n hx hb d_M_mark_227 rfl (lv_at hl 0 rfl) ?_
                        refine jg_M hc hh 4 (by decide) rfl wf_M_23 d_M_mark_228 ?_
                        refine lv_iload_n hx hb d_M_mark_231 rfl (lv_at hl 1 rfl) ?_
                        refine jmi_ild hc hh 4 (by decide) (by decide) hi d_M_mark_232 ?_
                        refine jm_zld hc hh 20 (by decide) (by decide) ((jm_Sh_10 (jm_Sh_15 (jm_Sh_m2 (jm_Sh_A3 (jm_Sh_m0 hS 48)) i))).1 _ hi).1 d_M_mark_233 ?_
                        refine lv_if_eq (tgt := 241) hx hb d_M_mark_234 rfl (fun h234 => ?_) (fun h234 => ?_)
                        ·
                          refine lv_iconst (v := 0) hx hb d_M_mark_241 (by decide) ?_
                          have J242 : ∀  (ls : Array Slot), lv_has ls 3 [(0, .ref (ad 0)), (1, .int (nI i))] → W p l e (jr 3) s m args below meth c H locs 0 0 Q (F0 m 242 ls [.int (jm_an ((jm_n2 (jm_n1 (jm_m2 (jm_mkA3 (jm_m0 u 48)) i) i) i) 9 i) ((jm_n2 (jm_n1 (jm_m2 (jm_mkA3 (jm_m0 u 48)) i) i) i) 20 (ix ((jm_n2 (jm_n1 (jm_m2 (jm_mkA3 (jm_m0 u 48)) i) i) i) 4 i)))), .int (nI i), .ref (ad 10)]) := by
                            intro  ls hl
                            refine jmi_zst hc hh 9 (by decide) (by decide) hi jm_an_z d_M_mark_242 (fun H locs hh => ?_)
                            refine lv_iinc (k := 1) (v := nI (i + 1)) (lv' := [(1, .int (nI (i + 1))), (0, .ref (ad 0))]) hx hb d_M_mark_243 hl rfl (nI_1 i) (by decide) rfl (fun ls hl => ?_)
                            refine lv_goto (tgt := 145) hx hb d_M_mark_246 rfl ?_
                            have e77 : (jm_m2 (jm_mkA3 (jm_m0 u 48)) (i + 1)) = (js_up (jm_n2 (jm_n1 (jm_m2 (jm_mkA3 (jm_m0 u 48)) i) i) i) 9 i (jm_an ((jm_n2 (jm_n1 (jm_m2 (jm_mkA3 (jm_m0 u 48)) i) i) i) 9 i) ((jm_n2 (jm_n1 (jm_m2 (jm_mkA3 (jm_m0 u 48)) i) i) i) 20 (ix ((jm_n2 (jm_n1 (jm_m2 (jm_mkA3 (jm_m0 u 48)) i) i) i) 4 i))))) := by simp [nI_0, jm_m2, jm_n3]
                            refine ih (i + 1) _ _ _ (by omega) ?_ ?_
                            ·
                              try rw [e77]
                              exact hh
                            try rw [e77]
                            exact lv_sub hl [1, 0] rfl
                          have e78 : (jm_an ((jm_n2 (jm_n1 (jm_m2 (jm_mkA3 (jm_m0 u 48)) i) i) i) 9 i) ((jm_n2 (jm_n1 (jm_m2 (jm_mkA3 (jm_m0 u 48)) i) i) i) 20 (ix ((jm_n2 (jm_n1 (jm_m2 (jm_mkA3 (jm_m0 u 48)) i) i) i) 4 i)))) = 0 := by first | (simp [jm_an, h220, h234]; done) | (simp [jm_an, h220, eq_true h234]; done)
                          refine W.eq (g2 := F0 m 242 ls [.int (jm_an ((jm_n2 (jm_n1 (jm_m2 (jm_mkA3 (jm_m0 u 48)) i) i) i) 9 i) ((jm_n2 (jm_n1 (jm_m2 (jm_mkA3 (jm_m0 u 48)) i) i) i) 20 (ix ((jm_n2 (jm_n1 (jm_m2 (jm_mkA3 (jm_m0 u 48)) i) i) i) 4 i)))), .int (nI i), .ref (ad 10)]) (by first | (rw [e78]; done) | (rw [e78]; rfl)) ?_
                          refine J242 _ ?_
                          exact lv_sub hl [0, 1] rfl
                        refine lv_iconst (v := 1) hx hb d_M_mark_237 (by decide) ?_
                        refine lv_goto (tgt := 242) hx hb d_M_mark_238 rfl ?_
                        have J242 : ∀  (ls : Array Slot), lv_has ls 3 [(0, .ref (ad 0)), (1, .int (nI i))] → W p l e (jr 3) s m args below meth c H locs 0 0 Q (F0 m 242 ls [.int (jm_an ((jm_n2 (jm_n1 (jm_m2 (jm_mkA3 (jm_m0 u 48)) i) i) i) 9 i) ((jm_n2 (jm_n1 (jm_m2 (jm_mkA3 (jm_m0 u 48)) i) i) i) 20 (ix ((jm_n2 (jm_n1 (jm_m2 (jm_mkA3 (jm_m0 u 48)) i) i) i) 4 i)))), .int (nI i), .ref (ad 10)]) := by
                          intro  ls hl
                          refine jmi_zst hc hh 9 (by decide) (by decide) hi jm_an_z d_M_mark_242 (fun H locs hh => ?_)
                          refine lv_iinc (k := 1) (v := nI (i + 1)) (lv' := [(1, .int (nI (i + 1))), (0, .ref (ad 0))]) hx hb d_M_mark_243 hl rfl (nI_1 i) (by decide) rfl (fun ls hl => ?_)
                          refine lv_goto (tgt := 145) hx hb d_M_mark_246 rfl ?_
                          have e79 : (jm_m2 (jm_mkA3 (jm_m0 u 48)) (i + 1)) = (js_up (jm_n2 (jm_n1 (jm_m2 (jm_mkA3 (jm_m0 u 48)) i) i) i) 9 i (jm_an ((jm_n2 (jm_n1 (jm_m2 (jm_mkA3 (jm_m0 u 48)) i) i) i) 9 i) ((jm_n2 (jm_n1 (jm_m2 (jm_mkA3 (jm_m0 u 48)) i) i) i) 20 (ix ((jm_n2 (jm_n1 (jm_m2 (jm_mkA3 (jm_m0 u 48)) i) i) i) 4 i))))) := by simp [nI_0, jm_m2, jm_n3]
                          refine ih (i + 1) _ _ _ (by omega) ?_ ?_
                          ·
                            try rw [e79]
                            exact hh
                          try rw [e79]
                          exact lv_sub hl [1, 0] rfl
                        have e80 : (jm_an ((jm_n2 (jm_n1 (jm_m2 (jm_mkA3 (jm_m0 u 48)) i) i) i) 9 i) ((jm_n2 (jm_n1 (jm_m2 (jm_mkA3 (jm_m0 u 48)) i) i) i) 20 (ix ((jm_n2 (jm_n1 (jm_m2 (jm_mkA3 (jm_m0 u 48)) i) i) i) 4 i)))) = 1 := by simp [jm_an, h220, h234]
                        refine W.eq (g2 := F0 m 242 ls [.int (jm_an ((jm_n2 (jm_n1 (jm_m2 (jm_mkA3 (jm_m0 u 48)) i) i) i) 9 i) ((jm_n2 (jm_n1 (jm_m2 (jm_mkA3 (jm_m0 u 48)) i) i) i) 20 (ix ((jm_n2 (jm_n1 (jm_m2 (jm_mkA3 (jm_m0 u 48)) i) i) i) 4 i)))), .int (nI i), .ref (ad 10)]) (by first | (rw [e80]; done) | (rw [e80]; rfl)) ?_
                        refine J242 _ ?_
                        exact lv_sub hl [0, 1] rfl
                      have e81 : (jm_n2 (jm_n1 (jm_m2 (jm_mkA3 (jm_m0 u 48)) i) i) i) = (js_up (jm_n1 (jm_m2 (jm_mkA3 (jm_m0 u 48)) i) i) 10 i (jm_an ((jm_n1 (jm_m2 (jm_mkA3 (jm_m0 u 48)) i) i) 10 i) ((jm_n1 (jm_m2 (jm_mkA3 (jm_m0 u 48)) i) i) 19 i))) := rfl
                      refine J209 _ _ _ ?_ ?_
                      ·
                        try rw [e81]
                        exact hh
                      try rw [e81]
                      exact lv_sub hl [0, 1] rfl
                    have e82 : (jm_an ((jm_n1 (jm_m2 (jm_mkA3 (jm_m0 u 48)) i) i) 10 i) ((jm_n1 (jm_m2 (jm_mkA3 (jm_m0 u 48)) i) i) 19 i)) = 1 := by simp [jm_an, h191, h200]
                    refine W.eq (g2 := F0 m 208 ls [.int (jm_an ((jm_n1 (jm_m2 (jm_mkA3 (jm_m0 u 48)) i) i) 10 i) ((jm_n1 (jm_m2 (jm_mkA3 (jm_m0 u 48)) i) i) 19 i)), .int (nI i), .ref (ad 11)]) (by first | (rw [e82]; done) | (rw [e82]; rfl)) ?_
                    refine J208 _ ?_
                    exact lv_sub hl [0, 1] rfl
                  have e83 : (jm_n1 (jm_m2 (jm_mkA3 (jm_m0 u 48)) i) i) = (js_up (jm_m2 (jm_mkA3 (jm_m0 u 48)) i) 15 i (jm_an ((jm_m2 (jm_mkA3 (jm_m0 u 48)) i) 15 i) ((jm_m2 (jm_mkA3 (jm_m0 u 48)) i) 20 i))) := rfl
                  refine J180 _ _ _ ?_ ?_
                  ·
                    try rw [e83]
                    exact hh
                  try rw [e83]
                  exact lv_sub hl [0, 1] rfl
                have e84 : (jm_an ((jm_m2 (jm_mkA3 (jm_m0 u 48)) i) 15 i) ((jm_m2 (jm_mkA3 (jm_m0 u 48)) i) 20 i)) = 1 := by simp [jm_an, h162, h171]
                refine W.eq (g2 := F0 m 179 ls [.int (jm_an ((jm_m2 (jm_mkA3 (jm_m0 u 48)) i) 15 i) ((jm_m2 (jm_mkA3 (jm_m0 u 48)) i) 20 i)), .int (nI i), .ref (ad 16)]) (by first | (rw [e84]; done) | (rw [e84]; rfl)) ?_
                refine J179 _ ?_
                exact lv_sub hl [0, 1] rfl
            have e85 : nI 0 = 0 := rfl
            have e86 : (jm_m2 (jm_mkA3 (jm_m0 u 48)) 0) = (jm_mkA3 (jm_m0 u 48)) := by simp [nI_0, jm_m2, jm_n3]
            refine L145 48 0 _ _ _ (by omega) ?_ ?_
            ·
              try rw [e85]
              try rw [e86]
              exact hh
            try rw [e85]
            try rw [e86]
            exact lv_sub hl [1, 0] rfl
          have e87 : (jm_mkA3 (jm_m0 u 48)) = b := hr1.symm
          refine J143 _ _ _ ?_ ?_
          ·
            try rw [e87]
            exact hh
          try rw [e87]
          exact lv_sub hl [0] rfl
        | succ n ih =>
          intro b q H locs ls hm hSb hr1 hh hl
          refine lv_iload_n hx hb d_M_mark_53 rfl (lv_at hl 1 rfl) ?_
          refine lv_iconst (v := 3) hx hb d_M_mark_54 (by decide) ?_
          refine lv_icmp_ge (tgt := 143) hx hb d_M_mark_55 rfl (fun hq => absurd hq (nI_ge (show q < 3 by omega) (by decide))) (fun h55 => ?_)
          refine lv_iconst (v := 0) hx hb d_M_mark_58 (by decide) ?_
          refine lv_istore_n (i := 2) (lv' := [(2, .int 0), (0, .ref (ad 0)), (1, .int (nI q))]) hx hb d_M_mark_59 rfl hl (by decide) rfl (fun ls hl => ?_)
          have L60 : ∀ (n : Nat) (i : Nat) (H : Heap) (locs : List Loc) (ls : Array Slot), i + n = 48 → jx_H D 22 ad (jm_cell ad cA (jm_m1 b i)) A s.heap H locs → lv_has ls 3 [(0, .ref (ad 0)), (1, .int (nI q)), (2, .int (nI i))] → W p l e (jr 3) s m args below meth c H locs 0 0 Q (F0 m 60 ls []) := by
            intro n
            induction n with
            | zero =>
              intro i H locs ls hm hh hl
              have hi : i = 48 := by omega
              refine lv_iload_n hx hb d_M_mark_60 rfl (lv_at hl 2 rfl) ?_
              refine lv_bipush (v := 48) hx hb d_M_mark_61 (by decide) ?_
              refine lv_icmp_ge (tgt := 137) hx hb d_M_mark_63 rfl (fun h63 => ?_) (fun hq => absurd (nI_le (show 48 ≤ i by omega) (show i < 2 ^ 31 by omega)) hq)
              refine lv_iinc (k := 1) (v := nI (q + 1)) (lv' := [(1, .int (nI (q + 1))), (0, .ref (ad 0)), (2, .int (nI i))]) hx hb d_M_mark_137 hl rfl (nI_1 q) (by decide) rfl (fun ls hl => ?_)
              refine lv_goto (tgt := 53) hx hb d_M_mark_140 rfl ?_
              refine ih (jm_m1 b i) (q + 1) _ _ _ (by omega) (jm_Sh_m1 hSb i) (by rw [← hr1, hi]; rfl) ?_ ?_
              ·
                exact hh
              exact lv_sub hl [1, 0] rfl
            | succ n ih =>
              intro i H locs ls hm hh hl
              have hi : i < 48 := by omega
              refine lv_iload_n hx hb d_M_mark_60 rfl (lv_at hl 2 rfl) ?_
              refine lv_bipush (v := 48) hx hb d_M_mark_61 (by decide) ?_
              refine lv_icmp_ge (tgt := 137) hx hb d_M_mark_63 rfl (fun hq => absurd hq (nI_ge hi (by decide))) (fun h63 => ?_)
              refine lv_aload_n hx hb d_M_mark_66 rfl (lv_at hl 0 rfl) ?_
              refine jg_M hc hh 9 (by decide) rfl wf_M_38 d_M_mark_67 ?_
              refine lv_iload_n hx hb d_M_mark_70 rfl (lv_at hl 2 rfl) ?_
              refine jmi_zld hc hh 9 (by decide) (by decide) hi d_M_mark_71 ?_
              refine lv_if_eq (tgt := 131) hx hb d_M_mark_72 rfl (fun h72 => ?_) (fun h72 => ?_)
              ·
                refine lv_iinc (k := 2) (v := nI (i + 1)) (lv' := [(2, .int (nI (i + 1))), (0, .ref (ad 0)), (1, .int (nI q))]) hx hb d_M_mark_131 hl rfl (nI_1 i) (by decide) rfl (fun ls hl => ?_)
                refine lv_goto (tgt := 60) hx hb d_M_mark_134 rfl ?_
                have e88 : (jm_m1 b (i + 1)) = (jm_m1 b i) := by simp [jm_m1, jm_me, jm_me1, jm_me2, h72, nI_0]
                refine ih (i + 1) _ _ _ (by omega) ?_ ?_
                ·
                  try rw [e88]
                  exact hh
                try rw [e88]
                exact lv_sub hl [1, 2, 0] rfl
              refine lv_aload_n hx hb d_M_mark_75 rfl (lv_at hl 0 rfl) ?_
              refine jg_M hc hh 20 (by decide) rfl wf_M_71 d_M_mark_76 ?_
              refine lv_aload_n hx hb d_M_mark_79 rfl (lv_at hl 0 rfl) ?_
              refine jg_M hc hh 4 (by decide) rfl wf_M_23 d_M_mark_80 ?_
              refine lv_iload_n hx hb d_M_mark_83 rfl (lv_at hl 2 rfl) ?_
              refine jmi_ild hc hh 4 (by decide) (by decide) hi d_M_mark_84 ?_
              refine jm_zld hc hh 20 (by decide) (by decide) ((jm_Sh_m1 hSb i).1 _ hi).1 d_M_mark_85 ?_
              refine lv_if_eq (tgt := 131) hx hb d_M_mark_86 rfl (fun h86 => ?_) (fun h86 => ?_)
              ·
                refine lv_iinc (k := 2) (v := nI (i + 1)) (lv' := [(2, .int (nI (i + 1))), (0, .ref (ad 0)), (1, .int (nI q))]) hx hb d_M_mark_131 hl rfl (nI_1 i) (by decide) rfl (fun ls hl => ?_)
                refine lv_goto (tgt := 60) hx hb d_M_mark_134 rfl ?_
                have e89 : (jm_m1 b (i + 1)) = (jm_m1 b i) := by simp [jm_m1, jm_me, jm_me1, jm_me2, h72, h86, nI_0]
                refine ih (i + 1) _ _ _ (by omega) ?_ ?_
                ·
                  try rw [e89]
                  exact hh
                try rw [e89]
                exact lv_sub hl [1, 2, 0] rfl
              refine lv_aload_n hx hb d_M_mark_89 rfl (lv_at hl 0 rfl) ?_
              refine jg_M hc hh 19 (by decide) rfl wf_M_68 d_M_mark_90 ?_
              refine lv_aload_n hx hb d_M_mark_93 rfl (lv_at hl 0 rfl) ?_
              refine jg_M hc hh 8 (by decide) rfl wf_M_35 d_M_mark_94 ?_
              refine lv_iload_n hx hb d_M_mark_97 rfl (lv_at hl 2 rfl) ?_
              refine jmi_ild hc hh 8 (by decide) (by decide) hi d_M_mark_98 ?_
              refine lv_iconst (v := 1) hx hb d_M_mark_99 (by decide) ?_
              refine jm_zst hc hh 19 (by decide) (by decide) ((jm_Sh_m1 hSb i).1 _ hi).2.1 (by decide) d_M_mark_100 (fun H locs hh => ?_)
              refine lv_aload_n hx hb d_M_mark_101 rfl (lv_at hl 0 rfl) ?_
              refine lv_aload_n hx hb d_M_mark_102 rfl (lv_at hl 0 rfl) ?_
              refine jg_M hc hh 13 (by decide) rfl wf_M_50 d_M_mark_103 ?_
              refine lv_aload_n hx hb d_M_mark_106 rfl (lv_at hl 0 rfl) ?_
              refine jg_M hc hh 8 (by decide) rfl wf_M_35 d_M_mark_107 ?_
              refine lv_iload_n hx hb d_M_mark_110 rfl (lv_at hl 2 rfl) ?_
              refine jmi_ild hc hh 8 (by decide) (by decide) hi d_M_mark_111 ?_
              refine jm_ild hc hh 13 (by decide) (by decide) ((jm_Sh_19 (jm_Sh_m1 hSb i)).1 _ hi).2.1 d_M_mark_112 ?_
              refine jx_callV [.int ((js_up (jm_m1 b i) 19 (ix ((jm_m1 b i) 8 i)) 1) 13 (ix ((js_up (jm_m1 b i) 19 (ix ((jm_m1 b i) 8 i)) 1) 8 i)))] [] hc hh (m_keep l D aK ad cA (js_up (jm_m1 b i) 19 (ix ((jm_m1 b i) 8 i)) 1) ((js_up (jm_m1 b i) 19 (ix ((jm_m1 b i) 8 i)) 1) 13 (ix ((js_up (jm_m1 b i) 19 (ix ((jm_m1 b i) 8 i)) 1) 8 i))) (jm_Slx (jm_Sh_19 (jm_Sh_m1 hSb i)) ((jm_Sh_19 (jm_Sh_m1 hSb i)).1 _ hi).2.1)) wy_M_120 ⟨by decide, rfl, rfl⟩ (by decide) rfl hl.1 rfl (by decide) ⟨Nat.zero_le _, Nat.zero_le _⟩ d_M_mark_113 (fun r u9 H locs hp hh _ _ => ?_)
              rw [hp.2] at hh
              refine W.eq (g2 := F0 m 116 ls []) rfl ?_
              refine lv_aload_n hx hb d_M_mark_116 rfl (lv_at hl 0 rfl) ?_
              refine lv_aload_n hx hb d_M_mark_117 rfl (lv_at hl 0 rfl) ?_
              refine jg_M hc hh 14 (by decide) rfl wf_M_53 d_M_mark_118 ?_
              refine lv_aload_n hx hb d_M_mark_121 rfl (lv_at hl 0 rfl) ?_
              refine jg_M hc hh 8 (by decide) rfl wf_M_35 d_M_mark_122 ?_
              refine lv_iload_n hx hb d_M_mark_125 rfl (lv_at hl 2 rfl) ?_
              refine jmi_ild hc hh 8 (by decide) (by decide) hi d_M_mark_126 ?_
              refine jm_ild hc hh 14 (by decide) (by decide) ((jm_Sh_keep (jm_Sh_19 (jm_Sh_m1 hSb i))).1 _ hi).2.1 d_M_mark_127 ?_
              refine jx_callV [.int ((jm_keep (js_up (jm_m1 b i) 19 (ix ((jm_m1 b i) 8 i)) 1) ((js_up (jm_m1 b i) 19 (ix ((jm_m1 b i) 8 i)) 1) 13 (ix ((js_up (jm_m1 b i) 19 (ix ((jm_m1 b i) 8 i)) 1) 8 i)))) 14 (ix ((jm_keep (js_up (jm_m1 b i) 19 (ix ((jm_m1 b i) 8 i)) 1) ((js_up (jm_m1 b i) 19 (ix ((jm_m1 b i) 8 i)) 1) 13 (ix ((js_up (jm_m1 b i) 19 (ix ((jm_m1 b i) 8 i)) 1) 8 i)))) 8 i)))] [] hc hh (m_keep l D aK ad cA (jm_keep (js_up (jm_m1 b i) 19 (ix ((jm_m1 b i) 8 i)) 1) ((js_up (jm_m1 b i) 19 (ix ((jm_m1 b i) 8 i)) 1) 13 (ix ((js_up (jm_m1 b i) 19 (ix ((jm_m1 b i) 8 i)) 1) 8 i)))) ((jm_keep (js_up (jm_m1 b i) 19 (ix ((jm_m1 b i) 8 i)) 1) ((js_up (jm_m1 b i) 19 (ix ((jm_m1 b i) 8 i)) 1) 13 (ix ((js_up (jm_m1 b i) 19 (ix ((jm_m1 b i) 8 i)) 1) 8 i)))) 14 (ix ((jm_keep (js_up (jm_m1 b i) 19 (ix ((jm_m1 b i) 8 i)) 1) ((js_up (jm_m1 b i) 19 (ix ((jm_m1 b i) 8 i)) 1) 13 (ix ((js_up (jm_m1 b i) 19 (ix ((jm_m1 b i) 8 i)) 1) 8 i)))) 8 i))) (jm_Srx (jm_Sh_keep (jm_Sh_19 (jm_Sh_m1 hSb i))) ((jm_Sh_keep (jm_Sh_19 (jm_Sh_m1 hSb i))).1 _ hi).2.1)) wy_M_120 ⟨by decide, rfl, rfl⟩ (by decide) rfl hl.1 rfl (by decide) ⟨Nat.zero_le _, Nat.zero_le _⟩ d_M_mark_128 (fun r u9 H locs hp hh _ _ => ?_)
              rw [hp.2] at hh
              refine W.eq (g2 := F0 m 131 ls []) rfl ?_
              refine lv_iinc (k := 2) (v := nI (i + 1)) (lv' := [(2, .int (nI (i + 1))), (0, .ref (ad 0)), (1, .int (nI q))]) hx hb d_M_mark_131 hl rfl (nI_1 i) (by decide) rfl (fun ls hl => ?_)
              refine lv_goto (tgt := 60) hx hb d_M_mark_134 rfl ?_
              have e90 : (jm_m1 b (i + 1)) = (jm_keep (jm_keep (js_up (jm_m1 b i) 19 (ix ((jm_m1 b i) 8 i)) 1) ((js_up (jm_m1 b i) 19 (ix ((jm_m1 b i) 8 i)) 1) 13 (ix ((js_up (jm_m1 b i) 19 (ix ((jm_m1 b i) 8 i)) 1) 8 i)))) ((jm_keep (js_up (jm_m1 b i) 19 (ix ((jm_m1 b i) 8 i)) 1) ((js_up (jm_m1 b i) 19 (ix ((jm_m1 b i) 8 i)) 1) 13 (ix ((js_up (jm_m1 b i) 19 (ix ((jm_m1 b i) 8 i)) 1) 8 i)))) 14 (ix ((jm_keep (js_up (jm_m1 b i) 19 (ix ((jm_m1 b i) 8 i)) 1) ((js_up (jm_m1 b i) 19 (ix ((jm_m1 b i) 8 i)) 1) 13 (ix ((js_up (jm_m1 b i) 19 (ix ((jm_m1 b i) 8 i)) 1) 8 i)))) 8 i)))) := by simp [jm_m1, jm_me, jm_me1, jm_me2, h72, h86, nI_0]
              refine ih (i + 1) _ _ _ (by omega) ?_ ?_
              ·
                try rw [e90]
                exact hh
              try rw [e90]
              exact lv_sub hl [1, 2, 0] rfl
          have e91 : nI 0 = 0 := rfl
          have e92 : (jm_m1 b 0) = b := by simp [jm_m1, jm_me, jm_me1, jm_me2, nI_0]
          refine L60 48 0 _ _ _ (by omega) ?_ ?_
          ·
            try rw [e91]
            try rw [e92]
            exact hh
          try rw [e91]
          try rw [e92]
          exact lv_sub hl [1, 2, 0] rfl
      have e93 : nI 0 = 0 := rfl
      have e94 : (jm_m0 u 48) = (jm_m0 u i) := by rw [hi]
      refine L53 3 (jm_m0 u 48) 0 _ _ _ (by omega) (jm_Sh_m0 hS 48) rfl ?_ ?_
      ·
        try rw [e93]
        try rw [e94]
        exact hh
      try rw [e93]
      try rw [e94]
      exact lv_sub hl [1, 0] rfl
    | succ n ih =>
      intro i H locs ls hm hh hl
      have hi : i < 48 := by omega
      refine lv_iload_n hx hb d_M_mark_2 rfl (lv_at hl 1 rfl) ?_
      refine lv_bipush (v := 48) hx hb d_M_mark_3 (by decide) ?_
      refine lv_icmp_ge (tgt := 51) hx hb d_M_mark_5 rfl (fun hq => absurd hq (nI_ge hi (by decide))) (fun h5 => ?_)
      refine lv_aload_n hx hb d_M_mark_8 rfl (lv_at hl 0 rfl) ?_
      refine jg_M hc hh 19 (by decide) rfl wf_M_68 d_M_mark_9 ?_
      refine lv_iload_n hx hb d_M_mark_12 rfl (lv_at hl 1 rfl) ?_
      refine lv_iconst (v := 0) hx hb d_M_mark_13 (by decide) ?_
      refine jmi_zst hc hh 19 (by decide) (by decide) hi (by decide) d_M_mark_14 (fun H locs hh => ?_)
      refine lv_aload_n hx hb d_M_mark_15 rfl (lv_at hl 0 rfl) ?_
      refine jg_M hc hh 20 (by decide) rfl wf_M_71 d_M_mark_16 ?_
      refine lv_iload_n hx hb d_M_mark_19 rfl (lv_at hl 1 rfl) ?_
      refine lv_iload_n hx hb d_M_mark_20 rfl (lv_at hl 1 rfl) ?_
      refine lv_if_ne (tgt := 28) hx hb d_M_mark_21 rfl (fun h21 => ?_) (fun h21 => ?_)
      ·
        refine lv_iconst (v := 0) hx hb d_M_mark_28 (by decide) ?_
        have J29 : ∀  (ls : Array Slot), lv_has ls 3 [(0, .ref (ad 0)), (1, .int (nI i))] → W p l e (jr 3) s m args below meth c H locs 0 0 Q (F0 m 29 ls [.int (jm_k0 i), .int (nI i), .ref (ad 21)]) := by
          intro  ls hl
          refine jmi_zst hc hh 20 (by decide) (by decide) hi jm_k0_z d_M_mark_29 (fun H locs hh => ?_)
          refine lv_aload_n hx hb d_M_mark_30 rfl (lv_at hl 0 rfl) ?_
          refine jg_M hc hh 17 (by decide) rfl wf_M_62 d_M_mark_31 ?_
          refine lv_iload_n hx hb d_M_mark_34 rfl (lv_at hl 1 rfl) ?_
          refine lv_iload_n hx hb d_M_mark_35 rfl (lv_at hl 1 rfl) ?_
          refine lv_if_ne (tgt := 43) hx hb d_M_mark_36 rfl (fun h36 => ?_) (fun h36 => ?_)
          ·
            refine lv_iconst (v := 0) hx hb d_M_mark_43 (by decide) ?_
            have J44 : ∀  (ls : Array Slot), lv_has ls 3 [(0, .ref (ad 0)), (1, .int (nI i))] → W p l e (jr 3) s m args below meth c H locs 0 0 Q (F0 m 44 ls [.int (jm_k0 i), .int (nI i), .ref (ad 18)]) := by
              intro  ls hl
              refine jmi_zst hc hh 17 (by decide) (by decide) hi jm_k0_z d_M_mark_44 (fun H locs hh => ?_)
              refine lv_iinc (k := 1) (v := nI (i + 1)) (lv' := [(1, .int (nI (i + 1))), (0, .ref (ad 0))]) hx hb d_M_mark_45 hl rfl (nI_1 i) (by decide) rfl (fun ls hl => ?_)
              refine lv_goto (tgt := 2) hx hb d_M_mark_48 rfl ?_
              have e95 : (jm_m0 u (i + 1)) = (js_up (js_up (js_up (jm_m0 u i) 19 i 0) 20 i (jm_k0 i)) 17 i (jm_k0 i)) := by simp [nI_0, jm_m0]
              refine ih (i + 1) _ _ _ (by omega) ?_ ?_
              ·
                try rw [e95]
                exact hh
              try rw [e95]
              exact lv_sub hl [1, 0] rfl
            have e96 : (jm_k0 i) = 0 := by simp [jm_k0, h36]
            refine W.eq (g2 := F0 m 44 ls [.int (jm_k0 i), .int (nI i), .ref (ad 18)]) (by first | (rw [e96]; done) | (rw [e96]; rfl)) ?_
            refine J44 _ ?_
            exact lv_sub hl [0, 1] rfl
          refine lv_iconst (v := 1) hx hb d_M_mark_39 (by decide) ?_
          refine lv_goto (tgt := 44) hx hb d_M_mark_40 rfl ?_
          have J44 : ∀  (ls : Array Slot), lv_has ls 3 [(0, .ref (ad 0)), (1, .int (nI i))] → W p l e (jr 3) s m args below meth c H locs 0 0 Q (F0 m 44 ls [.int (jm_k0 i), .int (nI i), .ref (ad 18)]) := by
            intro  ls hl
            refine jmi_zst hc hh 17 (by decide) (by decide) hi jm_k0_z d_M_mark_44 (fun H locs hh => ?_)
            refine lv_iinc (k := 1) (v := nI (i + 1)) (lv' := [(1, .int (nI (i + 1))), (0, .ref (ad 0))]) hx hb d_M_mark_45 hl rfl (nI_1 i) (by decide) rfl (fun ls hl => ?_)
            refine lv_goto (tgt := 2) hx hb d_M_mark_48 rfl ?_
            have e97 : (jm_m0 u (i + 1)) = (js_up (js_up (js_up (jm_m0 u i) 19 i 0) 20 i (jm_k0 i)) 17 i (jm_k0 i)) := by simp [nI_0, jm_m0]
            refine ih (i + 1) _ _ _ (by omega) ?_ ?_
            ·
              try rw [e97]
              exact hh
            try rw [e97]
            exact lv_sub hl [1, 0] rfl
          have e98 : (jm_k0 i) = 1 := by first | (simp [jm_k0, h36]; done) | (simp [jm_k0, eq_true h36]; done)
          refine W.eq (g2 := F0 m 44 ls [.int (jm_k0 i), .int (nI i), .ref (ad 18)]) (by first | (rw [e98]; done) | (rw [e98]; rfl)) ?_
          refine J44 _ ?_
          exact lv_sub hl [0, 1] rfl
        have e99 : (jm_k0 i) = 0 := by simp [jm_k0, h21]
        refine W.eq (g2 := F0 m 29 ls [.int (jm_k0 i), .int (nI i), .ref (ad 21)]) (by first | (rw [e99]; done) | (rw [e99]; rfl)) ?_
        refine J29 _ ?_
        exact lv_sub hl [0, 1] rfl
      refine lv_iconst (v := 1) hx hb d_M_mark_24 (by decide) ?_
      refine lv_goto (tgt := 29) hx hb d_M_mark_25 rfl ?_
      have J29 : ∀  (ls : Array Slot), lv_has ls 3 [(0, .ref (ad 0)), (1, .int (nI i))] → W p l e (jr 3) s m args below meth c H locs 0 0 Q (F0 m 29 ls [.int (jm_k0 i), .int (nI i), .ref (ad 21)]) := by
        intro  ls hl
        refine jmi_zst hc hh 20 (by decide) (by decide) hi jm_k0_z d_M_mark_29 (fun H locs hh => ?_)
        refine lv_aload_n hx hb d_M_mark_30 rfl (lv_at hl 0 rfl) ?_
        refine jg_M hc hh 17 (by decide) rfl wf_M_62 d_M_mark_31 ?_
        refine lv_iload_n hx hb d_M_mark_34 rfl (lv_at hl 1 rfl) ?_
        refine lv_iload_n hx hb d_M_mark_35 rfl (lv_at hl 1 rfl) ?_
        refine lv_if_ne (tgt := 43) hx hb d_M_mark_36 rfl (fun h36 => ?_) (fun h36 => ?_)
        ·
          refine lv_iconst (v := 0) hx hb d_M_mark_43 (by decide) ?_
          have J44 : ∀  (ls : Array Slot), lv_has ls 3 [(0, .ref (ad 0)), (1, .int (nI i))] → W p l e (jr 3) s m args below meth c H locs 0 0 Q (F0 m 44 ls [.int (jm_k0 i), .int (nI i), .ref (ad 18)]) := by
            intro  ls hl
            refine jmi_zst hc hh 17 (by decide) (by decide) hi jm_k0_z d_M_mark_44 (fun H locs hh => ?_)
            refine lv_iinc (k := 1) (v := nI (i + 1)) (lv' := [(1, .int (nI (i + 1))), (0, .ref (ad 0))]) hx hb d_M_mark_45 hl rfl (nI_1 i) (by decide) rfl (fun ls hl => ?_)
            refine lv_goto (tgt := 2) hx hb d_M_mark_48 rfl ?_
            have e100 : (jm_m0 u (i + 1)) = (js_up (js_up (js_up (jm_m0 u i) 19 i 0) 20 i (jm_k0 i)) 17 i (jm_k0 i)) := by simp [nI_0, jm_m0]
            refine ih (i + 1) _ _ _ (by omega) ?_ ?_
            ·
              try rw [e100]
              exact hh
            try rw [e100]
            exact lv_sub hl [1, 0] rfl
          have e101 : (jm_k0 i) = 0 := by simp [jm_k0, h36]
          refine W.eq (g2 := F0 m 44 ls [.int (jm_k0 i), .int (nI i), .ref (ad 18)]) (by first | (rw [e101]; done) | (rw [e101]; rfl)) ?_
          refine J44 _ ?_
          exact lv_sub hl [0, 1] rfl
        refine lv_iconst (v := 1) hx hb d_M_mark_39 (by decide) ?_
        refine lv_goto (tgt := 44) hx hb d_M_mark_40 rfl ?_
        have J44 : ∀  (ls : Array Slot), lv_has ls 3 [(0, .ref (ad 0)), (1, .int (nI i))] → W p l e (jr 3) s m args below meth c H locs 0 0 Q (F0 m 44 ls [.int (jm_k0 i), .int (nI i), .ref (ad 18)]) := by
          intro  ls hl
          refine jmi_zst hc hh 17 (by decide) (by decide) hi jm_k0_z d_M_mark_44 (fun H locs hh => ?_)
          refine lv_iinc (k := 1) (v := nI (i + 1)) (lv' := [(1, .int (nI (i + 1))), (0, .ref (ad 0))]) hx hb d_M_mark_45 hl rfl (nI_1 i) (by decide) rfl (fun ls hl => ?_)
          refine lv_goto (tgt := 2) hx hb d_M_mark_48 rfl ?_
          have e102 : (jm_m0 u (i + 1)) = (js_up (js_up (js_up (jm_m0 u i) 19 i 0) 20 i (jm_k0 i)) 17 i (jm_k0 i)) := by simp [nI_0, jm_m0]
          refine ih (i + 1) _ _ _ (by omega) ?_ ?_
          ·
            try rw [e102]
            exact hh
          try rw [e102]
          exact lv_sub hl [1, 0] rfl
        have e103 : (jm_k0 i) = 1 := by first | (simp [jm_k0, h36]; done) | (simp [jm_k0, eq_true h36]; done)
        refine W.eq (g2 := F0 m 44 ls [.int (jm_k0 i), .int (nI i), .ref (ad 18)]) (by first | (rw [e103]; done) | (rw [e103]; rfl)) ?_
        refine J44 _ ?_
        exact lv_sub hl [0, 1] rfl
      have e104 : (jm_k0 i) = 1 := by first | (simp [jm_k0, h21]; done) | (simp [jm_k0, eq_true h21]; done)
      refine W.eq (g2 := F0 m 29 ls [.int (jm_k0 i), .int (nI i), .ref (ad 21)]) (by first | (rw [e104]; done) | (rw [e104]; rfl)) ?_
      refine J29 _ ?_
      exact lv_sub hl [0, 1] rfl
  have e105 : nI 0 = 0 := rfl
  have e106 : (jm_m0 u 0) = u := by simp [nI_0, jm_m0]
  refine L2 48 0 _ _ _ (by omega) ?_ ?_
  ·
    try rw [e105]
    try rw [e106]
    exact hh
  try rw [e105]
  try rw [e106]
  exact lv_sub hl [1, 0] rfl
set_option maxHeartbeats 4000000 in
set_option maxRecDepth 100000 in
theorem m_cutOff (l : Launch) (D : va_G) (aK ad : Nat → Nat) (cA : Nat → ClassId) (u : js_S) (hS : jm_Sh u) : jx_M l y_M_cutOff b_M_cutOff 2 none (jr 4) D (jc_tys cA) aK 22 ad (jm_cell ad cA) [.ref (ad 0)] u (fun _ : Unit => none) (fun r u' => r = () ∧ u' = (jm_cutOff u)) := by
  refine jx_enter "JointHistoryModel" (by decide) rfl (by simp [lg_sl, vc_int, vc_ref, vc_long, jv_cat]) ?_
  intro p e s m args below meth c A Q H locs ls hQ hc hh hr hlk hl
  have hx := hc.1
  have hb := hc.2.1
  have hl : lv_has ls 2 [(0, .ref (ad 0))] := by simpa [lv_args, vc_int, vc_ref, vc_long, jv_cat] using hl
  refine lv_iconst (v := 0) hx hb d_M_cutOff_0 (by decide) ?_
  refine lv_istore_n (i := 1) (lv' := [(1, .int 0), (0, .ref (ad 0))]) hx hb d_M_cutOff_1 rfl hl (by decide) rfl (fun ls hl => ?_)
  have L2 : ∀ (n : Nat) (i : Nat) (H : Heap) (locs : List Loc) (ls : Array Slot), i + n = 48 → jx_H D 22 ad (jm_cell ad cA (jm_co u i)) A s.heap H locs → lv_has ls 2 [(0, .ref (ad 0)), (1, .int (nI i))] → W p l e (jr 4) s m args below meth c H locs 0 0 Q (F0 m 2 ls []) := by
    intro n
    induction n with
    | zero =>
      intro i H locs ls hm hh hl
      have hi : i = 48 := by omega
      refine lv_iload_n hx hb d_M_cutOff_2 rfl (lv_at hl 1 rfl) ?_
      refine lv_bipush (v := 48) hx hb d_M_cutOff_3 (by decide) ?_
      refine lv_icmp_ge (tgt := 47) hx hb d_M_cutOff_5 rfl (fun h5 => ?_) (fun hq => absurd (nI_le (show 48 ≤ i by omega) (show i < 2 ^ 31 by omega)) hq)
      refine lv_aload_n hx hb d_M_cutOff_47 rfl (lv_at hl 0 rfl) ?_
      refine jx_callV [] [] hc hh (m_mark l D aK ad cA (jm_co u i) (jm_Sh_co hS i)) wy_M_82 ⟨by decide, rfl, rfl⟩ (by decide) rfl hl.1 rfl (by decide) ⟨Nat.zero_le _, Nat.zero_le _⟩ d_M_cutOff_48 (fun r u9 H locs hp hh _ _ => ?_)
      rw [hp.2] at hh
      refine W.eq (g2 := F0 m 51 ls []) rfl ?_
      exact jx_vret (r := ()) hc hh hQ hlk hr rfl ⟨rfl, by first | (rw [hi]; done) | (rw [hi]; rfl) | (subst hi; simp [jm_cutOff]; done)⟩ d_M_cutOff_51
    | succ n ih =>
      intro i H locs ls hm hh hl
      have hi : i < 48 := by omega
      refine lv_iload_n hx hb d_M_cutOff_2 rfl (lv_at hl 1 rfl) ?_
      refine lv_bipush (v := 48) hx hb d_M_cutOff_3 (by decide) ?_
      refine lv_icmp_ge (tgt := 47) hx hb d_M_cutOff_5 rfl (fun hq => absurd hq (nI_ge hi (by decide))) (fun h5 => ?_)
      refine lv_aload_n hx hb d_M_cutOff_8 rfl (lv_at hl 0 rfl) ?_
      refine jg_M hc hh 9 (by decide) rfl wf_M_38 d_M_cutOff_9 ?_
      refine lv_iload_n hx hb d_M_cutOff_12 rfl (lv_at hl 1 rfl) ?_
      refine lv_aload_n hx hb d_M_cutOff_13 rfl (lv_at hl 0 rfl) ?_
      refine jg_M hc hh 9 (by decide) rfl wf_M_38 d_M_cutOff_14 ?_
      refine lv_iload_n hx hb d_M_cutOff_17 rfl (lv_at hl 1 rfl) ?_
      refine jmi_zld hc hh 9 (by decide) (by decide) hi d_M_cutOff_18 ?_
      refine lv_if_eq (tgt := 39) hx hb d_M_cutOff_19 rfl (fun h19 => ?_) (fun h19 => ?_)
      ·
        refine lv_iconst (v := 0) hx hb d_M_cutOff_39 (by decide) ?_
        have J40 : ∀  (ls : Array Slot), lv_has ls 2 [(0, .ref (ad 0)), (1, .int (nI i))] → W p l e (jr 4) s m args below meth c H locs 0 0 Q (F0 m 40 ls [.int (jm_cb (jm_co u i) i), .int (nI i), .ref (ad 10)]) := by
          intro  ls hl
          refine jmi_zst hc hh 9 (by decide) (by decide) hi jm_cb_z d_M_cutOff_40 (fun H locs hh => ?_)
          refine lv_iinc (k := 1) (v := nI (i + 1)) (lv' := [(1, .int (nI (i + 1))), (0, .ref (ad 0))]) hx hb d_M_cutOff_41 hl rfl (nI_1 i) (by decide) rfl (fun ls hl => ?_)
          refine lv_goto (tgt := 2) hx hb d_M_cutOff_44 rfl ?_
          have e1 : (jm_co u (i + 1)) = (js_up (jm_co u i) 9 i (jm_cb (jm_co u i) i)) := by simp [nI_0, jm_co]
          refine ih (i + 1) _ _ _ (by omega) ?_ ?_
          ·
            try rw [e1]
            exact hh
          try rw [e1]
          exact lv_sub hl [1, 0] rfl
        have e2 : (jm_cb (jm_co u i) i) = 0 := by first | (simp [jm_cb, h19]; done) | (simp [jm_cb, eq_true h19]; done)
        refine W.eq (g2 := F0 m 40 ls [.int (jm_cb (jm_co u i) i), .int (nI i), .ref (ad 10)]) (by first | (rw [e2]; done) | (rw [e2]; rfl)) ?_
        refine J40 _ ?_
        exact lv_sub hl [0, 1] rfl
      refine lv_aload_n hx hb d_M_cutOff_22 rfl (lv_at hl 0 rfl) ?_
      refine jg_M hc hh 5 (by decide) rfl wf_M_26 d_M_cutOff_23 ?_
      refine lv_iload_n hx hb d_M_cutOff_26 rfl (lv_at hl 1 rfl) ?_
      refine jmi_ild hc hh 5 (by decide) (by decide) hi d_M_cutOff_27 ?_
      refine lv_aload_n hx hb d_M_cutOff_28 rfl (lv_at hl 0 rfl) ?_
      refine jg_M hc hh 21 (by decide) rfl wf_M_130 d_M_cutOff_29 ?_
      refine lv_icmp_gt (tgt := 39) hx hb d_M_cutOff_32 rfl (fun h32 => ?_) (fun h32 => ?_)
      ·
        refine lv_iconst (v := 0) hx hb d_M_cutOff_39 (by decide) ?_
        have J40 : ∀  (ls : Array Slot), lv_has ls 2 [(0, .ref (ad 0)), (1, .int (nI i))] → W p l e (jr 4) s m args below meth c H locs 0 0 Q (F0 m 40 ls [.int (jm_cb (jm_co u i) i), .int (nI i), .ref (ad 10)]) := by
          intro  ls hl
          refine jmi_zst hc hh 9 (by decide) (by decide) hi jm_cb_z d_M_cutOff_40 (fun H locs hh => ?_)
          refine lv_iinc (k := 1) (v := nI (i + 1)) (lv' := [(1, .int (nI (i + 1))), (0, .ref (ad 0))]) hx hb d_M_cutOff_41 hl rfl (nI_1 i) (by decide) rfl (fun ls hl => ?_)
          refine lv_goto (tgt := 2) hx hb d_M_cutOff_44 rfl ?_
          have e3 : (jm_co u (i + 1)) = (js_up (jm_co u i) 9 i (jm_cb (jm_co u i) i)) := by simp [nI_0, jm_co]
          refine ih (i + 1) _ _ _ (by omega) ?_ ?_
          ·
            try rw [e3]
            exact hh
          try rw [e3]
          exact lv_sub hl [1, 0] rfl
        have e4 : (jm_cb (jm_co u i) i) = 0 := by simp [jm_cb, h19, h32]
        refine W.eq (g2 := F0 m 40 ls [.int (jm_cb (jm_co u i) i), .int (nI i), .ref (ad 10)]) (by first | (rw [e4]; done) | (rw [e4]; rfl)) ?_
        refine J40 _ ?_
        exact lv_sub hl [0, 1] rfl
      refine lv_iconst (v := 1) hx hb d_M_cutOff_35 (by decide) ?_
      refine lv_goto (tgt := 40) hx hb d_M_cutOff_36 rfl ?_
      have J40 : ∀  (ls : Array Slot), lv_has ls 2 [(0, .ref (ad 0)), (1, .int (nI i))] → W p l e (jr 4) s m args below meth c H locs 0 0 Q (F0 m 40 ls [.int (jm_cb (jm_co u i) i), .int (nI i), .ref (ad 10)]) := by
        intro  ls hl
        refine jmi_zst hc hh 9 (by decide) (by decide) hi jm_cb_z d_M_cutOff_40 (fun H locs hh => ?_)
        refine lv_iinc (k := 1) (v := nI (i + 1)) (lv' := [(1, .int (nI (i + 1))), (0, .ref (ad 0))]) hx hb d_M_cutOff_41 hl rfl (nI_1 i) (by decide) rfl (fun ls hl => ?_)
        refine lv_goto (tgt := 2) hx hb d_M_cutOff_44 rfl ?_
        have e5 : (jm_co u (i + 1)) = (js_up (jm_co u i) 9 i (jm_cb (jm_co u i) i)) := by simp [nI_0, jm_co]
        refine ih (i + 1) _ _ _ (by omega) ?_ ?_
        ·
          try rw [e5]
          exact hh
        try rw [e5]
        exact lv_sub hl [1, 0] rfl
      have e6 : (jm_cb (jm_co u i) i) = 1 := by simp [jm_cb, h19, h32]
      refine W.eq (g2 := F0 m 40 ls [.int (jm_cb (jm_co u i) i), .int (nI i), .ref (ad 10)]) (by first | (rw [e6]; done) | (rw [e6]; rfl)) ?_
      refine J40 _ ?_
      exact lv_sub hl [0, 1] rfl
  have e7 : nI 0 = 0 := rfl
  have e8 : (jm_co u 0) = u := by simp [nI_0, jm_co]
  refine L2 48 0 _ _ _ (by omega) ?_ ?_
  ·
    try rw [e7]
    try rw [e8]
    exact hh
  try rw [e7]
  try rw [e8]
  exact lv_sub hl [1, 0] rfl
set_option maxHeartbeats 4000000 in
set_option maxRecDepth 100000 in
theorem m_settle (l : Launch) (D : va_G) (aK ad : Nat → Nat) (cA : Nat → ClassId) (u : js_S) (hS : jm_Sh u) (hn : ∃ k, k < 2 ^ 31 ∧ u 21 0 = nI k) : jx_M l y_M_settle b_M_settle 1 none (jr 4) D (jc_tys cA) aK 22 ad (jm_cell ad cA) [.ref (ad 0)] u (fun _ : Unit => none) (fun r u' => r = () ∧ u' = (jm_settle u)) := by
  refine jx_enter "JointHistoryModel" (by decide) rfl (by simp [lg_sl, vc_int, vc_ref, vc_long, jv_cat]) ?_
  intro p e s m args below meth c A Q H locs ls hQ hc hh hr hlk hl
  have hx := hc.1
  have hb := hc.2.1
  have hl : lv_has ls 1 [(0, .ref (ad 0))] := by simpa [lv_args, vc_int, vc_ref, vc_long, jv_cat] using hl
  obtain ⟨K, hK, eK⟩ := hn
  have L0 : ∀ (n : Nat) (v : js_S) (H : Heap) (locs : List Loc) (ls : Array Slot), n ≤ K → (jm_Sh v) → (v 21 0 = nI n) → (jm_st v n = jm_st u K) → jx_H D 22 ad (jm_cell ad cA v) A s.heap H locs → lv_has ls 1 [(0, .ref (ad 0))] → W p l e (jr 4) s m args below meth c H locs 0 0 Q (F0 m 0 ls []) := by
    intro n
    induction n with
    | zero =>
      intro v H locs ls hm hSv hvn hs hh hl
      refine lv_aload_n hx hb d_M_settle_0 rfl (lv_at hl 0 rfl) ?_
      refine jg_M hc hh 21 (by decide) rfl wf_M_130 d_M_settle_1 ?_
      refine lv_if_le (tgt := 31) hx hb d_M_settle_4 rfl (fun h4 => ?_) (fun hq => absurd (by rw [hvn]; decide) hq)
      have J31 : ∀ (v : js_S) (H : Heap) (locs : List Loc) (ls : Array Slot), (jm_Sh v) → (v = jm_st u K) → jx_H D 22 ad (jm_cell ad cA v) A s.heap H locs → lv_has ls 1 [(0, .ref (ad 0))] → W p l e (jr 4) s m args below meth c H locs 0 0 Q (F0 m 31 ls []) := by
        intro v H locs ls hSv hv hh hl
        refine lv_aload_n hx hb d_M_settle_31 rfl (lv_at hl 0 rfl) ?_
        refine jx_callV [] [] hc hh (m_mark l D aK ad cA v hSv) wy_M_82 ⟨by decide, rfl, rfl⟩ (by decide) rfl hl.1 rfl (by decide) ⟨Nat.zero_le _, Nat.zero_le _⟩ d_M_settle_32 (fun r u9 H locs hp hh _ _ => ?_)
        rw [hp.2] at hh
        refine W.eq (g2 := F0 m 35 ls []) rfl ?_
        exact jx_vret (r := ()) hc hh hQ hlk hr rfl ⟨rfl, by unfold jm_settle; rw [eK, ix_nI hK, hv]⟩ d_M_settle_35
      refine J31 v _ _ _ hSv (by rw [← hs]; first | rfl | simp [jm_st, h15]) ?_ ?_
      ·
        exact hh
      exact lv_sub hl [0] rfl
    | succ n ih =>
      intro v H locs ls hm hSv hvn hs hh hl
      refine lv_aload_n hx hb d_M_settle_0 rfl (lv_at hl 0 rfl) ?_
      refine jg_M hc hh 21 (by decide) rfl wf_M_130 d_M_settle_1 ?_
      refine lv_if_le (tgt := 31) hx hb d_M_settle_4 rfl (fun hq => absurd hq (by rw [hvn]; exact nI_nle (by omega) (by omega))) (fun h4 => ?_)
      refine lv_aload_n hx hb d_M_settle_7 rfl (lv_at hl 0 rfl) ?_
      refine lv_aload_n hx hb d_M_settle_8 rfl (lv_at hl 0 rfl) ?_
      refine jg_M hc hh 21 (by decide) rfl wf_M_130 d_M_settle_9 ?_
      refine jx_callV [.int (v 21 0)] [] hc hh (m_used l D aK ad cA v (v 21 0)) wy_M_133 ⟨by decide, rfl, rfl⟩ (by decide) rfl hl.1 rfl (by decide) ⟨Nat.zero_le _, Nat.zero_le _⟩ d_M_settle_12 (fun r u9 H locs hp hh _ _ => ?_)
      rw [hp.2] at hh
      refine W.eq (g2 := F0 m 15 ls [.int (jm_used v (v 21 0))]) (by rw [hp.1]; rfl) ?_
      refine lv_if_ne (tgt := 31) hx hb d_M_settle_15 rfl (fun h15 => ?_) (fun h15 => ?_)
      ·
        have J31 : ∀ (v : js_S) (H : Heap) (locs : List Loc) (ls : Array Slot), (jm_Sh v) → (v = jm_st u K) → jx_H D 22 ad (jm_cell ad cA v) A s.heap H locs → lv_has ls 1 [(0, .ref (ad 0))] → W p l e (jr 4) s m args below meth c H locs 0 0 Q (F0 m 31 ls []) := by
          intro v H locs ls hSv hv hh hl
          refine lv_aload_n hx hb d_M_settle_31 rfl (lv_at hl 0 rfl) ?_
          refine jx_callV [] [] hc hh (m_mark l D aK ad cA v hSv) wy_M_82 ⟨by decide, rfl, rfl⟩ (by decide) rfl hl.1 rfl (by decide) ⟨Nat.zero_le _, Nat.zero_le _⟩ d_M_settle_32 (fun r u9 H locs hp hh _ _ => ?_)
          rw [hp.2] at hh
          refine W.eq (g2 := F0 m 35 ls []) rfl ?_
          exact jx_vret (r := ()) hc hh hQ hlk hr rfl ⟨rfl, by unfold jm_settle; rw [eK, ix_nI hK, hv]⟩ d_M_settle_35
        refine J31 v _ _ _ hSv (by rw [← hs]; first | rfl | simp [jm_st, h15]) ?_ ?_
        ·
          exact hh
        exact lv_sub hl [0] rfl
      refine lv_aload_n hx hb d_M_settle_18 rfl (lv_at hl 0 rfl) ?_
      refine lv_dup hx hb d_M_settle_19 rfl ?_
      refine jg_M hc hh 21 (by decide) rfl wf_M_130 d_M_settle_20 ?_
      refine lv_iconst (v := 1) hx hb d_M_settle_23 (by decide) ?_
      refine lv_isub hx hb d_M_settle_24 ?_
      refine jpm_21 hc hh wf_M_130 d_M_settle_25 (fun H locs hh => ?_)
      refine lv_goto (tgt := 0) hx hb d_M_settle_28 rfl ?_
      refine ih (js_up v 21 0 ((v 21 0) - 1)) _ _ _ (by omega) (jm_Sh_21 hSv) (by rw [js_up_s, hvn]; exact nI_pred n) (by rw [← hs]; simp [jm_st, h15]) ?_ ?_
      ·
        exact hh
      exact lv_sub hl [0] rfl
  refine L0 K u _ _ _ (by omega) hS eK rfl ?_ ?_
  ·
    exact hh
  exact lv_sub hl [0] rfl
