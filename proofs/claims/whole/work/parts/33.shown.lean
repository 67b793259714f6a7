set_option maxHeartbeats 4000000 in
set_option maxRecDepth 100000 in
theorem c_shownEntry (l : Launch) (D : va_G) (aK ad : Nat → Nat) (cA : Nat → ClassId) (u : js_S) (n : Int32) (st : Int32) (hS : jc_Sh u) : jx_M l y_J_shownEntry b_J_shownEntry 6 (some (.object "JointHistory$Entry")) (jr 2) D (jc_tys cA) aK 158 ad (jc_cell ad aK cA) [.ref (ad 0), .int n, .int st] u (fun r : Int32 => some (jv ad 118 r)) (fun r u' => r = jc_shownEntry u n st ∧ u' = u) := by
  refine jx_enter "JointHistory" (by decide) rfl (by simp [lg_sl, vc_int, vc_ref, vc_long, jv_cat]) ?_
  intro p e s m args below meth c A Q H locs ls hQ hc hh hr hlk hl
  have hx := hc.1
  have hb := hc.2.1
  have hl : lv_has ls 6 [(0, .ref (ad 0)), (1, .int n), (2, .int st)] := by simpa [lv_args, vc_int, vc_ref, vc_long, jv_cat] using hl
  refine lv_iload_n hx hb d_J_shownEntry_0 rfl (lv_at hl 1 rfl) ?_
  refine lv_if_lt (tgt := 22) hx hb d_J_shownEntry_1 rfl (fun h1 => ?_) (fun h1 => ?_)
  ·
    refine jv_const (ad := ad) (off := 118) hx hb d_J_shownEntry_22 ?_
    exact jx_aret (r := (-1)) hc hh hQ hlk hr (jv_or _ _ _) rfl ⟨by simp [jc_shownEntry, jc_held, jc_up1, h1], rfl⟩ d_J_shownEntry_23
  refine lv_iload_n hx hb d_J_shownEntry_4 rfl (lv_at hl 1 rfl) ?_
  refine lv_bipush (v := 40) hx hb d_J_shownEntry_5 (by decide) ?_
  refine lv_icmp_ge (tgt := 22) hx hb d_J_shownEntry_7 rfl (fun h7 => ?_) (fun h7 => ?_)
  ·
    refine jv_const (ad := ad) (off := 118) hx hb d_J_shownEntry_22 ?_
    exact jx_aret (r := (-1)) hc hh hQ hlk hr (jv_or _ _ _) rfl ⟨by simp [jc_shownEntry, jc_held, jc_up1, h1, h7], rfl⟩ d_J_shownEntry_23
  refine lv_aload_n hx hb d_J_shownEntry_10 rfl (lv_at hl 0 rfl) ?_
  refine jg_J hc hh 1 (by decide) rfl wf_J_17 d_J_shownEntry_11 ?_
  refine lv_iload_n hx hb d_J_shownEntry_14 rfl (lv_at hl 1 rfl) ?_
  refine jax_N hc hh (js_in 40 (by decide) h1 h7) d_J_shownEntry_15 ?_
  refine jgx_N hc hh (js_in 40 (by decide) h1 h7) 1 (by decide) rfl wf_J_43 d_J_shownEntry_16 ?_
  refine lv_if_ne (tgt := 24) hx hb d_J_shownEntry_19 rfl (fun h19 => ?_) (fun h19 => ?_)
  ·
    refine lv_aload_n hx hb d_J_shownEntry_24 rfl (lv_at hl 0 rfl) ?_
    refine jg_J hc hh 1 (by decide) rfl wf_J_17 d_J_shownEntry_25 ?_
    refine lv_iload_n hx hb d_J_shownEntry_28 rfl (lv_at hl 1 rfl) ?_
    refine jax_N hc hh (js_in 40 (by decide) h1 h7) d_J_shownEntry_29 ?_
    refine jgx_N hc hh (js_in 40 (by decide) h1 h7) 3 (by decide) rfl wf_J_208 d_J_shownEntry_30 ?_
    refine jv_astore_n (i := 3) (lv' := [(3, jv ad 78 (u 7 (ix n))), (0, .ref (ad 0)), (1, .int n), (2, .int st)]) hx hb d_J_shownEntry_33 rfl hl (by decide) rfl (fun ls hl => ?_)
    refine lv_iconst (v := 1) hx hb d_J_shownEntry_34 (by decide) ?_
    refine lv_istore (i := 4) (lv' := [(4, .int 1), (3, jv ad 78 (u 7 (ix n))), (0, .ref (ad 0)), (1, .int n), (2, .int st)]) hx hb d_J_shownEntry_35 hl (by decide) (by simp [vc_int, vc_ref, vc_long, jv_cat]) (fun ls hl => ?_)
    refine lv_iload hx hb d_J_shownEntry_37 (lv_at hl 0 rfl) ?_
    refine lv_iconst (v := 3) hx hb d_J_shownEntry_39 (by decide) ?_
    refine lv_icmp_ge (tgt := 88) hx hb d_J_shownEntry_40 rfl (fun hq => absurd hq (by decide)) (fun h40 => ?_)
    refine jv_aload_n hx hb d_J_shownEntry_43 rfl (lv_at hl 1 rfl) ?_
    refine jv_ifnull (tgt := 88) hx hb d_J_shownEntry_44 rfl (fun h44 => ?_) (fun h44 => ?_)
    ·
      refine lv_aload_n hx hb d_J_shownEntry_88 rfl (lv_at hl 2 rfl) ?_
      refine lv_aload_n hx hb d_J_shownEntry_89 rfl (lv_at hl 2 rfl) ?_
      refine jg_J hc hh 1 (by decide) rfl wf_J_17 d_J_shownEntry_90 ?_
      refine lv_iload_n hx hb d_J_shownEntry_93 rfl (lv_at hl 3 rfl) ?_
      refine jax_N hc hh (js_in 40 (by decide) h1 h7) d_J_shownEntry_94 ?_
      refine lv_iload_n hx hb d_J_shownEntry_95 rfl (lv_at hl 4 rfl) ?_
      refine jx_callV [jv ad 38 n, .int st] [] hc hh (c_entryAt l D aK ad cA u n st hS (Or.inr (js_in 40 (by decide) h1 h7))) wy_J_212 ⟨by decide, rfl, rfl⟩ (by decide) rfl hl.1 rfl (by decide) ⟨Nat.zero_le _, Nat.zero_le _⟩ d_J_shownEntry_96 (fun r u9 H locs hp hh _ _ => ?_)
      rw [hp.2] at hh
      refine W.eq (g2 := F0 m 99 ls [jv ad 118 (jc_entryAt u n st)]) (by first | rfl | (rw [hp.1]; rfl)) ?_
      exact jx_aret (r := (jc_entryAt u n st)) hc hh hQ hlk hr (jv_or _ _ _) rfl ⟨by first | (simp [jc_shownEntry, jc_held, jc_up1, h1, h7, h19, h44]; done) | (simp [jc_shownEntry, jc_held, jc_up1, h1, h7, h19, eq_true h44]; done), rfl⟩ d_J_shownEntry_99
    refine lv_aload_n hx hb d_J_shownEntry_47 rfl (lv_at hl 2 rfl) ?_
    refine jv_aload_n hx hb d_J_shownEntry_48 rfl (lv_at hl 1 rfl) ?_
    refine jgx_D hc hh (jq_ne (jc_S7x hS (js_in 40 (by decide) h1 h7)) h44) 1 (by decide) rfl wf_J_211 d_J_shownEntry_49 ?_
    refine lv_iload_n hx hb d_J_shownEntry_52 rfl (lv_at hl 4 rfl) ?_
    refine jx_callV [jv ad 38 (u 9 (ix (u 7 (ix n)))), .int st] [] hc hh (c_entryAt l D aK ad cA u (u 9 (ix (u 7 (ix n)))) st hS (jc_S9x hS (jq_ne (jc_S7x hS (js_in 40 (by decide) h1 h7)) h44))) wy_J_212 ⟨by decide, rfl, rfl⟩ (by decide) rfl hl.1 rfl (by decide) ⟨Nat.zero_le _, Nat.zero_le _⟩ d_J_shownEntry_53 (fun r u9 H locs hp hh _ _ => ?_)
    rw [hp.2] at hh
    refine W.eq (g2 := F0 m 56 ls [jv ad 118 (jc_entryAt u (u 9 (ix (u 7 (ix n)))) st)]) (by first | rfl | (rw [hp.1]; rfl)) ?_
    refine jv_astore (i := 5) (lv' := [(5, jv ad 118 (jc_entryAt u (u 9 (ix (u 7 (ix n)))) st)), (4, .int 1), (3, jv ad 78 (u 7 (ix n))), (0, .ref (ad 0)), (1, .int n), (2, .int st)]) hx hb d_J_shownEntry_56 hl (by decide) rfl (fun ls hl => ?_)
    refine jv_aload hx hb d_J_shownEntry_58 (lv_at hl 0 rfl) ?_
    refine jv_ifnull (tgt := 72) hx hb d_J_shownEntry_60 rfl (fun h60 => ?_) (fun h60 => ?_)
    ·
      refine jv_const (ad := ad) (off := 118) hx hb d_J_shownEntry_72 ?_
      exact jx_aret (r := (-1)) hc hh hQ hlk hr (jv_or _ _ _) rfl ⟨by first | (simp [jc_shownEntry, jc_held, jc_up1, h1, h7, h19, h44, h60]; done) | (simp [jc_shownEntry, jc_held, jc_up1, h1, h7, h19, h44, eq_true h60]; done), rfl⟩ d_J_shownEntry_73
    refine jv_aload hx hb d_J_shownEntry_63 (lv_at hl 0 rfl) ?_
    refine jgx_E hc hh (jq_ne (jc_eA_jq 40 (Nat.le_refl _)) h60) 5 (by decide) rfl wf_J_120 d_J_shownEntry_65 ?_
    refine jv_aload_n hx hb d_J_shownEntry_68 rfl (lv_at hl 2 rfl) ?_
    refine jv_acmp_eq (tgt := 74) (n := 40) hx hb (by decide) (jd_inj hh (by decide)) (jc_S19x hS (jq_ne (jc_eA_jq 40 (Nat.le_refl _)) h60)) (jc_S7x hS (js_in 40 (by decide) h1 h7)) d_J_shownEntry_69 rfl (fun h69 => ?_) (fun h69 => ?_)
    ·
      refine jv_aload_n hx hb d_J_shownEntry_74 rfl (lv_at hl 2 rfl) ?_
      refine jgx_D hc hh (jq_ne (jc_S7x hS (js_in 40 (by decide) h1 h7)) h44) 1 (by decide) rfl wf_J_211 d_J_shownEntry_75 ?_
      refine jgx_N hc hh (jc_Sax hS (js_in 40 (by decide) h1 h7) h44) 3 (by decide) rfl wf_J_208 d_J_shownEntry_78 ?_
      refine jv_astore_n (i := 3) (lv' := [(3, jv ad 78 (u 7 (ix (u 9 (ix (u 7 (ix n))))))), (5, jv ad 118 (jc_entryAt u (u 9 (ix (u 7 (ix n)))) st)), (4, .int 1), (0, .ref (ad 0)), (1, .int n), (2, .int st)]) hx hb d_J_shownEntry_81 rfl hl (by decide) rfl (fun ls hl => ?_)
      refine lv_iinc (k := 2) (v := 2) (lv' := [(4, .int 2), (3, jv ad 78 (u 7 (ix (u 9 (ix (u 7 (ix n))))))), (5, jv ad 118 (jc_entryAt u (u 9 (ix (u 7 (ix n)))) st)), (0, .ref (ad 0)), (1, .int n), (2, .int st)]) hx hb d_J_shownEntry_82 hl rfl (by decide) (by decide) (by simp [vc_int, vc_ref, vc_long, jv_cat]) (fun ls hl => ?_)
      refine lv_goto (tgt := 37) hx hb d_J_shownEntry_85 rfl ?_
      refine lv_iload hx hb d_J_shownEntry_37 (lv_at hl 0 rfl) ?_
      refine lv_iconst (v := 3) hx hb d_J_shownEntry_39 (by decide) ?_
      refine lv_icmp_ge (tgt := 88) hx hb d_J_shownEntry_40 rfl (fun hq => absurd hq (by decide)) (fun h40 => ?_)
      refine jv_aload_n hx hb d_J_shownEntry_43 rfl (lv_at hl 1 rfl) ?_
      refine jv_ifnull (tgt := 88) hx hb d_J_shownEntry_44 rfl (fun h44b => ?_) (fun h44b => ?_)
      ·
        refine lv_aload_n hx hb d_J_shownEntry_88 rfl (lv_at hl 3 rfl) ?_
        refine lv_aload_n hx hb d_J_shownEntry_89 rfl (lv_at hl 3 rfl) ?_
        refine jg_J hc hh 1 (by decide) rfl wf_J_17 d_J_shownEntry_90 ?_
        refine lv_iload_n hx hb d_J_shownEntry_93 rfl (lv_at hl 4 rfl) ?_
        refine jax_N hc hh (js_in 40 (by decide) h1 h7) d_J_shownEntry_94 ?_
        refine lv_iload_n hx hb d_J_shownEntry_95 rfl (lv_at hl 5 rfl) ?_
        refine jx_callV [jv ad 38 n, .int st] [] hc hh (c_entryAt l D aK ad cA u n st hS (Or.inr (js_in 40 (by decide) h1 h7))) wy_J_212 ⟨by decide, rfl, rfl⟩ (by decide) rfl hl.1 rfl (by decide) ⟨Nat.zero_le _, Nat.zero_le _⟩ d_J_shownEntry_96 (fun r u9 H locs hp hh _ _ => ?_)
        rw [hp.2] at hh
        refine W.eq (g2 := F0 m 99 ls [jv ad 118 (jc_entryAt u n st)]) (by first | rfl | (rw [hp.1]; rfl)) ?_
        exact jx_aret (r := (jc_entryAt u n st)) hc hh hQ hlk hr (jv_or _ _ _) rfl ⟨by first | (simp [jc_shownEntry, jc_held, jc_up1, h1, h7, h19, h44, h60, h69, h44b]; done) | (simp [jc_shownEntry, jc_held, jc_up1, h1, h7, h19, h44, h60, eq_true h69, eq_true h44b]; done), rfl⟩ d_J_shownEntry_99
      refine lv_aload_n hx hb d_J_shownEntry_47 rfl (lv_at hl 3 rfl) ?_
      refine jv_aload_n hx hb d_J_shownEntry_48 rfl (lv_at hl 1 rfl) ?_
      refine jgx_D hc hh (jq_ne (jc_S7x hS (jc_Sax hS (js_in 40 (by decide) h1 h7) h44)) h44b) 1 (by decide) rfl wf_J_211 d_J_shownEntry_49 ?_
      refine lv_iload_n hx hb d_J_shownEntry_52 rfl (lv_at hl 5 rfl) ?_
      refine jx_callV [jv ad 38 (u 9 (ix (u 7 (ix (u 9 (ix (u 7 (ix n)))))))), .int st] [] hc hh (c_entryAt l D aK ad cA u (u 9 (ix (u 7 (ix (u 9 (ix (u 7 (ix n)))))))) st hS (jc_S9x hS (jq_ne (jc_S7x hS (jc_Sax hS (js_in 40 (by decide) h1 h7) h44)) h44b))) wy_J_212 ⟨by decide, rfl, rfl⟩ (by decide) rfl hl.1 rfl (by decide) ⟨Nat.zero_le _, Nat.zero_le _⟩ d_J_shownEntry_53 (fun r u9 H locs hp hh _ _ => ?_)
      rw [hp.2] at hh
      refine W.eq (g2 := F0 m 56 ls [jv ad 118 (jc_entryAt u (u 9 (ix (u 7 (ix (u 9 (ix (u 7 (ix n)))))))) st)]) (by first | rfl | (rw [hp.1]; rfl)) ?_
      refine jv_astore (i := 5) (lv' := [(5, jv ad 118 (jc_entryAt u (u 9 (ix (u 7 (ix (u 9 (ix (u 7 (ix n)))))))) st)), (4, .int 2), (3, jv ad 78 (u 7 (ix (u 9 (ix (u 7 (ix n))))))), (0, .ref (ad 0)), (1, .int n), (2, .int st)]) hx hb d_J_shownEntry_56 hl (by decide) rfl (fun ls hl => ?_)
      refine jv_aload hx hb d_J_shownEntry_58 (lv_at hl 0 rfl) ?_
      refine jv_ifnull (tgt := 72) hx hb d_J_shownEntry_60 rfl (fun h60b => ?_) (fun h60b => ?_)
      ·
        refine jv_const (ad := ad) (off := 118) hx hb d_J_shownEntry_72 ?_
        exact jx_aret (r := (-1)) hc hh hQ hlk hr (jv_or _ _ _) rfl ⟨by first | (simp [jc_shownEntry, jc_held, jc_up1, h1, h7, h19, h44, h60, h69, h44b, h60b]; done) | (simp [jc_shownEntry, jc_held, jc_up1, h1, h7, h19, h44, h60, eq_true h69, h44b, eq_true h60b]; done), rfl⟩ d_J_shownEntry_73
      refine jv_aload hx hb d_J_shownEntry_63 (lv_at hl 0 rfl) ?_
      refine jgx_E hc hh (jq_ne (jc_eA_jq 40 (Nat.le_refl _)) h60b) 5 (by decide) rfl wf_J_120 d_J_shownEntry_65 ?_
      refine jv_aload_n hx hb d_J_shownEntry_68 rfl (lv_at hl 2 rfl) ?_
      refine jv_acmp_eq (tgt := 74) (n := 40) hx hb (by decide) (jd_inj hh (by decide)) (jc_S19x hS (jq_ne (jc_eA_jq 40 (Nat.le_refl _)) h60b)) (jc_S7x hS (jc_Sax hS (js_in 40 (by decide) h1 h7) h44)) d_J_shownEntry_69 rfl (fun h69b => ?_) (fun h69b => ?_)
      ·
        refine jv_aload_n hx hb d_J_shownEntry_74 rfl (lv_at hl 2 rfl) ?_
        refine jgx_D hc hh (jq_ne (jc_S7x hS (jc_Sax hS (js_in 40 (by decide) h1 h7) h44)) h44b) 1 (by decide) rfl wf_J_211 d_J_shownEntry_75 ?_
        refine jgx_N hc hh (jc_Sax hS (jc_Sax hS (js_in 40 (by decide) h1 h7) h44) h44b) 3 (by decide) rfl wf_J_208 d_J_shownEntry_78 ?_
        refine jv_astore_n (i := 3) (lv' := [(3, jv ad 78 (u 7 (ix (u 9 (ix (u 7 (ix (u 9 (ix (u 7 (ix n))))))))))), (5, jv ad 118 (jc_entryAt u (u 9 (ix (u 7 (ix (u 9 (ix (u 7 (ix n)))))))) st)), (4, .int 2), (0, .ref (ad 0)), (1, .int n), (2, .int st)]) hx hb d_J_shownEntry_81 rfl hl (by decide) rfl (fun ls hl => ?_)
        refine lv_iinc (k := 2) (v := 3) (lv' := [(4, .int 3), (3, jv ad 78 (u 7 (ix (u 9 (ix (u 7 (ix (u 9 (ix (u 7 (ix n))))))))))), (5, jv ad 118 (jc_entryAt u (u 9 (ix (u 7 (ix (u 9 (ix (u 7 (ix n)))))))) st)), (0, .ref (ad 0)), (1, .int n), (2, .int st)]) hx hb d_J_shownEntry_82 hl rfl (by decide) (by decide) (by simp [vc_int, vc_ref, vc_long, jv_cat]) (fun ls hl => ?_)
        refine lv_goto (tgt := 37) hx hb d_J_shownEntry_85 rfl ?_
        refine lv_iload hx hb d_J_shownEntry_37 (lv_at hl 0 rfl) ?_
        refine lv_iconst (v := 3) hx hb d_J_shownEntry_39 (by decide) ?_
        refine lv_icmp_ge (tgt := 88) hx hb d_J_shownEntry_40 rfl (fun h40 => ?_) (fun hq => absurd (by decide) hq)
        refine lv_aload_n hx hb d_J_shownEntry_88 rfl (lv_at hl 3 rfl) ?_
        refine lv_aload_n hx hb d_J_shownEntry_89 rfl (lv_at hl 3 rfl) ?_
        refine jg_J hc hh 1 (by decide) rfl wf_J_17 d_J_shownEntry_90 ?_
        refine lv_iload_n hx hb d_J_shownEntry_93 rfl (lv_at hl 4 rfl) ?_
        refine jax_N hc hh (js_in 40 (by decide) h1 h7) d_J_shownEntry_94 ?_
        refine lv_iload_n hx hb d_J_shownEntry_95 rfl (lv_at hl 5 rfl) ?_
        refine jx_callV [jv ad 38 n, .int st] [] hc hh (c_entryAt l D aK ad cA u n st hS (Or.inr (js_in 40 (by decide) h1 h7))) wy_J_212 ⟨by decide, rfl, rfl⟩ (by decide) rfl hl.1 rfl (by decide) ⟨Nat.zero_le _, Nat.zero_le _⟩ d_J_shownEntry_96 (fun r u9 H locs hp hh _ _ => ?_)
        rw [hp.2] at hh
        refine W.eq (g2 := F0 m 99 ls [jv ad 118 (jc_entryAt u n st)]) (by first | rfl | (rw [hp.1]; rfl)) ?_
        exact jx_aret (r := (jc_entryAt u n st)) hc hh hQ hlk hr (jv_or _ _ _) rfl ⟨by first | (simp [jc_shownEntry, jc_held, jc_up1, h1, h7, h19, h44, h60, h69, h44b, h60b, h69b]; done) | (simp [jc_shownEntry, jc_held, jc_up1, h1, h7, h19, h44, h60, eq_true h69, h44b, h60b, eq_true h69b]; done), rfl⟩ d_J_shownEntry_99
      refine jv_const (ad := ad) (off := 118) hx hb d_J_shownEntry_72 ?_
      exact jx_aret (r := (-1)) hc hh hQ hlk hr (jv_or _ _ _) rfl ⟨by first | (simp [jc_shownEntry, jc_held, jc_up1, h1, h7, h19, h44, h60, h69, h44b, h60b, h69b]; done) | (simp [jc_shownEntry, jc_held, jc_up1, h1, h7, h19, h44, h60, eq_true h69, h44b, h60b, h69b]; done), rfl⟩ d_J_shownEntry_73
    refine jv_const (ad := ad) (off := 118) hx hb d_J_shownEntry_72 ?_
    exact jx_aret (r := (-1)) hc hh hQ hlk hr (jv_or _ _ _) rfl ⟨by simp [jc_shownEntry, jc_held, jc_up1, h1, h7, h19, h44, h60, h69], rfl⟩ d_J_shownEntry_73
  refine jv_const (ad := ad) (off := 118) hx hb d_J_shownEntry_22 ?_
  exact jx_aret (r := (-1)) hc hh hQ hlk hr (jv_or _ _ _) rfl ⟨by first | (simp [jc_shownEntry, jc_held, jc_up1, h1, h7, h19]; done) | (simp [jc_shownEntry, jc_held, jc_up1, h1, h7, eq_true h19]; done), rfl⟩ d_J_shownEntry_23
set_option maxHeartbeats 4000000 in
set_option maxRecDepth 100000 in
theorem c_shownNavigables (l : Launch) (D : va_G) (aK ad : Nat → Nat) (cA : Nat → ClassId) (u : js_S) (hS : jc_Sh u) : jx_M l y_J_shownNavigables b_J_shownNavigables 3 (some .int) (jr 3) D (jc_tys cA) aK 158 ad (jc_cell ad aK cA) [.ref (ad 0)] u (fun r : Int32 => some (.int r)) (fun r u' => r = nI (jc_cntS u (u 21 0) 40) ∧ u' = u) := by
  refine jx_enter "JointHistory" (by decide) rfl (by simp [lg_sl, vc_int, vc_ref, vc_long, jv_cat]) ?_
  intro p e s m args below meth c A Q H locs ls hQ hc hh hr hlk hl
  have hx := hc.1
  have hb := hc.2.1
  have hl : lv_has ls 3 [(0, .ref (ad 0))] := by simpa [lv_args, vc_int, vc_ref, vc_long, jv_cat] using hl
  refine lv_iconst (v := 0) hx hb d_J_shownNavigables_0 (by decide) ?_
  refine lv_istore_n (i := 1) (lv' := [(1, .int 0), (0, .ref (ad 0))]) hx hb d_J_shownNavigables_1 rfl hl (by decide) rfl (fun ls hl => ?_)
  refine lv_iconst (v := 0) hx hb d_J_shownNavigables_2 (by decide) ?_
  refine lv_istore_n (i := 2) (lv' := [(2, .int 0), (1, .int 0), (0, .ref (ad 0))]) hx hb d_J_shownNavigables_3 rfl hl (by decide) rfl (fun ls hl => ?_)
  have L4 : ∀ (n : Nat) (i : Nat) (H : Heap) (locs : List Loc) (ls : Array Slot), i + n = 40 → jx_H D 158 ad (jc_cell ad aK cA u) A s.heap H locs → lv_has ls 3 [(0, .ref (ad 0)), (1, .int (nI (jc_cntS u (u 21 0) i))), (2, .int (nI i))] → W p l e (jr 3) s m args below meth c H locs 0 0 Q (F0 m 4 ls []) := by
    intro n
    induction n with
    | zero =>
      intro i H locs ls hm hh hl
      have hi : i = 40 := by omega
      refine lv_iload_n hx hb d_J_shownNavigables_4 rfl (lv_at hl 2 rfl) ?_
      refine lv_bipush (v := 40) hx hb d_J_shownNavigables_5 (by decide) ?_
      refine lv_icmp_ge (tgt := 31) hx hb d_J_shownNavigables_7 rfl (fun h7 => ?_) (fun hq => absurd (nI_le (show 40 ≤ i by omega) (show i < 2 ^ 31 by omega)) hq)
      refine lv_iload_n hx hb d_J_shownNavigables_31 rfl (lv_at hl 1 rfl) ?_
      exact jx_iret (r := nI (jc_cntS u (u 21 0) i)) hc hh hQ hlk hr rfl rfl ⟨by first | (rw [hi]; done) | (rw [hi]; rfl) | (rw [hi]; simp []; done), rfl⟩ d_J_shownNavigables_32
    | succ n ih =>
      intro i H locs ls hm hh hl
      have hi : i < 40 := by omega
      refine lv_iload_n hx hb d_J_shownNavigables_4 rfl (lv_at hl 2 rfl) ?_
      refine lv_bipush (v := 40) hx hb d_J_shownNavigables_5 (by decide) ?_
      refine lv_icmp_ge (tgt := 31) hx hb d_J_shownNavigables_7 rfl (fun hq => absurd hq (nI_ge hi (by decide))) (fun h7 => ?_)
      refine lv_aload_n hx hb d_J_shownNavigables_10 rfl (lv_at hl 0 rfl) ?_
      refine lv_iload_n hx hb d_J_shownNavigables_11 rfl (lv_at hl 2 rfl) ?_
      refine lv_aload_n hx hb d_J_shownNavigables_12 rfl (lv_at hl 0 rfl) ?_
      refine jg_J hc hh 5 (by decide) rfl wf_J_96 d_J_shownNavigables_13 ?_
      refine jx_callV [.int (nI i), .int (u 21 0)] [] hc hh (c_shownEntry l D aK ad cA u (nI i) (u 21 0) hS) wy_J_99 ⟨by decide, rfl, rfl⟩ (by decide) rfl hl.1 rfl (by decide) ⟨Nat.zero_le _, Nat.zero_le _⟩ d_J_shownNavigables_16 (fun r u9 H locs hp hh _ _ => ?_)
      rw [hp.2] at hh
      refine W.eq (g2 := F0 m 19 ls [jv ad 118 (jc_shownEntry u (nI i) (u 21 0))]) (by first | rfl | (rw [hp.1]; rfl)) ?_
      refine jv_ifnull (tgt := 25) hx hb d_J_shownNavigables_19 rfl (fun h19 => ?_) (fun h19 => ?_)
      ·
        refine lv_iinc (k := 2) (v := nI (i + 1)) (lv' := [(2, .int (nI (i + 1))), (0, .ref (ad 0)), (1, .int (nI (jc_cntS u (u 21 0) i)))]) hx hb d_J_shownNavigables_25 hl rfl (nI_1 i) (by decide) rfl (fun ls hl => ?_)
        refine lv_goto (tgt := 4) hx hb d_J_shownNavigables_28 rfl ?_
        have e1 : nI (jc_cntS u (u 21 0) (i + 1)) = nI (jc_cntS u (u 21 0) i) := by first | (simp [nI_0, jc_cntS, h19]; done) | (simp [nI_0, jc_cntS, eq_true h19]; done)
        refine ih (i + 1) _ _ _ (by omega) ?_ ?_
        ·
          try rw [e1]
          exact hh
        try rw [e1]
        exact lv_sub hl [1, 2, 0] rfl
      refine lv_iinc (k := 1) (v := nI ((jc_cntS u (u 21 0) i) + 1)) (lv' := [(1, .int (nI ((jc_cntS u (u 21 0) i) + 1))), (0, .ref (ad 0)), (2, .int (nI i))]) hx hb d_J_shownNavigables_22 hl rfl (nI_1 (jc_cntS u (u 21 0) i)) (by decide) rfl (fun ls hl => ?_)
      refine lv_iinc (k := 2) (v := nI (i + 1)) (lv' := [(2, .int (nI (i + 1))), (1, .int (nI ((jc_cntS u (u 21 0) i) + 1))), (0, .ref (ad 0))]) hx hb d_J_shownNavigables_25 hl rfl (nI_1 i) (by decide) rfl (fun ls hl => ?_)
      refine lv_goto (tgt := 4) hx hb d_J_shownNavigables_28 rfl ?_
      have e2 : nI (jc_cntS u (u 21 0) (i + 1)) = nI ((jc_cntS u (u 21 0) i) + 1) := by simp [nI_0, jc_cntS, h19]
      refine ih (i + 1) _ _ _ (by omega) ?_ ?_
      ·
        try rw [e2]
        exact hh
      try rw [e2]
      exact lv_sub hl [2, 1, 0] rfl
  have e3 : nI (jc_cntS u (u 21 0) 0) = 0 := by simp [nI_0, jc_cntS]
  have e4 : nI 0 = 0 := rfl
  refine L4 40 0 _ _ _ (by omega) ?_ ?_
  ·
    try rw [e3]
    try rw [e4]
    exact hh
  try rw [e3]
  try rw [e4]
  exact lv_sub hl [2, 1, 0] rfl
set_option maxHeartbeats 4000000 in
set_option maxRecDepth 100000 in
theorem c_isDetour (l : Launch) (D : va_G) (aK ad : Nat → Nat) (cA : Nat → ClassId) (u : js_S) (x : Int32) (hS : jc_Sh u) (hu : jq 256 x) : jx_M l y_J_isDetour b_J_isDetour 2 (some .boolean) (jr 2) D (jc_tys cA) aK 158 ad (jc_cell ad aK cA) [.ref (ad 0), .int x] u (fun r : Int32 => some (.int r)) (fun r u' => r = jc_isDet u x ∧ u' = u) := by
  refine jx_enter "JointHistory" (by decide) rfl (by simp [lg_sl, vc_int, vc_ref, vc_long, jv_cat]) ?_
  intro p e s m args below meth c A Q H locs ls hQ hc hh hr hlk hl
  have hx := hc.1
  have hb := hc.2.1
  have hl : lv_has ls 2 [(0, .ref (ad 0)), (1, .int x)] := by simpa [lv_args, vc_int, vc_ref, vc_long, jv_cat] using hl
  refine lv_iload_n hx hb d_J_isDetour_0 rfl (lv_at hl 1 rfl) ?_
  refine lv_iconst (v := -1) hx hb d_J_isDetour_1 (by decide) ?_
  refine lv_icmp_eq (tgt := 27) hx hb d_J_isDetour_2 rfl (fun h2 => ?_) (fun h2 => ?_)
  ·
    refine lv_iconst (v := 0) hx hb d_J_isDetour_27 (by decide) ?_
    exact jx_iret (r := 0) hc hh hQ hlk hr (by decide) rfl ⟨by first | (simp [jc_isDet, h2]; done) | (simp [jc_isDet, eq_true h2]; done), rfl⟩ d_J_isDetour_28
  refine lv_aload_n hx hb d_J_isDetour_5 rfl (lv_at hl 0 rfl) ?_
  refine jg_J hc hh 0 (by decide) rfl wf_J_11 d_J_isDetour_6 ?_
  refine lv_iload_n hx hb d_J_isDetour_9 rfl (lv_at hl 1 rfl) ?_
  refine jx_callS [.int x] [.ref (ad 1)] hc hh (c_pageOf l D aK ad cA u x) wy_J_202 (by decide) rfl hl.1 rfl (by simp [vc_int, vc_ref, vc_long, jv_cat]) ⟨Nat.zero_le _, Nat.zero_le _⟩ d_J_isDetour_10 (fun r u9 H locs hp hh _ _ => ?_)
  rw [hp.2] at hh
  refine W.eq (g2 := F0 m 13 ls [.int (x / 8), .ref (ad 1)]) (by first | rfl | (rw [hp.1]; rfl)) ?_
  refine jax_A hc hh (js_pg hu h2) d_J_isDetour_13 ?_
  refine jgx_A hc hh (js_pg hu h2) 0 (by decide) rfl wf_J_68 d_J_isDetour_14 ?_
  refine jk_get (j := 1) hc hh (by decide) wf_J_84 d_J_isDetour_17 ?_
  refine jv_acmp_ne (tgt := 27) (n := 3) hx hb (by decide) (jk_inj hc) (jc_Skx hS (js_pg hu h2)) (jq_nI (by decide)) d_J_isDetour_20 rfl (fun h20 => ?_) (fun h20 => ?_)
  ·
    refine lv_iconst (v := 0) hx hb d_J_isDetour_27 (by decide) ?_
    exact jx_iret (r := 0) hc hh hQ hlk hr (by decide) rfl ⟨by simp [jc_isDet, h2, h20], rfl⟩ d_J_isDetour_28
  refine lv_iconst (v := 1) hx hb d_J_isDetour_23 (by decide) ?_
  refine lv_goto (tgt := 28) hx hb d_J_isDetour_24 rfl ?_
  exact jx_iret (r := 1) hc hh hQ hlk hr (by decide) rfl ⟨by first | (simp [jc_isDet, h2, h20]; done) | (simp [jc_isDet, h2, eq_true h20]; done), rfl⟩ d_J_isDetour_28
set_option maxHeartbeats 4000000 in
set_option maxRecDepth 100000 in
theorem c_followDetours (l : Launch) (D : va_G) (aK ad : Nat → Nat) (cA : Nat → ClassId) (u : js_S) (x : Int32) (hS : jc_Sh u) (hu : jq 256 x) : jx_M l y_J_followDetours b_J_followDetours 5 (some .int) (jr 3) D (jc_tys cA) aK 158 ad (jc_cell ad aK cA) [.ref (ad 0), .int x] u (fun r : Int32 => some (.int r)) (fun r u' => r = jc_fd u 4 x ∧ u' = u) := by
  refine jx_enter "JointHistory" (by decide) rfl (by simp [lg_sl, vc_int, vc_ref, vc_long, jv_cat]) ?_
  intro p e s m args below meth c A Q H locs ls hQ hc hh hr hlk hl
  have hx := hc.1
  have hb := hc.2.1
  have hl : lv_has ls 5 [(0, .ref (ad 0)), (1, .int x)] := by simpa [lv_args, vc_int, vc_ref, vc_long, jv_cat] using hl
  refine lv_iload_n hx hb d_J_followDetours_0 rfl (lv_at hl 1 rfl) ?_
  refine lv_istore_n (i := 2) (lv' := [(2, .int x), (0, .ref (ad 0)), (1, .int x)]) hx hb d_J_followDetours_1 rfl hl (by decide) rfl (fun ls hl => ?_)
  refine lv_iconst (v := 0) hx hb d_J_followDetours_2 (by decide) ?_
  refine lv_istore_n (i := 3) (lv' := [(3, .int 0), (2, .int x), (0, .ref (ad 0)), (1, .int x)]) hx hb d_J_followDetours_3 rfl hl (by decide) rfl (fun ls hl => ?_)
  have L4 : ∀ (n : Nat) (i : Nat) (led : Int32) (H : Heap) (locs : List Loc) (ls : Array Slot), i + n = 4 → (jq 256 led) → (jc_fd u n led = jc_fd u 4 x) → jx_H D 158 ad (jc_cell ad aK cA u) A s.heap H locs → lv_has ls 5 [(0, .ref (ad 0)), (1, .int x), (2, .int led), (3, .int (nI i))] → W p l e (jr 3) s m args below meth c H locs 0 0 Q (F0 m 4 ls []) := by
    intro n
    induction n with
    | zero =>
      intro i led H locs ls hm hq hf hh hl
      refine lv_iload_n hx hb d_J_followDetours_4 rfl (lv_at hl 3 rfl) ?_
      refine lv_iconst (v := 4) hx hb d_J_followDetours_5 (by decide) ?_
      refine lv_icmp_ge (tgt := 58) hx hb d_J_followDetours_6 rfl (fun h6 => ?_) (fun hq => absurd (nI_le (show 4 ≤ i by omega) (show i < 2 ^ 31 by omega)) hq)
      refine lv_iload_n hx hb d_J_followDetours_58 rfl (lv_at hl 2 rfl) ?_
      exact jx_iret (r := led) hc hh hQ hlk hr rfl rfl ⟨by rw [← hf]; first | rfl | simp [jc_fd, h14], rfl⟩ d_J_followDetours_59
    | succ n ih =>
      intro i led H locs ls hm hq hf hh hl
      have hi9 : i < 4 := by omega
      refine lv_iload_n hx hb d_J_followDetours_4 rfl (lv_at hl 3 rfl) ?_
      refine lv_iconst (v := 4) hx hb d_J_followDetours_5 (by decide) ?_
      refine lv_icmp_ge (tgt := 58) hx hb d_J_followDetours_6 rfl (fun hq => absurd hq (nI_ge hi9 (by decide))) (fun h6 => ?_)
      refine lv_aload_n hx hb d_J_followDetours_9 rfl (lv_at hl 0 rfl) ?_
      refine lv_iload_n hx hb d_J_followDetours_10 rfl (lv_at hl 2 rfl) ?_
      refine jx_callV [.int led] [] hc hh (c_isDetour l D aK ad cA u led hS hq) wy_J_216 ⟨by decide, rfl, rfl⟩ (by decide) rfl hl.1 rfl (by decide) ⟨Nat.zero_le _, Nat.zero_le _⟩ d_J_followDetours_11 (fun r u9 H locs hp hh _ _ => ?_)
      rw [hp.2] at hh
      refine W.eq (g2 := F0 m 14 ls [.int (jc_isDet u led)]) (by first | rfl | (rw [hp.1]; rfl)) ?_
      refine lv_if_eq (tgt := 58) hx hb d_J_followDetours_14 rfl (fun h14 => ?_) (fun h14 => ?_)
      ·
        refine lv_iload_n hx hb d_J_followDetours_58 rfl (lv_at hl 2 rfl) ?_
        exact jx_iret (r := led) hc hh hQ hlk hr rfl rfl ⟨by rw [← hf]; first | rfl | simp [jc_fd, h14], rfl⟩ d_J_followDetours_59
      refine lv_aload_n hx hb d_J_followDetours_17 rfl (lv_at hl 0 rfl) ?_
      refine jg_J hc hh 0 (by decide) rfl wf_J_11 d_J_followDetours_18 ?_
      refine lv_iload_n hx hb d_J_followDetours_21 rfl (lv_at hl 2 rfl) ?_
      refine jx_callS [.int led] [.ref (ad 1)] hc hh (c_pageOf l D aK ad cA u led) wy_J_202 (by decide) rfl hl.1 rfl (by simp [vc_int, vc_ref, vc_long, jv_cat]) ⟨Nat.zero_le _, Nat.zero_le _⟩ d_J_followDetours_22 (fun r u9 H locs hp hh _ _ => ?_)
      rw [hp.2] at hh
      refine W.eq (g2 := F0 m 25 ls [.int (led / 8), .ref (ad 1)]) (by first | rfl | (rw [hp.1]; rfl)) ?_
      refine jax_A hc hh (js_pg hq (jc_isDet_ne h14)) d_J_followDetours_25 ?_
      refine jgx_A hc hh (js_pg hq (jc_isDet_ne h14)) 4 (by decide) rfl wf_J_87 d_J_followDetours_26 ?_
      refine lv_istore (i := 4) (lv' := [(4, .int (u 4 (ix (led / 8)))), (0, .ref (ad 0)), (1, .int x), (2, .int led), (3, .int (nI i))]) hx hb d_J_followDetours_29 hl (by decide) rfl (fun ls hl => ?_)
      refine lv_iload hx hb d_J_followDetours_31 (lv_at hl 0 rfl) ?_
      refine jx_callS [.int (u 4 (ix (led / 8)))] [] hc hh (c_fragmentOf l D aK ad cA u (u 4 (ix (led / 8)))) wy_J_199 (by decide) rfl hl.1 rfl (by decide) ⟨Nat.zero_le _, Nat.zero_le _⟩ d_J_followDetours_33 (fun r u9 H locs hp hh _ _ => ?_)
      rw [hp.2] at hh
      refine W.eq (g2 := F0 m 36 ls [.int (jc_frag (u 4 (ix (led / 8))))]) (by first | rfl | (rw [hp.1]; rfl)) ?_
      refine lv_if_ne (tgt := 49) hx hb d_J_followDetours_36 rfl (fun h36 => ?_) (fun h36 => ?_)
      ·
        refine lv_iload hx hb d_J_followDetours_49 (lv_at hl 0 rfl) ?_
        refine lv_istore_n (i := 2) (lv' := [(2, .int (u 4 (ix (led / 8)))), (4, .int (u 4 (ix (led / 8)))), (0, .ref (ad 0)), (1, .int x), (3, .int (nI i))]) hx hb d_J_followDetours_51 rfl hl (by decide) rfl (fun ls hl => ?_)
        refine lv_iinc (k := 4) (v := nI (i + 1)) (lv' := [(3, .int (nI (i + 1))), (2, .int (u 4 (ix (led / 8)))), (4, .int (u 4 (ix (led / 8)))), (0, .ref (ad 0)), (1, .int x)]) hx hb d_J_followDetours_52 hl rfl (nI_1 i) (by decide) rfl (fun ls hl => ?_)
        refine lv_goto (tgt := 4) hx hb d_J_followDetours_55 rfl ?_
        refine ih (i + 1) (u 4 (ix (led / 8))) _ _ _ (by omega) (by have q9 := jc_led hS hq h14; simpa [h36] using q9) (by rw [← hf]; simp [jc_fd, h14, h36]) ?_ ?_
        ·
          exact hh
        exact lv_sub hl [3, 4, 1, 0] rfl
      refine lv_iload hx hb d_J_followDetours_39 (lv_at hl 0 rfl) ?_
      refine lv_iload_n hx hb d_J_followDetours_41 rfl (lv_at hl 3 rfl) ?_
      refine jx_callS [.int led] [.int (u 4 (ix (led / 8)))] hc hh (c_fragmentOf l D aK ad cA u led) wy_J_199 (by decide) rfl hl.1 rfl (by simp [vc_int, vc_ref, vc_long, jv_cat]) ⟨Nat.zero_le _, Nat.zero_le _⟩ d_J_followDetours_42 (fun r u9 H locs hp hh _ _ => ?_)
      rw [hp.2] at hh
      refine W.eq (g2 := F0 m 45 ls [.int (jc_frag led), .int (u 4 (ix (led / 8)))]) (by first | rfl | (rw [hp.1]; rfl)) ?_
      refine lv_iadd hx hb d_J_followDetours_45 ?_
      refine lv_goto (tgt := 51) hx hb d_J_followDetours_46 rfl ?_
      refine lv_istore_n (i := 2) (lv' := [(2, .int ((u 4 (ix (led / 8))) + (jc_frag led))), (4, .int (u 4 (ix (led / 8)))), (0, .ref (ad 0)), (1, .int x), (3, .int (nI i))]) hx hb d_J_followDetours_51 rfl hl (by decide) rfl (fun ls hl => ?_)
      refine lv_iinc (k := 4) (v := nI (i + 1)) (lv' := [(3, .int (nI (i + 1))), (2, .int ((u 4 (ix (led / 8))) + (jc_frag led))), (4, .int (u 4 (ix (led / 8)))), (0, .ref (ad 0)), (1, .int x)]) hx hb d_J_followDetours_52 hl rfl (nI_1 i) (by decide) rfl (fun ls hl => ?_)
      refine lv_goto (tgt := 4) hx hb d_J_followDetours_55 rfl ?_
      refine ih (i + 1) ((u 4 (ix (led / 8))) + (jc_frag led)) _ _ _ (by omega) (by have q9 := jc_led hS hq h14; simpa [h36] using q9) (by rw [← hf]; simp [jc_fd, h14, h36]) ?_ ?_
      ·
        exact hh
      exact lv_sub hl [3, 4, 1, 0] rfl
  have e1 : nI 0 = 0 := rfl
  refine L4 4 0 x _ _ _ (by omega) hu rfl ?_ ?_
  ·
    try rw [e1]
    exact hh
  try rw [e1]
  exact lv_sub hl [2, 3, 1, 0] rfl
