set_option maxHeartbeats 4000000 in
set_option maxRecDepth 100000 in
theorem c_url (l : Launch) (D : va_G) (aK ad : Nat → Nat) (cA : Nat → ClassId) (u : js_S) (n : Int32) (hS : jc_Sh u) : jx_M l y_J_url b_J_url 3 (some .int) (jr 3) D (jc_tys cA) aK 158 ad (jc_cell ad aK cA) [.ref (ad 0), .int n] u (fun r : Int32 => some (.int r)) (fun r u' => r = jc_url u n ∧ u' = u) := by
  refine jx_enter "JointHistory" (by decide) rfl (by simp [lg_sl, vc_int, vc_ref, vc_long, jv_cat]) ?_
  intro p e s m args below meth c A Q H locs ls hQ hc hh hr hlk hl
  have hx := hc.1
  have hb := hc.2.1
  have hl : lv_has ls 3 [(0, .ref (ad 0)), (1, .int n)] := by simpa [lv_args, vc_int, vc_ref, vc_long, jv_cat] using hl
  refine lv_aload_n hx hb d_J_url_0 rfl (lv_at hl 0 rfl) ?_
  refine lv_iload_n hx hb d_J_url_1 rfl (lv_at hl 1 rfl) ?_
  refine lv_aload_n hx hb d_J_url_2 rfl (lv_at hl 0 rfl) ?_
  refine jg_J hc hh 5 (by decide) rfl wf_J_96 d_J_url_3 ?_
  refine jx_callV [.int n, .int (u 21 0)] [] hc hh (c_shownEntry l D aK ad cA u n (u 21 0) hS) wy_J_99 ⟨by decide, rfl, rfl⟩ (by decide) rfl hl.1 rfl (by decide) ⟨Nat.zero_le _, Nat.zero_le _⟩ d_J_url_6 (fun r u9 H locs hp hh _ _ => ?_)
  rw [hp.2] at hh
  refine W.eq (g2 := F0 m 9 ls [jv ad 118 (jc_shownEntry u n (u 21 0))]) (by first | rfl | (rw [hp.1]; rfl)) ?_
  refine jv_astore_n (i := 2) (lv' := [(2, jv ad 118 (jc_shownEntry u n (u 21 0))), (0, .ref (ad 0)), (1, .int n)]) hx hb d_J_url_9 rfl hl (by decide) rfl (fun ls hl => ?_)
  refine jv_aload_n hx hb d_J_url_10 rfl (lv_at hl 0 rfl) ?_
  refine jv_ifnonnull (tgt := 19) hx hb d_J_url_11 rfl (fun h11 => ?_) (fun h11 => ?_)
  ·
    refine jv_aload_n hx hb d_J_url_19 rfl (lv_at hl 0 rfl) ?_
    refine jgx_E hc hh (jc_se_ex hS h11) 3 (by decide) rfl wf_J_103 d_J_url_20 ?_
    exact jx_iret (r := (u 17 (ix (jc_shownEntry u n (u 21 0))))) hc hh hQ hlk hr rfl rfl ⟨by simp [jc_url, h11], rfl⟩ d_J_url_23
  refine lv_bipush (v := -4) hx hb d_J_url_14 (by decide) ?_
  refine lv_goto (tgt := 23) hx hb d_J_url_16 rfl ?_
  exact jx_iret (r := (-4)) hc hh hQ hlk hr rfl rfl ⟨by first | (simp [jc_url, h11]; done) | (simp [jc_url, eq_true h11]; done), rfl⟩ d_J_url_23
set_option maxHeartbeats 4000000 in
set_option maxRecDepth 100000 in
theorem c_step (l : Launch) (D : va_G) (aK ad : Nat → Nat) (cA : Nat → ClassId) (u : js_S) (n : Int32) (hS : jc_Sh u) : jx_M l y_J_step b_J_step 3 (some .int) (jr 3) D (jc_tys cA) aK 158 ad (jc_cell ad aK cA) [.ref (ad 0), .int n] u (fun r : Int32 => some (.int r)) (fun r u' => r = jc_step u n ∧ u' = u) := by
  refine jx_enter "JointHistory" (by decide) rfl (by simp [lg_sl, vc_int, vc_ref, vc_long, jv_cat]) ?_
  intro p e s m args below meth c A Q H locs ls hQ hc hh hr hlk hl
  have hx := hc.1
  have hb := hc.2.1
  have hl : lv_has ls 3 [(0, .ref (ad 0)), (1, .int n)] := by simpa [lv_args, vc_int, vc_ref, vc_long, jv_cat] using hl
  refine lv_aload_n hx hb d_J_step_0 rfl (lv_at hl 0 rfl) ?_
  refine lv_iload_n hx hb d_J_step_1 rfl (lv_at hl 1 rfl) ?_
  refine lv_aload_n hx hb d_J_step_2 rfl (lv_at hl 0 rfl) ?_
  refine jg_J hc hh 5 (by decide) rfl wf_J_96 d_J_step_3 ?_
  refine jx_callV [.int n, .int (u 21 0)] [] hc hh (c_shownEntry l D aK ad cA u n (u 21 0) hS) wy_J_99 ⟨by decide, rfl, rfl⟩ (by decide) rfl hl.1 rfl (by decide) ⟨Nat.zero_le _, Nat.zero_le _⟩ d_J_step_6 (fun r u9 H locs hp hh _ _ => ?_)
  rw [hp.2] at hh
  refine W.eq (g2 := F0 m 9 ls [jv ad 118 (jc_shownEntry u n (u 21 0))]) (by first | rfl | (rw [hp.1]; rfl)) ?_
  refine jv_astore_n (i := 2) (lv' := [(2, jv ad 118 (jc_shownEntry u n (u 21 0))), (0, .ref (ad 0)), (1, .int n)]) hx hb d_J_step_9 rfl hl (by decide) rfl (fun ls hl => ?_)
  refine jv_aload_n hx hb d_J_step_10 rfl (lv_at hl 0 rfl) ?_
  refine jv_ifnonnull (tgt := 19) hx hb d_J_step_11 rfl (fun h11 => ?_) (fun h11 => ?_)
  ·
    refine jv_aload_n hx hb d_J_step_19 rfl (lv_at hl 0 rfl) ?_
    refine jgx_E hc hh (jc_se_ex hS h11) 2 (by decide) rfl wf_J_128 d_J_step_20 ?_
    exact jx_iret (r := (u 16 (ix (jc_shownEntry u n (u 21 0))))) hc hh hQ hlk hr rfl rfl ⟨by simp [jc_step, h11], rfl⟩ d_J_step_23
  refine lv_bipush (v := -4) hx hb d_J_step_14 (by decide) ?_
  refine lv_goto (tgt := 23) hx hb d_J_step_16 rfl ?_
  exact jx_iret (r := (-4)) hc hh hQ hlk hr rfl rfl ⟨by first | (simp [jc_step, h11]; done) | (simp [jc_step, eq_true h11]; done), rfl⟩ d_J_step_23
set_option maxHeartbeats 4000000 in
set_option maxRecDepth 100000 in
theorem c_state (l : Launch) (D : va_G) (aK ad : Nat → Nat) (cA : Nat → ClassId) (u : js_S) (n : Int32) (hS : jc_Sh u) : jx_M l y_J_state b_J_state 3 (some .long) (jr 3) D (jc_tys cA) aK 158 ad (jc_cell ad aK cA) [.ref (ad 0), .int n] u (fun r : Int64 => some (.long r)) (fun r u' => r = jc_state u n ∧ u' = u) := by
  refine jx_enter "JointHistory" (by decide) rfl (by simp [lg_sl, vc_int, vc_ref, vc_long, jv_cat]) ?_
  intro p e s m args below meth c A Q H locs ls hQ hc hh hr hlk hl
  have hx := hc.1
  have hb := hc.2.1
  have hl : lv_has ls 3 [(0, .ref (ad 0)), (1, .int n)] := by simpa [lv_args, vc_int, vc_ref, vc_long, jv_cat] using hl
  refine lv_aload_n hx hb d_J_state_0 rfl (lv_at hl 0 rfl) ?_
  refine lv_iload_n hx hb d_J_state_1 rfl (lv_at hl 1 rfl) ?_
  refine lv_aload_n hx hb d_J_state_2 rfl (lv_at hl 0 rfl) ?_
  refine jg_J hc hh 5 (by decide) rfl wf_J_96 d_J_state_3 ?_
  refine jx_callV [.int n, .int (u 21 0)] [] hc hh (c_shownEntry l D aK ad cA u n (u 21 0) hS) wy_J_99 ⟨by decide, rfl, rfl⟩ (by decide) rfl hl.1 rfl (by decide) ⟨Nat.zero_le _, Nat.zero_le _⟩ d_J_state_6 (fun r u9 H locs hp hh _ _ => ?_)
  rw [hp.2] at hh
  refine W.eq (g2 := F0 m 9 ls [jv ad 118 (jc_shownEntry u n (u 21 0))]) (by first | rfl | (rw [hp.1]; rfl)) ?_
  refine jv_astore_n (i := 2) (lv' := [(2, jv ad 118 (jc_shownEntry u n (u 21 0))), (0, .ref (ad 0)), (1, .int n)]) hx hb d_J_state_9 rfl hl (by decide) rfl (fun ls hl => ?_)
  refine jv_aload_n hx hb d_J_state_10 rfl (lv_at hl 0 rfl) ?_
  refine jv_ifnonnull (tgt := 20) hx hb d_J_state_11 rfl (fun h11 => ?_) (fun h11 => ?_)
  ·
    refine jv_aload_n hx hb d_J_state_20 rfl (lv_at hl 0 rfl) ?_
    refine jgx_E hc hh (jc_se_ex hS h11) 4 (by decide) rfl wf_J_165 d_J_state_21 ?_
    refine lv_i2l hx hb d_J_state_24 rfl ?_
    exact jx_lret (r := (u 18 (ix (jc_shownEntry u n (u 21 0)))).toInt64) hc hh hQ hlk hr rfl ⟨by simp [jc_state, h11], rfl⟩ d_J_state_25
  refine lv_ldc2 hx hb hc.2.2.2.1 (hc.2.2.2.2.1 _ wc_J_163) d_J_state_14 ?_
  refine lv_goto (tgt := 25) hx hb d_J_state_17 rfl ?_
  exact jx_lret (r := 1099511627776) hc hh hQ hlk hr rfl ⟨by first | (simp [jc_state, h11]; done) | (simp [jc_state, eq_true h11]; done), rfl⟩ d_J_state_25
set_option maxHeartbeats 4000000 in
set_option maxRecDepth 100000 in
theorem c_origin (l : Launch) (D : va_G) (aK ad : Nat → Nat) (cA : Nat → ClassId) (u : js_S) (n : Int32) (hS : jc_Sh u) : jx_M l y_J_origin b_J_origin 3 (some .int) (jr 3) D (jc_tys cA) aK 158 ad (jc_cell ad aK cA) [.ref (ad 0), .int n] u (fun r : Int32 => some (.int r)) (fun r u' => r = jc_origin u n ∧ u' = u) := by
  refine jx_enter "JointHistory" (by decide) rfl (by simp [lg_sl, vc_int, vc_ref, vc_long, jv_cat]) ?_
  intro p e s m args below meth c A Q H locs ls hQ hc hh hr hlk hl
  have hx := hc.1
  have hb := hc.2.1
  have hl : lv_has ls 3 [(0, .ref (ad 0)), (1, .int n)] := by simpa [lv_args, vc_int, vc_ref, vc_long, jv_cat] using hl
  refine lv_aload_n hx hb d_J_origin_0 rfl (lv_at hl 0 rfl) ?_
  refine lv_iload_n hx hb d_J_origin_1 rfl (lv_at hl 1 rfl) ?_
  refine lv_aload_n hx hb d_J_origin_2 rfl (lv_at hl 0 rfl) ?_
  refine jg_J hc hh 5 (by decide) rfl wf_J_96 d_J_origin_3 ?_
  refine jx_callV [.int n, .int (u 21 0)] [] hc hh (c_shownEntry l D aK ad cA u n (u 21 0) hS) wy_J_99 ⟨by decide, rfl, rfl⟩ (by decide) rfl hl.1 rfl (by decide) ⟨Nat.zero_le _, Nat.zero_le _⟩ d_J_origin_6 (fun r u9 H locs hp hh _ _ => ?_)
  rw [hp.2] at hh
  refine W.eq (g2 := F0 m 9 ls [jv ad 118 (jc_shownEntry u n (u 21 0))]) (by first | rfl | (rw [hp.1]; rfl)) ?_
  refine jv_astore_n (i := 2) (lv' := [(2, jv ad 118 (jc_shownEntry u n (u 21 0))), (0, .ref (ad 0)), (1, .int n)]) hx hb d_J_origin_9 rfl hl (by decide) rfl (fun ls hl => ?_)
  refine jv_aload_n hx hb d_J_origin_10 rfl (lv_at hl 0 rfl) ?_
  refine jv_ifnonnull (tgt := 19) hx hb d_J_origin_11 rfl (fun h11 => ?_) (fun h11 => ?_)
  ·
    refine jv_aload_n hx hb d_J_origin_19 rfl (lv_at hl 0 rfl) ?_
    refine jgx_E hc hh (jc_se_ex hS h11) 5 (by decide) rfl wf_J_120 d_J_origin_20 ?_
    refine jgx_D hc hh (jc_se_doc hS h11) 2 (by decide) rfl wf_J_168 d_J_origin_23 ?_
    exact jx_iret (r := (u 10 (ix (u 19 (ix (jc_shownEntry u n (u 21 0))))))) hc hh hQ hlk hr rfl rfl ⟨by simp [jc_origin, h11], rfl⟩ d_J_origin_26
  refine lv_bipush (v := -4) hx hb d_J_origin_14 (by decide) ?_
  refine lv_goto (tgt := 26) hx hb d_J_origin_16 rfl ?_
  exact jx_iret (r := (-4)) hc hh hQ hlk hr rfl rfl ⟨by first | (simp [jc_origin, h11]; done) | (simp [jc_origin, eq_true h11]; done), rfl⟩ d_J_origin_26
set_option maxHeartbeats 4000000 in
set_option maxRecDepth 100000 in
theorem c_frame (l : Launch) (D : va_G) (aK ad : Nat → Nat) (cA : Nat → ClassId) (u : js_S) (n : Int32) (k : Int32) (hS : jc_Sh u) : jx_M l y_J_frame b_J_frame 4 (some .int) (jr 3) D (jc_tys cA) aK 158 ad (jc_cell ad aK cA) [.ref (ad 0), .int n, .int k] u (fun r : Int32 => some (.int r)) (fun r u' => r = jc_frame u n k ∧ u' = u) := by
  refine jx_enter "JointHistory" (by decide) rfl (by simp [lg_sl, vc_int, vc_ref, vc_long, jv_cat]) ?_
  intro p e s m args below meth c A Q H locs ls hQ hc hh hr hlk hl
  have hx := hc.1
  have hb := hc.2.1
  have hl : lv_has ls 4 [(0, .ref (ad 0)), (1, .int n), (2, .int k)] := by simpa [lv_args, vc_int, vc_ref, vc_long, jv_cat] using hl
  refine lv_aload_n hx hb d_J_frame_0 rfl (lv_at hl 0 rfl) ?_
  refine lv_iload_n hx hb d_J_frame_1 rfl (lv_at hl 1 rfl) ?_
  refine lv_aload_n hx hb d_J_frame_2 rfl (lv_at hl 0 rfl) ?_
  refine jg_J hc hh 5 (by decide) rfl wf_J_96 d_J_frame_3 ?_
  refine jx_callV [.int n, .int (u 21 0)] [] hc hh (c_shownEntry l D aK ad cA u n (u 21 0) hS) wy_J_99 ⟨by decide, rfl, rfl⟩ (by decide) rfl hl.1 rfl (by decide) ⟨Nat.zero_le _, Nat.zero_le _⟩ d_J_frame_6 (fun r u9 H locs hp hh _ _ => ?_)
  rw [hp.2] at hh
  refine W.eq (g2 := F0 m 9 ls [jv ad 118 (jc_shownEntry u n (u 21 0))]) (by first | rfl | (rw [hp.1]; rfl)) ?_
  refine jv_astore_n (i := 3) (lv' := [(3, jv ad 118 (jc_shownEntry u n (u 21 0))), (0, .ref (ad 0)), (1, .int n), (2, .int k)]) hx hb d_J_frame_9 rfl hl (by decide) rfl (fun ls hl => ?_)
  refine jv_aload_n hx hb d_J_frame_10 rfl (lv_at hl 0 rfl) ?_
  refine jv_ifnonnull (tgt := 17) hx hb d_J_frame_11 rfl (fun h11 => ?_) (fun h11 => ?_)
  ·
    refine lv_iload_n hx hb d_J_frame_17 rfl (lv_at hl 3 rfl) ?_
    refine lv_if_ne (tgt := 32) hx hb d_J_frame_18 rfl (fun h18 => ?_) (fun h18 => ?_)
    ·
      refine lv_iload_n hx hb d_J_frame_32 rfl (lv_at hl 3 rfl) ?_
      refine lv_iconst (v := 1) hx hb d_J_frame_33 (by decide) ?_
      refine lv_icmp_ne (tgt := 50) hx hb d_J_frame_34 rfl (fun h34 => ?_) (fun h34 => ?_)
      ·
        refine lv_bipush (v := -7) hx hb d_J_frame_50 (by decide) ?_
        exact jx_iret (r := (-7)) hc hh hQ hlk hr rfl rfl ⟨by simp [jc_frame, h11, h18, h34], rfl⟩ d_J_frame_52
      refine jv_aload_n hx hb d_J_frame_37 rfl (lv_at hl 0 rfl) ?_
      refine jgx_E hc hh (jc_se_ex hS h11) 5 (by decide) rfl wf_J_120 d_J_frame_38 ?_
      refine jgx_D hc hh (jc_se_doc hS h11) 5 (by decide) rfl wf_J_177 d_J_frame_41 ?_
      refine jx_callS [jv ad 38 (u 13 (ix (u 19 (ix (jc_shownEntry u n (u 21 0))))))] [] hc hh (c_numberOf l D aK ad cA u (u 13 (ix (u 19 (ix (jc_shownEntry u n (u 21 0)))))) (jc_S13x hS (jc_se_doc hS h11))) wy_J_173 (by decide) rfl hl.1 rfl (by decide) ⟨Nat.zero_le _, Nat.zero_le _⟩ d_J_frame_44 (fun r u9 H locs hp hh _ _ => ?_)
      rw [hp.2] at hh
      refine W.eq (g2 := F0 m 47 ls [.int (jc_numOf (u 13 (ix (u 19 (ix (jc_shownEntry u n (u 21 0)))))))]) (by first | rfl | (rw [hp.1]; rfl)) ?_
      refine lv_goto (tgt := 52) hx hb d_J_frame_47 rfl ?_
      exact jx_iret (r := (jc_numOf (u 13 (ix (u 19 (ix (jc_shownEntry u n (u 21 0)))))))) hc hh hQ hlk hr rfl rfl ⟨by first | (simp [jc_frame, h11, h18, h34]; done) | (simp [jc_frame, h11, h18, eq_true h34]; done), rfl⟩ d_J_frame_52
    refine jv_aload_n hx hb d_J_frame_21 rfl (lv_at hl 0 rfl) ?_
    refine jgx_E hc hh (jc_se_ex hS h11) 5 (by decide) rfl wf_J_120 d_J_frame_22 ?_
    refine jgx_D hc hh (jc_se_doc hS h11) 4 (by decide) rfl wf_J_171 d_J_frame_25 ?_
    refine jx_callS [jv ad 38 (u 12 (ix (u 19 (ix (jc_shownEntry u n (u 21 0))))))] [] hc hh (c_numberOf l D aK ad cA u (u 12 (ix (u 19 (ix (jc_shownEntry u n (u 21 0)))))) (jc_S12x hS (jc_se_doc hS h11))) wy_J_173 (by decide) rfl hl.1 rfl (by decide) ⟨Nat.zero_le _, Nat.zero_le _⟩ d_J_frame_28 (fun r u9 H locs hp hh _ _ => ?_)
    rw [hp.2] at hh
    refine W.eq (g2 := F0 m 31 ls [.int (jc_numOf (u 12 (ix (u 19 (ix (jc_shownEntry u n (u 21 0)))))))]) (by first | rfl | (rw [hp.1]; rfl)) ?_
    exact jx_iret (r := (jc_numOf (u 12 (ix (u 19 (ix (jc_shownEntry u n (u 21 0)))))))) hc hh hQ hlk hr rfl rfl ⟨by first | (simp [jc_frame, h11, h18]; done) | (simp [jc_frame, h11, eq_true h18]; done), rfl⟩ d_J_frame_31
  refine lv_bipush (v := -4) hx hb d_J_frame_14 (by decide) ?_
  exact jx_iret (r := (-4)) hc hh hQ hlk hr rfl rfl ⟨by first | (simp [jc_frame, h11]; done) | (simp [jc_frame, eq_true h11]; done), rfl⟩ d_J_frame_16
set_option maxHeartbeats 4000000 in
set_option maxRecDepth 100000 in
theorem c_entries (l : Launch) (D : va_G) (aK ad : Nat → Nat) (cA : Nat → ClassId) (u : js_S) (nv : Int32) (hS : jc_Sh u) : jx_M l y_J_entries b_J_entries 8 (some .int) (jr 3) D (jc_tys cA) aK 158 ad (jc_cell ad aK cA) [.ref (ad 0), .int nv] u (fun r : Int32 => some (.int r)) (fun r u' => r = jc_entries u nv ∧ u' = u) := by
  refine jx_enter "JointHistory" (by decide) rfl (by simp [lg_sl, vc_int, vc_ref, vc_long, jv_cat]) ?_
  intro p e s m args below meth c A Q H locs ls hQ hc hh hr hlk hl
  have hx := hc.1
  have hb := hc.2.1
  have hl : lv_has ls 8 [(0, .ref (ad 0)), (1, .int nv)] := by simpa [lv_args, vc_int, vc_ref, vc_long, jv_cat] using hl
  refine lv_aload_n hx hb d_J_entries_0 rfl (lv_at hl 0 rfl) ?_
  refine lv_iload_n hx hb d_J_entries_1 rfl (lv_at hl 1 rfl) ?_
  refine lv_aload_n hx hb d_J_entries_2 rfl (lv_at hl 0 rfl) ?_
  refine jg_J hc hh 5 (by decide) rfl wf_J_96 d_J_entries_3 ?_
  refine jx_callV [.int nv, .int (u 21 0)] [] hc hh (c_shownEntry l D aK ad cA u nv (u 21 0) hS) wy_J_99 ⟨by decide, rfl, rfl⟩ (by decide) rfl hl.1 rfl (by decide) ⟨Nat.zero_le _, Nat.zero_le _⟩ d_J_entries_6 (fun r u9 H locs hp hh _ _ => ?_)
  rw [hp.2] at hh
  refine W.eq (g2 := F0 m 9 ls [jv ad 118 (jc_shownEntry u nv (u 21 0))]) (by first | rfl | (rw [hp.1]; rfl)) ?_
  refine jv_astore_n (i := 2) (lv' := [(2, jv ad 118 (jc_shownEntry u nv (u 21 0))), (0, .ref (ad 0)), (1, .int nv)]) hx hb d_J_entries_9 rfl hl (by decide) rfl (fun ls hl => ?_)
  refine jv_aload_n hx hb d_J_entries_10 rfl (lv_at hl 0 rfl) ?_
  refine jv_ifnonnull (tgt := 17) hx hb d_J_entries_11 rfl (fun h11 => ?_) (fun h11 => ?_)
  ·
    refine lv_iconst (v := 0) hx hb d_J_entries_17 (by decide) ?_
    refine lv_istore_n (i := 3) (lv' := [(3, .int 0), (2, jv ad 118 (jc_shownEntry u nv (u 21 0))), (0, .ref (ad 0)), (1, .int nv)]) hx hb d_J_entries_18 rfl hl (by decide) (by simp [vc_int, vc_ref, vc_long, jv_cat]) (fun ls hl => ?_)
    refine lv_aload_n hx hb d_J_entries_19 rfl (lv_at hl 2 rfl) ?_
    refine jg_J hc hh 3 (by decide) rfl wf_J_29 d_J_entries_20 ?_
    refine lv_astore (i := 4) (lv' := [(4, .ref (ad 4)), (3, .int 0), (2, jv ad 118 (jc_shownEntry u nv (u 21 0))), (0, .ref (ad 0)), (1, .int nv)]) hx hb d_J_entries_23 hl (by decide) rfl (fun ls hl => ?_)
    refine lv_aload hx hb d_J_entries_25 (lv_at hl 0 rfl) ?_
    refine jl_E hc hh d_J_entries_27 ?_
    refine lv_istore (i := 5) (lv' := [(5, .int (nI 40)), (4, .ref (ad 4)), (3, .int 0), (2, jv ad 118 (jc_shownEntry u nv (u 21 0))), (0, .ref (ad 0)), (1, .int nv)]) hx hb d_J_entries_28 hl (by decide) rfl (fun ls hl => ?_)
    refine lv_iconst (v := 0) hx hb d_J_entries_30 (by decide) ?_
    refine lv_istore (i := 6) (lv' := [(6, .int 0), (5, .int (nI 40)), (4, .ref (ad 4)), (3, .int 0), (2, jv ad 118 (jc_shownEntry u nv (u 21 0))), (0, .ref (ad 0)), (1, .int nv)]) hx hb d_J_entries_31 hl (by decide) rfl (fun ls hl => ?_)
    have L33 : ∀ (n : Nat) (i : Nat) (H : Heap) (locs : List Loc) (ls : Array Slot), i + n = 40 → jx_H D 158 ad (jc_cell ad aK cA u) A s.heap H locs → lv_has ls 8 [(0, .ref (ad 0)), (1, .int nv), (2, jv ad 118 (jc_shownEntry u nv (u 21 0))), (3, .int (nI (jc_cntO u (u 15 (ix (jc_shownEntry u nv (u 21 0)))) i))), (4, .ref (ad 4)), (5, .int (nI 40)), (6, .int (nI i))] → W p l e (jr 3) s m args below meth c H locs 0 0 Q (F0 m 33 ls []) := by
      intro n
      induction n with
      | zero =>
        intro i H locs ls hm hh hl
        have hi : i = 40 := by omega
        refine lv_iload hx hb d_J_entries_33 (lv_at hl 6 rfl) ?_
        refine lv_iload hx hb d_J_entries_35 (lv_at hl 5 rfl) ?_
        refine lv_icmp_ge (tgt := 76) hx hb d_J_entries_37 rfl (fun h37 => ?_) (fun hq => absurd (nI_le (show 40 ≤ i by omega) (show i < 2 ^ 31 by omega)) hq)
        refine lv_iload_n hx hb d_J_entries_76 rfl (lv_at hl 3 rfl) ?_
        exact jx_iret (r := nI (jc_cntO u (u 15 (ix (jc_shownEntry u nv (u 21 0)))) i)) hc hh hQ hlk hr rfl rfl ⟨by rw [hi]; simp [jc_entries, h11], rfl⟩ d_J_entries_77
      | succ n ih =>
        intro i H locs ls hm hh hl
        have hi : i < 40 := by omega
        refine lv_iload hx hb d_J_entries_33 (lv_at hl 6 rfl) ?_
        refine lv_iload hx hb d_J_entries_35 (lv_at hl 5 rfl) ?_
        refine lv_icmp_ge (tgt := 76) hx hb d_J_entries_37 rfl (fun hq => absurd hq (nI_ge hi (by decide))) (fun h37 => ?_)
        refine lv_aload hx hb d_J_entries_40 (lv_at hl 4 rfl) ?_
        refine lv_iload hx hb d_J_entries_42 (lv_at hl 6 rfl) ?_
        refine ja_E hc hh hi d_J_entries_44 ?_
        refine jv_astore (i := 7) (lv' := [(7, jv ad 118 (nI i)), (0, .ref (ad 0)), (1, .int nv), (2, jv ad 118 (jc_shownEntry u nv (u 21 0))), (3, .int (nI (jc_cntO u (u 15 (ix (jc_shownEntry u nv (u 21 0)))) i))), (4, .ref (ad 4)), (5, .int (nI 40)), (6, .int (nI i))]) hx hb d_J_entries_45 hl (by decide) rfl (fun ls hl => ?_)
        refine jv_aload hx hb d_J_entries_47 (lv_at hl 0 rfl) ?_
        refine jg_E hc hh hi 0 (by decide) rfl wf_J_179 d_J_entries_49 ?_
        refine lv_if_eq (tgt := 70) hx hb d_J_entries_52 rfl (fun h52 => ?_) (fun h52 => ?_)
        ·
          refine lv_iinc (k := 7) (v := nI (i + 1)) (lv' := [(6, .int (nI (i + 1))), (7, jv ad 118 (nI i)), (0, .ref (ad 0)), (1, .int nv), (2, jv ad 118 (jc_shownEntry u nv (u 21 0))), (3, .int (nI (jc_cntO u (u 15 (ix (jc_shownEntry u nv (u 21 0)))) i))), (4, .ref (ad 4)), (5, .int (nI 40))]) hx hb d_J_entries_70 hl rfl (nI_1 i) (by decide) rfl (fun ls hl => ?_)
          refine lv_goto (tgt := 33) hx hb d_J_entries_73 rfl ?_
          have e1 : nI (jc_cntO u (u 15 (ix (jc_shownEntry u nv (u 21 0)))) (i + 1)) = nI (jc_cntO u (u 15 (ix (jc_shownEntry u nv (u 21 0)))) i) := by first | (simp [nI_0, jc_cntO, h52]; done) | (simp [nI_0, jc_cntO, eq_true h52]; done)
          refine ih (i + 1) _ _ _ (by omega) ?_ ?_
          ·
            try rw [e1]
            exact hh
          try rw [e1]
          exact lv_sub hl [2, 3, 4, 5, 6, 7, 0] rfl
        refine jv_aload hx hb d_J_entries_55 (lv_at hl 0 rfl) ?_
        refine jg_E hc hh hi 1 (by decide) rfl wf_J_135 d_J_entries_57 ?_
        refine jv_aload_n hx hb d_J_entries_60 rfl (lv_at hl 3 rfl) ?_
        refine jgx_E hc hh (jc_se_ex hS h11) 1 (by decide) rfl wf_J_135 d_J_entries_61 ?_
        refine jv_acmp_ne (tgt := 70) (n := 40) hx hb (by decide) (jd_inj hh (by decide)) (jc_S15 hS hi) (jc_S15x hS (jc_se_ex hS h11)) d_J_entries_64 rfl (fun h64 => ?_) (fun h64 => ?_)
        ·
          refine lv_iinc (k := 7) (v := nI (i + 1)) (lv' := [(6, .int (nI (i + 1))), (7, jv ad 118 (nI i)), (0, .ref (ad 0)), (1, .int nv), (2, jv ad 118 (jc_shownEntry u nv (u 21 0))), (3, .int (nI (jc_cntO u (u 15 (ix (jc_shownEntry u nv (u 21 0)))) i))), (4, .ref (ad 4)), (5, .int (nI 40))]) hx hb d_J_entries_70 hl rfl (nI_1 i) (by decide) rfl (fun ls hl => ?_)
          refine lv_goto (tgt := 33) hx hb d_J_entries_73 rfl ?_
          have e2 : nI (jc_cntO u (u 15 (ix (jc_shownEntry u nv (u 21 0)))) (i + 1)) = nI (jc_cntO u (u 15 (ix (jc_shownEntry u nv (u 21 0)))) i) := by simp [nI_0, jc_cntO, h52, h64]
          refine ih (i + 1) _ _ _ (by omega) ?_ ?_
          ·
            try rw [e2]
            exact hh
          try rw [e2]
          exact lv_sub hl [2, 3, 4, 5, 6, 7, 0] rfl
        refine lv_iinc (k := 4) (v := nI ((jc_cntO u (u 15 (ix (jc_shownEntry u nv (u 21 0)))) i) + 1)) (lv' := [(3, .int (nI ((jc_cntO u (u 15 (ix (jc_shownEntry u nv (u 21 0)))) i) + 1))), (7, jv ad 118 (nI i)), (0, .ref (ad 0)), (1, .int nv), (2, jv ad 118 (jc_shownEntry u nv (u 21 0))), (4, .ref (ad 4)), (5, .int (nI 40)), (6, .int (nI i))]) hx hb d_J_entries_67 hl rfl (nI_1 (jc_cntO u (u 15 (ix (jc_shownEntry u nv (u 21 0)))) i)) (by decide) (by simp [vc_int, vc_ref, vc_long, jv_cat]) (fun ls hl => ?_)
        refine lv_iinc (k := 7) (v := nI (i + 1)) (lv' := [(6, .int (nI (i + 1))), (3, .int (nI ((jc_cntO u (u 15 (ix (jc_shownEntry u nv (u 21 0)))) i) + 1))), (7, jv ad 118 (nI i)), (0, .ref (ad 0)), (1, .int nv), (2, jv ad 118 (jc_shownEntry u nv (u 21 0))), (4, .ref (ad 4)), (5, .int (nI 40))]) hx hb d_J_entries_70 hl rfl (nI_1 i) (by decide) rfl (fun ls hl => ?_)
        refine lv_goto (tgt := 33) hx hb d_J_entries_73 rfl ?_
        have e3 : nI (jc_cntO u (u 15 (ix (jc_shownEntry u nv (u 21 0)))) (i + 1)) = nI ((jc_cntO u (u 15 (ix (jc_shownEntry u nv (u 21 0)))) i) + 1) := by first | (simp [nI_0, jc_cntO, h52, h64]; done) | (simp [nI_0, jc_cntO, h52, eq_true h64]; done)
        refine ih (i + 1) _ _ _ (by omega) ?_ ?_
        ·
          try rw [e3]
          exact hh
        try rw [e3]
        exact lv_sub hl [3, 4, 5, 1, 6, 7, 0] rfl
    have e4 : nI (jc_cntO u (u 15 (ix (jc_shownEntry u nv (u 21 0)))) 0) = 0 := by simp [nI_0, jc_cntO, h11]
    have e5 : nI 0 = 0 := rfl
    refine L33 40 0 _ _ _ (by omega) ?_ ?_
    ·
      try rw [e4]
      try rw [e5]
      exact hh
    try rw [e4]
    try rw [e5]
    exact lv_sub hl [5, 6, 4, 3, 2, 1, 0] rfl
  refine lv_bipush (v := -4) hx hb d_J_entries_14 (by decide) ?_
  exact jx_iret (r := (-4)) hc hh hQ hlk hr rfl rfl ⟨by first | (simp [jc_entries, h11]; done) | (simp [jc_entries, eq_true h11]; done), rfl⟩ d_J_entries_16
set_option maxHeartbeats 4000000 in
set_option maxRecDepth 100000 in
theorem c_present (l : Launch) (D : va_G) (aK ad : Nat → Nat) (cA : Nat → ClassId) (u : js_S) : jx_M l y_J_present b_J_present 1 (some .int) (jr 1) D (jc_tys cA) aK 158 ad (jc_cell ad aK cA) [.ref (ad 0)] u (fun r : Int32 => some (.int r)) (fun r u' => r = u 21 0 ∧ u' = u) := by
  refine jx_enter "JointHistory" (by decide) rfl (by simp [lg_sl, vc_int, vc_ref, vc_long, jv_cat]) ?_
  intro p e s m args below meth c A Q H locs ls hQ hc hh hr hlk hl
  have hx := hc.1
  have hb := hc.2.1
  have hl : lv_has ls 1 [(0, .ref (ad 0))] := by simpa [lv_args, vc_int, vc_ref, vc_long, jv_cat] using hl
  refine lv_aload_n hx hb d_J_present_0 rfl (lv_at hl 0 rfl) ?_
  refine jg_J hc hh 5 (by decide) rfl wf_J_96 d_J_present_1 ?_
  exact jx_iret (r := (u 21 0)) hc hh hQ hlk hr rfl rfl ⟨rfl, rfl⟩ d_J_present_4
set_option maxHeartbeats 4000000 in
set_option maxRecDepth 100000 in
theorem c_content (l : Launch) (D : va_G) (aK ad : Nat → Nat) (cA : Nat → ClassId) (u : js_S) (page : Int32) (a : Int32) (b : Int32) (strict : Int32) (hz : strict = 0 ∨ strict = 1) : jx_M l y_J_content b_J_content 6 (some .boolean) (jr 4) D (jc_tys cA) aK 158 ad (jc_cell ad aK cA) [.ref (ad 0), .int page, .int a, .int b, .int strict] u (fun r : Int32 => some (.int r)) (fun r u' => r = (jc_content u page a b strict).1 ∧ u' = (jc_content u page a b strict).2) := by
  refine jx_enter "JointHistory" (by decide) rfl (by simp [lg_sl, vc_int, vc_ref, vc_long, jv_cat]) ?_
  intro p e s m args below meth c A Q H locs ls hQ hc hh hr hlk hl
  have hx := hc.1
  have hb := hc.2.1
  have hl : lv_has ls 6 [(0, .ref (ad 0)), (1, .int page), (2, .int a), (3, .int b), (4, .int strict)] := by simpa [lv_args, vc_int, vc_ref, vc_long, jv_cat] using hl
  refine lv_iload_n hx hb d_J_content_0 rfl (lv_at hl 1 rfl) ?_
  refine jx_callS [.int page] [] hc hh (c_isPage l D aK ad cA u page) wy_J_55 (by decide) rfl hl.1 rfl (by decide) ⟨Nat.zero_le _, Nat.zero_le _⟩ d_J_content_1 (fun r u9 H locs hp hh _ _ => ?_)
  rw [hp.2] at hh
  refine W.eq (g2 := F0 m 4 ls [.int (jc_isPage page)]) (by first | rfl | (rw [hp.1]; rfl)) ?_
  refine lv_if_eq (tgt := 21) hx hb d_J_content_4 rfl (fun h4 => ?_) (fun h4 => ?_)
  ·
    refine lv_iconst (v := 0) hx hb d_J_content_21 (by decide) ?_
    exact jx_iret (r := 0) hc hh hQ hlk hr (by decide) rfl ⟨by first | (simp [jc_content, h4]; done) | (simp [jc_content, eq_true h4]; done), by first | (simp [jc_content, h4]; done) | (simp [jc_content, eq_true h4]; done)⟩ d_J_content_22
  refine lv_iload_n hx hb d_J_content_7 rfl (lv_at hl 2 rfl) ?_
  refine jx_callS [.int a] [] hc hh (c_isFrameChoice l D aK ad cA u a) wy_J_59 (by decide) rfl hl.1 rfl (by decide) ⟨Nat.zero_le _, Nat.zero_le _⟩ d_J_content_8 (fun r u9 H locs hp hh _ _ => ?_)
  rw [hp.2] at hh
  refine W.eq (g2 := F0 m 11 ls [.int (jc_isFC a)]) (by first | rfl | (rw [hp.1]; rfl)) ?_
  refine lv_if_eq (tgt := 21) hx hb d_J_content_11 rfl (fun h11 => ?_) (fun h11 => ?_)
  ·
    refine lv_iconst (v := 0) hx hb d_J_content_21 (by decide) ?_
    exact jx_iret (r := 0) hc hh hQ hlk hr (by decide) rfl ⟨by first | (simp [jc_content, h4, h11]; done) | (simp [jc_content, h4, eq_true h11]; done), by first | (simp [jc_content, h4, h11]; done) | (simp [jc_content, h4, eq_true h11]; done)⟩ d_J_content_22
  refine lv_iload_n hx hb d_J_content_14 rfl (lv_at hl 3 rfl) ?_
  refine jx_callS [.int b] [] hc hh (c_isFrameChoice l D aK ad cA u b) wy_J_59 (by decide) rfl hl.1 rfl (by decide) ⟨Nat.zero_le _, Nat.zero_le _⟩ d_J_content_15 (fun r u9 H locs hp hh _ _ => ?_)
  rw [hp.2] at hh
  refine W.eq (g2 := F0 m 18 ls [.int (jc_isFC b)]) (by first | rfl | (rw [hp.1]; rfl)) ?_
  refine lv_if_ne (tgt := 23) hx hb d_J_content_18 rfl (fun h18 => ?_) (fun h18 => ?_)
  ·
    refine lv_aload_n hx hb d_J_content_23 rfl (lv_at hl 0 rfl) ?_
    refine jg_J hc hh 0 (by decide) rfl wf_J_11 d_J_content_24 ?_
    refine lv_iload_n hx hb d_J_content_27 rfl (lv_at hl 1 rfl) ?_
    refine jax_A hc hh (jc_page h4) d_J_content_28 ?_
    refine jv_astore (i := 5) (lv' := [(5, jv ad 6 page), (0, .ref (ad 0)), (1, .int page), (2, .int a), (3, .int b), (4, .int strict)]) hx hb d_J_content_29 hl (by decide) rfl (fun ls hl => ?_)
    refine jv_aload hx hb d_J_content_31 (lv_at hl 0 rfl) ?_
    refine jk_get (j := 0) hc hh (by decide) wf_J_62 d_J_content_33 ?_
    refine jpy_0 hc hh (jc_page h4) wf_J_68 d_J_content_36 (fun H locs hh => ?_)
    refine jv_aload hx hb d_J_content_39 (lv_at hl 0 rfl) ?_
    refine lv_iload_n hx hb d_J_content_41 rfl (lv_at hl 3 rfl) ?_
    refine jpy_1 hc hh (jc_page h4) wf_J_71 d_J_content_42 (fun H locs hh => ?_)
    refine jv_aload hx hb d_J_content_45 (lv_at hl 0 rfl) ?_
    refine lv_iload_n hx hb d_J_content_47 rfl (lv_at hl 4 rfl) ?_
    refine jpy_2 hc hh (jc_page h4) wf_J_75 d_J_content_48 (fun H locs hh => ?_)
    refine jv_aload hx hb d_J_content_51 (lv_at hl 0 rfl) ?_
    refine lv_iload hx hb d_J_content_53 (lv_at hl 5 rfl) ?_
    refine jpy_3 hc hh (jc_page h4) hz wf_J_78 d_J_content_55 (fun H locs hh => ?_)
    refine lv_iconst (v := 1) hx hb d_J_content_58 (by decide) ?_
    exact jx_iret (r := 1) hc hh hQ hlk hr (by decide) rfl ⟨by simp [jc_content, h4, h11, h18], by simp [jc_content, h4, h11, h18]⟩ d_J_content_59
  refine lv_iconst (v := 0) hx hb d_J_content_21 (by decide) ?_
  exact jx_iret (r := 0) hc hh hQ hlk hr (by decide) rfl ⟨by first | (simp [jc_content, h4, h11, h18]; done) | (simp [jc_content, h4, h11, eq_true h18]; done), by first | (simp [jc_content, h4, h11, h18]; done) | (simp [jc_content, h4, h11, eq_true h18]; done)⟩ d_J_content_22
set_option maxHeartbeats 4000000 in
set_option maxRecDepth 100000 in
theorem c_detour (l : Launch) (D : va_G) (aK ad : Nat → Nat) (cA : Nat → ClassId) (u : js_S) (page : Int32) (url : Int32) : jx_M l y_J_detour b_J_detour 3 (some .boolean) (jr 4) D (jc_tys cA) aK 158 ad (jc_cell ad aK cA) [.ref (ad 0), .int page, .int url] u (fun r : Int32 => some (.int r)) (fun r u' => r = (jc_detour u page url).1 ∧ u' = (jc_detour u page url).2) := by
  refine jx_enter "JointHistory" (by decide) rfl (by simp [lg_sl, vc_int, vc_ref, vc_long, jv_cat]) ?_
  intro p e s m args below meth c A Q H locs ls hQ hc hh hr hlk hl
  have hx := hc.1
  have hb := hc.2.1
  have hl : lv_has ls 3 [(0, .ref (ad 0)), (1, .int page), (2, .int url)] := by simpa [lv_args, vc_int, vc_ref, vc_long, jv_cat] using hl
  refine lv_iload_n hx hb d_J_detour_0 rfl (lv_at hl 1 rfl) ?_
  refine jx_callS [.int page] [] hc hh (c_isPage l D aK ad cA u page) wy_J_55 (by decide) rfl hl.1 rfl (by decide) ⟨Nat.zero_le _, Nat.zero_le _⟩ d_J_detour_1 (fun r u9 H locs hp hh _ _ => ?_)
  rw [hp.2] at hh
  refine W.eq (g2 := F0 m 4 ls [.int (jc_isPage page)]) (by first | rfl | (rw [hp.1]; rfl)) ?_
  refine lv_if_eq (tgt := 14) hx hb d_J_detour_4 rfl (fun h4 => ?_) (fun h4 => ?_)
  ·
    refine lv_iconst (v := 0) hx hb d_J_detour_14 (by decide) ?_
    exact jx_iret (r := 0) hc hh hQ hlk hr (by decide) rfl ⟨by first | (simp [jc_detour, h4]; done) | (simp [jc_detour, eq_true h4]; done), by first | (simp [jc_detour, h4]; done) | (simp [jc_detour, eq_true h4]; done)⟩ d_J_detour_15
  refine lv_iload_n hx hb d_J_detour_7 rfl (lv_at hl 2 rfl) ?_
  refine jx_callS [.int url] [] hc hh (c_isUrl l D aK ad cA u url) wy_J_81 (by decide) rfl hl.1 rfl (by decide) ⟨Nat.zero_le _, Nat.zero_le _⟩ d_J_detour_8 (fun r u9 H locs hp hh _ _ => ?_)
  rw [hp.2] at hh
  refine W.eq (g2 := F0 m 11 ls [.int (jc_isUrl url)]) (by first | rfl | (rw [hp.1]; rfl)) ?_
  refine lv_if_ne (tgt := 16) hx hb d_J_detour_11 rfl (fun h11 => ?_) (fun h11 => ?_)
  ·
    refine lv_aload_n hx hb d_J_detour_16 rfl (lv_at hl 0 rfl) ?_
    refine jg_J hc hh 0 (by decide) rfl wf_J_11 d_J_detour_17 ?_
    refine lv_iload_n hx hb d_J_detour_20 rfl (lv_at hl 1 rfl) ?_
    refine jax_A hc hh (jc_page h4) d_J_detour_21 ?_
    refine jk_get (j := 1) hc hh (by decide) wf_J_84 d_J_detour_22 ?_
    refine jpy_0 hc hh (jc_page h4) wf_J_68 d_J_detour_25 (fun H locs hh => ?_)
    refine lv_aload_n hx hb d_J_detour_28 rfl (lv_at hl 0 rfl) ?_
    refine jg_J hc hh 0 (by decide) rfl wf_J_11 d_J_detour_29 ?_
    refine lv_iload_n hx hb d_J_detour_32 rfl (lv_at hl 1 rfl) ?_
    refine jax_A hc hh (jc_page h4) d_J_detour_33 ?_
    refine lv_iload_n hx hb d_J_detour_34 rfl (lv_at hl 2 rfl) ?_
    refine jpy_4 hc hh (jc_page h4) wf_J_87 d_J_detour_35 (fun H locs hh => ?_)
    refine lv_iconst (v := 1) hx hb d_J_detour_38 (by decide) ?_
    exact jx_iret (r := 1) hc hh hQ hlk hr (by decide) rfl ⟨by simp [jc_detour, h4, h11], by simp [jc_detour, h4, h11]⟩ d_J_detour_39
  refine lv_iconst (v := 0) hx hb d_J_detour_14 (by decide) ?_
  exact jx_iret (r := 0) hc hh hQ hlk hr (by decide) rfl ⟨by first | (simp [jc_detour, h4, h11]; done) | (simp [jc_detour, h4, eq_true h11]; done), by first | (simp [jc_detour, h4, h11]; done) | (simp [jc_detour, h4, eq_true h11]; done)⟩ d_J_detour_15
set_option maxHeartbeats 4000000 in
set_option maxRecDepth 100000 in
theorem c_fault (l : Launch) (D : va_G) (aK ad : Nat → Nat) (cA : Nat → ClassId) (u : js_S) (page : Int32) : jx_M l y_J_fault b_J_fault 2 (some .boolean) (jr 4) D (jc_tys cA) aK 158 ad (jc_cell ad aK cA) [.ref (ad 0), .int page] u (fun r : Int32 => some (.int r)) (fun r u' => r = (jc_fault u page).1 ∧ u' = (jc_fault u page).2) := by
  refine jx_enter "JointHistory" (by decide) rfl (by simp [lg_sl, vc_int, vc_ref, vc_long, jv_cat]) ?_
  intro p e s m args below meth c A Q H locs ls hQ hc hh hr hlk hl
  have hx := hc.1
  have hb := hc.2.1
  have hl : lv_has ls 2 [(0, .ref (ad 0)), (1, .int page)] := by simpa [lv_args, vc_int, vc_ref, vc_long, jv_cat] using hl
  refine lv_iload_n hx hb d_J_fault_0 rfl (lv_at hl 1 rfl) ?_
  refine jx_callS [.int page] [] hc hh (c_isPage l D aK ad cA u page) wy_J_55 (by decide) rfl hl.1 rfl (by decide) ⟨Nat.zero_le _, Nat.zero_le _⟩ d_J_fault_1 (fun r u9 H locs hp hh _ _ => ?_)
  rw [hp.2] at hh
  refine W.eq (g2 := F0 m 4 ls [.int (jc_isPage page)]) (by first | rfl | (rw [hp.1]; rfl)) ?_
  refine lv_if_ne (tgt := 9) hx hb d_J_fault_4 rfl (fun h4 => ?_) (fun h4 => ?_)
  ·
    refine lv_aload_n hx hb d_J_fault_9 rfl (lv_at hl 0 rfl) ?_
    refine jg_J hc hh 0 (by decide) rfl wf_J_11 d_J_fault_10 ?_
    refine lv_iload_n hx hb d_J_fault_13 rfl (lv_at hl 1 rfl) ?_
    refine jax_A hc hh (jc_page h4) d_J_fault_14 ?_
    refine jk_get (j := 2) hc hh (by decide) wf_J_90 d_J_fault_15 ?_
    refine jpy_0 hc hh (jc_page h4) wf_J_68 d_J_fault_18 (fun H locs hh => ?_)
    refine lv_iconst (v := 1) hx hb d_J_fault_21 (by decide) ?_
    exact jx_iret (r := 1) hc hh hQ hlk hr (by decide) rfl ⟨by simp [jc_fault, h4], by simp [jc_fault, h4]⟩ d_J_fault_22
  refine lv_iconst (v := 0) hx hb d_J_fault_7 (by decide) ?_
  exact jx_iret (r := 0) hc hh hQ hlk hr (by decide) rfl ⟨by first | (simp [jc_fault, h4]; done) | (simp [jc_fault, eq_true h4]; done), by first | (simp [jc_fault, h4]; done) | (simp [jc_fault, eq_true h4]; done)⟩ d_J_fault_8
set_option maxHeartbeats 4000000 in
set_option maxRecDepth 100000 in
theorem c_detach (l : Launch) (D : va_G) (aK ad : Nat → Nat) (cA : Nat → ClassId) (u : js_S) (n : Int32) (hS : jc_Sh u) : jx_M l y_J_detach b_J_detach 3 (some .int) (jr 4) D (jc_tys cA) aK 158 ad (jc_cell ad aK cA) [.ref (ad 0), .int n] u (fun r : Int32 => some (.int r)) (fun r u' => r = (jc_detach u n).1 ∧ u' = (jc_detach u n).2) := by
  refine jx_enter "JointHistory" (by decide) rfl (by simp [lg_sl, vc_int, vc_ref, vc_long, jv_cat]) ?_
  intro p e s m args below meth c A Q H locs ls hQ hc hh hr hlk hl
  have hx := hc.1
  have hb := hc.2.1
  have hl : lv_has ls 3 [(0, .ref (ad 0)), (1, .int n)] := by simpa [lv_args, vc_int, vc_ref, vc_long, jv_cat] using hl
  refine lv_iload_n hx hb d_J_detach_0 rfl (lv_at hl 1 rfl) ?_
  refine lv_if_ne (tgt := 7) hx hb d_J_detach_1 rfl (fun h1 => ?_) (fun h1 => ?_)
  ·
    refine lv_aload_n hx hb d_J_detach_7 rfl (lv_at hl 0 rfl) ?_
    refine lv_iload_n hx hb d_J_detach_8 rfl (lv_at hl 1 rfl) ?_
    refine lv_aload_n hx hb d_J_detach_9 rfl (lv_at hl 0 rfl) ?_
    refine jg_J hc hh 5 (by decide) rfl wf_J_96 d_J_detach_10 ?_
    refine jx_callV [.int n, .int (u 21 0)] [] hc hh (c_shownEntry l D aK ad cA u n (u 21 0) hS) wy_J_99 ⟨by decide, rfl, rfl⟩ (by decide) rfl hl.1 rfl (by decide) ⟨Nat.zero_le _, Nat.zero_le _⟩ d_J_detach_13 (fun r u9 H locs hp hh _ _ => ?_)
    rw [hp.2] at hh
    refine W.eq (g2 := F0 m 16 ls [jv ad 118 (jc_shownEntry u n (u 21 0))]) (by first | rfl | (rw [hp.1]; rfl)) ?_
    refine jv_astore_n (i := 2) (lv' := [(2, jv ad 118 (jc_shownEntry u n (u 21 0))), (0, .ref (ad 0)), (1, .int n)]) hx hb d_J_detach_16 rfl hl (by decide) rfl (fun ls hl => ?_)
    refine jv_aload_n hx hb d_J_detach_17 rfl (lv_at hl 0 rfl) ?_
    refine jv_ifnonnull (tgt := 24) hx hb d_J_detach_18 rfl (fun h18 => ?_) (fun h18 => ?_)
    ·
      refine lv_aload_n hx hb d_J_detach_24 rfl (lv_at hl 1 rfl) ?_
      refine jv_aload_n hx hb d_J_detach_25 rfl (lv_at hl 0 rfl) ?_
      refine jgx_E hc hh (jc_se_ex hS h18) 1 (by decide) rfl wf_J_135 d_J_detach_26 ?_
      refine jx_callV [jv ad 38 (u 15 (ix (jc_shownEntry u n (u 21 0))))] [] hc hh (c_takeOut l D aK ad cA u (u 15 (ix (jc_shownEntry u n (u 21 0)))) hS (jc_se_own hS h18)) wy_J_153 ⟨by decide, rfl, rfl⟩ (by decide) rfl hl.1 rfl (by decide) ⟨Nat.zero_le _, Nat.zero_le _⟩ d_J_detach_29 (fun r u9 H locs hp hh _ _ => ?_)
      rw [hp.2] at hh
      refine W.eq (g2 := F0 m 32 ls []) (by first | rfl | (rw [hp.1]; rfl)) ?_
      refine lv_aload_n hx hb d_J_detach_32 rfl (lv_at hl 1 rfl) ?_
      refine jx_callV [] [] hc hh (c_dropWhatIsGone l D aK ad cA (jc_takeOut u (u 15 (ix (jc_shownEntry u n (u 21 0))))) (jc_Sh_out hS (jc_se_own hS h18))) wy_J_157 ⟨by decide, rfl, rfl⟩ (by decide) rfl hl.1 rfl (by decide) ⟨Nat.zero_le _, Nat.zero_le _⟩ d_J_detach_33 (fun r u9 H locs hp hh _ _ => ?_)
      rw [hp.2] at hh
      refine W.eq (g2 := F0 m 36 ls []) (by first | rfl | (rw [hp.1]; rfl)) ?_
      refine lv_aload_n hx hb d_J_detach_36 rfl (lv_at hl 1 rfl) ?_
      refine jx_callV [] [] hc hh (c_settlePresentStep l D aK ad cA (jc_gone (jc_takeOut u (u 15 (ix (jc_shownEntry u n (u 21 0))))))) wy_J_160 ⟨by decide, rfl, rfl⟩ (by decide) rfl hl.1 rfl (by decide) ⟨Nat.zero_le _, Nat.zero_le _⟩ d_J_detach_37 (fun r u9 H locs hp hh _ _ => ?_)
      rw [hp.2] at hh
      refine W.eq (g2 := F0 m 40 ls []) (by first | rfl | (rw [hp.1]; rfl)) ?_
      refine lv_aload_n hx hb d_J_detach_40 rfl (lv_at hl 1 rfl) ?_
      refine jg_J hc hh 5 (by decide) rfl wf_J_96 d_J_detach_41 ?_
      exact jx_iret (r := ((jc_settle (jc_gone (jc_takeOut u (u 15 (ix (jc_shownEntry u n (u 21 0))))))) 21 0)) hc hh hQ hlk hr rfl rfl ⟨by simp [jc_detach, h1, h18], by simp [jc_detach, h1, h18]⟩ d_J_detach_44
    refine lv_bipush (v := -4) hx hb d_J_detach_21 (by decide) ?_
    exact jx_iret (r := (-4)) hc hh hQ hlk hr rfl rfl ⟨by first | (simp [jc_detach, h1, h18]; done) | (simp [jc_detach, h1, eq_true h18]; done), by first | (simp [jc_detach, h1, h18]; done) | (simp [jc_detach, h1, eq_true h18]; done)⟩ d_J_detach_23
  refine lv_bipush (v := -3) hx hb d_J_detach_4 (by decide) ?_
  exact jx_iret (r := (-3)) hc hh hQ hlk hr rfl rfl ⟨by first | (simp [jc_detach, h1]; done) | (simp [jc_detach, eq_true h1]; done), by first | (simp [jc_detach, h1]; done) | (simp [jc_detach, eq_true h1]; done)⟩ d_J_detach_6
set_option maxHeartbeats 4000000 in
set_option maxRecDepth 100000 in
theorem c_rewrite (l : Launch) (D : va_G) (aK ad : Nat → Nat) (cA : Nat → ClassId) (u : js_S) (n : Int32) (url : Int32) (state : Int32) (push : Int32) (hS : jc_Sh u) : jx_M l y_J_rewrite b_J_rewrite 6 (some .int) (jr 4) D (jc_tys cA) aK 158 ad (jc_cell ad aK cA) [.ref (ad 0), .int n, .int url, .int state, .int push] u (fun r : Int32 => some (.int r)) (fun r u' => r = (jc_rewrite u n url state push).1 ∧ u' = (jc_rewrite u n url state push).2) := by
  refine jx_enter "JointHistory" (by decide) rfl (by simp [lg_sl, vc_int, vc_ref, vc_long, jv_cat]) ?_
  intro p e s m args below meth c A Q H locs ls hQ hc hh hr hlk hl
  have hx := hc.1
  have hb := hc.2.1
  have hl : lv_has ls 6 [(0, .ref (ad 0)), (1, .int n), (2, .int url), (3, .int state), (4, .int push)] := by simpa [lv_args, vc_int, vc_ref, vc_long, jv_cat] using hl
  refine lv_iload_n hx hb d_J_rewrite_0 rfl (lv_at hl 2 rfl) ?_
  refine jx_callS [.int url] [] hc hh (c_isUrlOrBlank l D aK ad cA u url) wy_J_93 (by decide) rfl hl.1 rfl (by decide) ⟨Nat.zero_le _, Nat.zero_le _⟩ d_J_rewrite_1 (fun r u9 H locs hp hh _ _ => ?_)
  rw [hp.2] at hh
  refine W.eq (g2 := F0 m 4 ls [.int (jc_isUB url)]) (by first | rfl | (rw [hp.1]; rfl)) ?_
  refine lv_if_ne (tgt := 10) hx hb d_J_rewrite_4 rfl (fun h4 => ?_) (fun h4 => ?_)
  ·
    refine lv_aload_n hx hb d_J_rewrite_10 rfl (lv_at hl 0 rfl) ?_
    refine lv_iload_n hx hb d_J_rewrite_11 rfl (lv_at hl 1 rfl) ?_
    refine lv_aload_n hx hb d_J_rewrite_12 rfl (lv_at hl 0 rfl) ?_
    refine jg_J hc hh 5 (by decide) rfl wf_J_96 d_J_rewrite_13 ?_
    refine jx_callV [.int n, .int (u 21 0)] [] hc hh (c_shownEntry l D aK ad cA u n (u 21 0) hS) wy_J_99 ⟨by decide, rfl, rfl⟩ (by decide) rfl hl.1 rfl (by decide) ⟨Nat.zero_le _, Nat.zero_le _⟩ d_J_rewrite_16 (fun r u9 H locs hp hh _ _ => ?_)
    rw [hp.2] at hh
    refine W.eq (g2 := F0 m 19 ls [jv ad 118 (jc_shownEntry u n (u 21 0))]) (by first | rfl | (rw [hp.1]; rfl)) ?_
    refine jv_astore (i := 5) (lv' := [(5, jv ad 118 (jc_shownEntry u n (u 21 0))), (0, .ref (ad 0)), (1, .int n), (2, .int url), (3, .int state), (4, .int push)]) hx hb d_J_rewrite_19 hl (by decide) rfl (fun ls hl => ?_)
    refine jv_aload hx hb d_J_rewrite_21 (lv_at hl 0 rfl) ?_
    refine jv_ifnonnull (tgt := 29) hx hb d_J_rewrite_23 rfl (fun h23 => ?_) (fun h23 => ?_)
    ·
      refine lv_iload_n hx hb d_J_rewrite_29 rfl (lv_at hl 3 rfl) ?_
      refine lv_iconst (v := -1) hx hb d_J_rewrite_30 (by decide) ?_
      refine lv_icmp_eq (tgt := 49) hx hb d_J_rewrite_31 rfl (fun h31 => ?_) (fun h31 => ?_)
      ·
        refine lv_aload_n hx hb d_J_rewrite_49 rfl (lv_at hl 1 rfl) ?_
        refine lv_iload hx hb d_J_rewrite_50 (lv_at hl 5 rfl) ?_
        refine jx_callV [.int push] [] hc hh (c_isFull l D aK ad cA u push) wy_J_106 ⟨by decide, rfl, rfl⟩ (by decide) rfl hl.1 rfl (by decide) ⟨Nat.zero_le _, Nat.zero_le _⟩ d_J_rewrite_52 (fun r u9 H locs hp hh _ _ => ?_)
        rw [hp.2] at hh
        refine W.eq (g2 := F0 m 55 ls [.int (jc_full u push)]) (by first | rfl | (rw [hp.1]; rfl)) ?_
        refine lv_if_eq (tgt := 61) hx hb d_J_rewrite_55 rfl (fun h55 => ?_) (fun h55 => ?_)
        ·
          refine lv_iload hx hb d_J_rewrite_61 (lv_at hl 5 rfl) ?_
          refine lv_if_eq (tgt := 70) hx hb d_J_rewrite_63 rfl (fun h63 => ?_) (fun h63 => ?_)
          ·
            have J70 : ∀ (v : js_S) (H : Heap) (locs : List Loc) (ls : Array Slot), (jc_Sh v) → (∃ i, i < 40 ∧ v 19 (ix (jc_shownEntry u n (u 21 0))) = nI i) → (jc_rewrite u n url state push = (jc_rew v (jc_shownEntry u n (u 21 0)) url state push 21 0, jc_rew v (jc_shownEntry u n (u 21 0)) url state push)) → jx_H D 158 ad (jc_cell ad aK cA v) A s.heap H locs → lv_has ls 6 [(0, .ref (ad 0)), (1, .int n), (2, .int url), (3, .int state), (4, .int push), (5, jv ad 118 (jc_shownEntry u n (u 21 0)))] → W p l e (jr 4) s m args below meth c H locs 0 0 Q (F0 m 70 ls []) := by
              intro v H locs ls hS9 hd9 hv hh hl
              refine lv_aload_n hx hb d_J_rewrite_70 rfl (lv_at hl 0 rfl) ?_
              refine jv_aload hx hb d_J_rewrite_71 (lv_at hl 5 rfl) ?_
              refine lv_iload_n hx hb d_J_rewrite_73 rfl (lv_at hl 2 rfl) ?_
              refine lv_iconst (v := -1) hx hb d_J_rewrite_74 (by decide) ?_
              refine lv_icmp_ne (tgt := 86) hx hb d_J_rewrite_75 rfl (fun h75 => ?_) (fun h75 => ?_)
              ·
                refine lv_iload_n hx hb d_J_rewrite_86 rfl (lv_at hl 2 rfl) ?_
                refine lv_iload_n hx hb d_J_rewrite_87 rfl (lv_at hl 3 rfl) ?_
                refine jv_aload hx hb d_J_rewrite_88 (lv_at hl 5 rfl) ?_
                refine jgx_E hc hh (jc_se_ex hS h23) 5 (by decide) rfl wf_J_120 d_J_rewrite_90 ?_
                refine lv_iload hx hb d_J_rewrite_93 (lv_at hl 4 rfl) ?_
                refine jx_callV [jv ad 118 (jc_shownEntry u n (u 21 0)), .int url, .int state, jv ad 78 (v 19 (ix (jc_shownEntry u n (u 21 0)))), .int push] [] hc hh (c_putEntry l D aK ad cA v (jc_shownEntry u n (u 21 0)) url state (v 19 (ix (jc_shownEntry u n (u 21 0)))) push hS9 (jc_se_ex hS h23) hd9) wy_J_124 ⟨by decide, rfl, rfl⟩ (by decide) rfl hl.1 rfl (by decide) ⟨Nat.zero_le _, Nat.zero_le _⟩ d_J_rewrite_95 (fun r u9 H locs hp hh _ _ => ?_)
                rw [hp.2] at hh
                refine W.eq (g2 := F0 m 98 ls []) (by first | rfl | (rw [hp.1]; rfl)) ?_
                refine lv_aload_n hx hb d_J_rewrite_98 rfl (lv_at hl 0 rfl) ?_
                refine jg_J hc hh 5 (by decide) rfl wf_J_96 d_J_rewrite_99 ?_
                exact jx_iret (r := ((jc_putEntry v (jc_shownEntry u n (u 21 0)) url state (v 19 (ix (jc_shownEntry u n (u 21 0)))) push) 21 0)) hc hh hQ hlk hr rfl rfl ⟨by rw [hv]; simp [jc_rew, h75], by rw [hv]; simp [jc_rew, h75]⟩ d_J_rewrite_102
              refine jv_aload hx hb d_J_rewrite_78 (lv_at hl 5 rfl) ?_
              refine jgx_E hc hh (jc_se_ex hS h23) 3 (by decide) rfl wf_J_103 d_J_rewrite_80 ?_
              refine lv_goto (tgt := 87) hx hb d_J_rewrite_83 rfl ?_
              refine lv_iload_n hx hb d_J_rewrite_87 rfl (lv_at hl 3 rfl) ?_
              refine jv_aload hx hb d_J_rewrite_88 (lv_at hl 5 rfl) ?_
              refine jgx_E hc hh (jc_se_ex hS h23) 5 (by decide) rfl wf_J_120 d_J_rewrite_90 ?_
              refine lv_iload hx hb d_J_rewrite_93 (lv_at hl 4 rfl) ?_
              refine jx_callV [jv ad 118 (jc_shownEntry u n (u 21 0)), .int (v 17 (ix (jc_shownEntry u n (u 21 0)))), .int state, jv ad 78 (v 19 (ix (jc_shownEntry u n (u 21 0)))), .int push] [] hc hh (c_putEntry l D aK ad cA v (jc_shownEntry u n (u 21 0)) (v 17 (ix (jc_shownEntry u n (u 21 0)))) state (v 19 (ix (jc_shownEntry u n (u 21 0)))) push hS9 (jc_se_ex hS h23) hd9) wy_J_124 ⟨by decide, rfl, rfl⟩ (by decide) rfl hl.1 rfl (by decide) ⟨Nat.zero_le _, Nat.zero_le _⟩ d_J_rewrite_95 (fun r u9 H locs hp hh _ _ => ?_)
              rw [hp.2] at hh
              refine W.eq (g2 := F0 m 98 ls []) (by first | rfl | (rw [hp.1]; rfl)) ?_
              refine lv_aload_n hx hb d_J_rewrite_98 rfl (lv_at hl 0 rfl) ?_
              refine jg_J hc hh 5 (by decide) rfl wf_J_96 d_J_rewrite_99 ?_
              exact jx_iret (r := ((jc_putEntry v (jc_shownEntry u n (u 21 0)) (v 17 (ix (jc_shownEntry u n (u 21 0)))) state (v 19 (ix (jc_shownEntry u n (u 21 0)))) push) 21 0)) hc hh hQ hlk hr rfl rfl ⟨by rw [hv]; simp [jc_rew, h75], by rw [hv]; simp [jc_rew, h75]⟩ d_J_rewrite_102
            refine J70 u _ _ _ hS (jc_se_doc hS h23) (by first | (simp [jc_rewrite, jc_rew, h4, h23, h31, h55, h63]; done) | (simp [jc_rewrite, jc_rew, h4, h23, eq_true h31, eq_true h55, eq_true h63]; done)) ?_ ?_
            ·
              exact hh
            exact lv_sub hl [1, 2, 3, 4, 5, 0] rfl
          refine lv_aload_n hx hb d_J_rewrite_66 rfl (lv_at hl 1 rfl) ?_
          refine jx_callV [] [] hc hh (c_dropLaterEntries l D aK ad cA u hS) wy_J_110 ⟨by decide, rfl, rfl⟩ (by decide) rfl hl.1 rfl (by decide) ⟨Nat.zero_le _, Nat.zero_le _⟩ d_J_rewrite_67 (fun r u9 H locs hp hh _ _ => ?_)
          rw [hp.2] at hh
          refine W.eq (g2 := F0 m 70 ls []) (by first | rfl | (rw [hp.1]; rfl)) ?_
          have J70 : ∀ (v : js_S) (H : Heap) (locs : List Loc) (ls : Array Slot), (jc_Sh v) → (∃ i, i < 40 ∧ v 19 (ix (jc_shownEntry u n (u 21 0))) = nI i) → (jc_rewrite u n url state push = (jc_rew v (jc_shownEntry u n (u 21 0)) url state push 21 0, jc_rew v (jc_shownEntry u n (u 21 0)) url state push)) → jx_H D 158 ad (jc_cell ad aK cA v) A s.heap H locs → lv_has ls 6 [(0, .ref (ad 0)), (1, .int n), (2, .int url), (3, .int state), (4, .int push), (5, jv ad 118 (jc_shownEntry u n (u 21 0)))] → W p l e (jr 4) s m args below meth c H locs 0 0 Q (F0 m 70 ls []) := by
            intro v H locs ls hS9 hd9 hv hh hl
            refine lv_aload_n hx hb d_J_rewrite_70 rfl (lv_at hl 0 rfl) ?_
            refine jv_aload hx hb d_J_rewrite_71 (lv_at hl 5 rfl) ?_
            refine lv_iload_n hx hb d_J_rewrite_73 rfl (lv_at hl 2 rfl) ?_
            refine lv_iconst (v := -1) hx hb d_J_rewrite_74 (by decide) ?_
            refine lv_icmp_ne (tgt := 86) hx hb d_J_rewrite_75 rfl (fun h75 => ?_) (fun h75 => ?_)
            ·
              refine lv_iload_n hx hb d_J_rewrite_86 rfl (lv_at hl 2 rfl) ?_
              refine lv_iload_n hx hb d_J_rewrite_87 rfl (lv_at hl 3 rfl) ?_
              refine jv_aload hx hb d_J_rewrite_88 (lv_at hl 5 rfl) ?_
              refine jgx_E hc hh (jc_se_ex hS h23) 5 (by decide) rfl wf_J_120 d_J_rewrite_90 ?_
              refine lv_iload hx hb d_J_rewrite_93 (lv_at hl 4 rfl) ?_
              refine jx_callV [jv ad 118 (jc_shownEntry u n (u 21 0)), .int url, .int state, jv ad 78 (v 19 (ix (jc_shownEntry u n (u 21 0)))), .int push] [] hc hh (c_putEntry l D aK ad cA v (jc_shownEntry u n (u 21 0)) url state (v 19 (ix (jc_shownEntry u n (u 21 0)))) push hS9 (jc_se_ex hS h23) hd9) wy_J_124 ⟨by decide, rfl, rfl⟩ (by decide) rfl hl.1 rfl (by decide) ⟨Nat.zero_le _, Nat.zero_le _⟩ d_J_rewrite_95 (fun r u9 H locs hp hh _ _ => ?_)
              rw [hp.2] at hh
              refine W.eq (g2 := F0 m 98 ls []) (by first | rfl | (rw [hp.1]; rfl)) ?_
              refine lv_aload_n hx hb d_J_rewrite_98 rfl (lv_at hl 0 rfl) ?_
              refine jg_J hc hh 5 (by decide) rfl wf_J_96 d_J_rewrite_99 ?_
              exact jx_iret (r := ((jc_putEntry v (jc_shownEntry u n (u 21 0)) url state (v 19 (ix (jc_shownEntry u n (u 21 0)))) push) 21 0)) hc hh hQ hlk hr rfl rfl ⟨by rw [hv]; simp [jc_rew, h75], by rw [hv]; simp [jc_rew, h75]⟩ d_J_rewrite_102
            refine jv_aload hx hb d_J_rewrite_78 (lv_at hl 5 rfl) ?_
            refine jgx_E hc hh (jc_se_ex hS h23) 3 (by decide) rfl wf_J_103 d_J_rewrite_80 ?_
            refine lv_goto (tgt := 87) hx hb d_J_rewrite_83 rfl ?_
            refine lv_iload_n hx hb d_J_rewrite_87 rfl (lv_at hl 3 rfl) ?_
            refine jv_aload hx hb d_J_rewrite_88 (lv_at hl 5 rfl) ?_
            refine jgx_E hc hh (jc_se_ex hS h23) 5 (by decide) rfl wf_J_120 d_J_rewrite_90 ?_
            refine lv_iload hx hb d_J_rewrite_93 (lv_at hl 4 rfl) ?_
            refine jx_callV [jv ad 118 (jc_shownEntry u n (u 21 0)), .int (v 17 (ix (jc_shownEntry u n (u 21 0)))), .int state, jv ad 78 (v 19 (ix (jc_shownEntry u n (u 21 0)))), .int push] [] hc hh (c_putEntry l D aK ad cA v (jc_shownEntry u n (u 21 0)) (v 17 (ix (jc_shownEntry u n (u 21 0)))) state (v 19 (ix (jc_shownEntry u n (u 21 0)))) push hS9 (jc_se_ex hS h23) hd9) wy_J_124 ⟨by decide, rfl, rfl⟩ (by decide) rfl hl.1 rfl (by decide) ⟨Nat.zero_le _, Nat.zero_le _⟩ d_J_rewrite_95 (fun r u9 H locs hp hh _ _ => ?_)
            rw [hp.2] at hh
            refine W.eq (g2 := F0 m 98 ls []) (by first | rfl | (rw [hp.1]; rfl)) ?_
            refine lv_aload_n hx hb d_J_rewrite_98 rfl (lv_at hl 0 rfl) ?_
            refine jg_J hc hh 5 (by decide) rfl wf_J_96 d_J_rewrite_99 ?_
            exact jx_iret (r := ((jc_putEntry v (jc_shownEntry u n (u 21 0)) (v 17 (ix (jc_shownEntry u n (u 21 0)))) state (v 19 (ix (jc_shownEntry u n (u 21 0)))) push) 21 0)) hc hh hQ hlk hr rfl rfl ⟨by rw [hv]; simp [jc_rew, h75], by rw [hv]; simp [jc_rew, h75]⟩ d_J_rewrite_102
          refine J70 (jc_dropLater u) _ _ _ (jc_Sh_later hS) (jc_se_dl hS h23) (by first | (simp [jc_rewrite, jc_rew, h4, h23, h31, h55, h63]; done) | (simp [jc_rewrite, jc_rew, h4, h23, eq_true h31, eq_true h55, h63]; done)) ?_ ?_
          ·
            exact hh
          exact lv_sub hl [1, 2, 3, 4, 5, 0] rfl
        refine lv_bipush (v := -5) hx hb d_J_rewrite_58 (by decide) ?_
        exact jx_iret (r := (-5)) hc hh hQ hlk hr rfl rfl ⟨by first | (simp [jc_rewrite, jc_rew, h4, h23, h31, h55]; done) | (simp [jc_rewrite, jc_rew, h4, h23, eq_true h31, h55]; done), by first | (simp [jc_rewrite, jc_rew, h4, h23, h31, h55]; done) | (simp [jc_rewrite, jc_rew, h4, h23, eq_true h31, h55]; done)⟩ d_J_rewrite_60
      refine jv_aload hx hb d_J_rewrite_34 (lv_at hl 0 rfl) ?_
      refine jgx_E hc hh (jc_se_ex hS h23) 3 (by decide) rfl wf_J_103 d_J_rewrite_36 ?_
      refine lv_iload_n hx hb d_J_rewrite_39 rfl (lv_at hl 3 rfl) ?_
      refine jx_callS [.int (u 17 (ix (jc_shownEntry u n (u 21 0)))), .int url] [] hc hh (c_mayRewrite l D aK ad cA u (u 17 (ix (jc_shownEntry u n (u 21 0)))) url) wy_J_139 (by decide) rfl hl.1 rfl (by decide) ⟨Nat.zero_le _, Nat.zero_le _⟩ d_J_rewrite_40 (fun r u9 H locs hp hh _ _ => ?_)
      rw [hp.2] at hh
      refine W.eq (g2 := F0 m 43 ls [.int (jc_mayR (u 17 (ix (jc_shownEntry u n (u 21 0)))) url)]) (by first | rfl | (rw [hp.1]; rfl)) ?_
      refine lv_if_ne (tgt := 49) hx hb d_J_rewrite_43 rfl (fun h43 => ?_) (fun h43 => ?_)
      ·
        refine lv_aload_n hx hb d_J_rewrite_49 rfl (lv_at hl 1 rfl) ?_
        refine lv_iload hx hb d_J_rewrite_50 (lv_at hl 5 rfl) ?_
        refine jx_callV [.int push] [] hc hh (c_isFull l D aK ad cA u push) wy_J_106 ⟨by decide, rfl, rfl⟩ (by decide) rfl hl.1 rfl (by decide) ⟨Nat.zero_le _, Nat.zero_le _⟩ d_J_rewrite_52 (fun r u9 H locs hp hh _ _ => ?_)
        rw [hp.2] at hh
        refine W.eq (g2 := F0 m 55 ls [.int (jc_full u push)]) (by first | rfl | (rw [hp.1]; rfl)) ?_
        refine lv_if_eq (tgt := 61) hx hb d_J_rewrite_55 rfl (fun h55 => ?_) (fun h55 => ?_)
        ·
          refine lv_iload hx hb d_J_rewrite_61 (lv_at hl 5 rfl) ?_
          refine lv_if_eq (tgt := 70) hx hb d_J_rewrite_63 rfl (fun h63 => ?_) (fun h63 => ?_)
          ·
            have J70 : ∀ (v : js_S) (H : Heap) (locs : List Loc) (ls : Array Slot), (jc_Sh v) → (∃ i, i < 40 ∧ v 19 (ix (jc_shownEntry u n (u 21 0))) = nI i) → (jc_rewrite u n url state push = (jc_rew v (jc_shownEntry u n (u 21 0)) url state push 21 0, jc_rew v (jc_shownEntry u n (u 21 0)) url state push)) → jx_H D 158 ad (jc_cell ad aK cA v) A s.heap H locs → lv_has ls 6 [(0, .ref (ad 0)), (1, .int n), (2, .int url), (3, .int state), (4, .int push), (5, jv ad 118 (jc_shownEntry u n (u 21 0)))] → W p l e (jr 4) s m args below meth c H locs 0 0 Q (F0 m 70 ls []) := by
              intro v H locs ls hS9 hd9 hv hh hl
              refine lv_aload_n hx hb d_J_rewrite_70 rfl (lv_at hl 0 rfl) ?_
              refine jv_aload hx hb d_J_rewrite_71 (lv_at hl 5 rfl) ?_
              refine lv_iload_n hx hb d_J_rewrite_73 rfl (lv_at hl 2 rfl) ?_
              refine lv_iconst (v := -1) hx hb d_J_rewrite_74 (by decide) ?_
              refine lv_icmp_ne (tgt := 86) hx hb d_J_rewrite_75 rfl (fun h75 => ?_) (fun h75 => ?_)
              ·
                refine lv_iload_n hx hb d_J_rewrite_86 rfl (lv_at hl 2 rfl) ?_
                refine lv_iload_n hx hb d_J_rewrite_87 rfl (lv_at hl 3 rfl) ?_
                refine jv_aload hx hb d_J_rewrite_88 (lv_at hl 5 rfl) ?_
                refine jgx_E hc hh (jc_se_ex hS h23) 5 (by decide) rfl wf_J_120 d_J_rewrite_90 ?_
                refine lv_iload hx hb d_J_rewrite_93 (lv_at hl 4 rfl) ?_
                refine jx_callV [jv ad 118 (jc_shownEntry u n (u 21 0)), .int url, .int state, jv ad 78 (v 19 (ix (jc_shownEntry u n (u 21 0)))), .int push] [] hc hh (c_putEntry l D aK ad cA v (jc_shownEntry u n (u 21 0)) url state (v 19 (ix (jc_shownEntry u n (u 21 0)))) push hS9 (jc_se_ex hS h23) hd9) wy_J_124 ⟨by decide, rfl, rfl⟩ (by decide) rfl hl.1 rfl (by decide) ⟨Nat.zero_le _, Nat.zero_le _⟩ d_J_rewrite_95 (fun r u9 H locs hp hh _ _ => ?_)
                rw [hp.2] at hh
                refine W.eq (g2 := F0 m 98 ls []) (by first | rfl | (rw [hp.1]; rfl)) ?_
                refine lv_aload_n hx hb d_J_rewrite_98 rfl (lv_at hl 0 rfl) ?_
                refine jg_J hc hh 5 (by decide) rfl wf_J_96 d_J_rewrite_99 ?_
                exact jx_iret (r := ((jc_putEntry v (jc_shownEntry u n (u 21 0)) url state (v 19 (ix (jc_shownEntry u n (u 21 0)))) push) 21 0)) hc hh hQ hlk hr rfl rfl ⟨by rw [hv]; simp [jc_rew, h75], by rw [hv]; simp [jc_rew, h75]⟩ d_J_rewrite_102
              refine jv_aload hx hb d_J_rewrite_78 (lv_at hl 5 rfl) ?_
              refine jgx_E hc hh (jc_se_ex hS h23) 3 (by decide) rfl wf_J_103 d_J_rewrite_80 ?_
              refine lv_goto (tgt := 87) hx hb d_J_rewrite_83 rfl ?_
              refine lv_iload_n hx hb d_J_rewrite_87 rfl (lv_at hl 3 rfl) ?_
              refine jv_aload hx hb d_J_rewrite_88 (lv_at hl 5 rfl) ?_
              refine jgx_E hc hh (jc_se_ex hS h23) 5 (by decide) rfl wf_J_120 d_J_rewrite_90 ?_
              refine lv_iload hx hb d_J_rewrite_93 (lv_at hl 4 rfl) ?_
              refine jx_callV [jv ad 118 (jc_shownEntry u n (u 21 0)), .int (v 17 (ix (jc_shownEntry u n (u 21 0)))), .int state, jv ad 78 (v 19 (ix (jc_shownEntry u n (u 21 0)))), .int push] [] hc hh (c_putEntry l D aK ad cA v (jc_shownEntry u n (u 21 0)) (v 17 (ix (jc_shownEntry u n (u 21 0)))) state (v 19 (ix (jc_shownEntry u n (u 21 0)))) push hS9 (jc_se_ex hS h23) hd9) wy_J_124 ⟨by decide, rfl, rfl⟩ (by decide) rfl hl.1 rfl (by decide) ⟨Nat.zero_le _, Nat.zero_le _⟩ d_J_rewrite_95 (fun r u9 H locs hp hh _ _ => ?_)
              rw [hp.2] at hh
              refine W.eq (g2 := F0 m 98 ls []) (by first | rfl | (rw [hp.1]; rfl)) ?_
              refine lv_aload_n hx hb d_J_rewrite_98 rfl (lv_at hl 0 rfl) ?_
              refine jg_J hc hh 5 (by decide) rfl wf_J_96 d_J_rewrite_99 ?_
              exact jx_iret (r := ((jc_putEntry v (jc_shownEntry u n (u 21 0)) (v 17 (ix (jc_shownEntry u n (u 21 0)))) state (v 19 (ix (jc_shownEntry u n (u 21 0)))) push) 21 0)) hc hh hQ hlk hr rfl rfl ⟨by rw [hv]; simp [jc_rew, h75], by rw [hv]; simp [jc_rew, h75]⟩ d_J_rewrite_102
            refine J70 u _ _ _ hS (jc_se_doc hS h23) (by first | (simp [jc_rewrite, jc_rew, h4, h23, h31, h43, h55, h63]; done) | (simp [jc_rewrite, jc_rew, h4, h23, h31, h43, eq_true h55, eq_true h63]; done)) ?_ ?_
            ·
              exact hh
            exact lv_sub hl [1, 2, 3, 4, 5, 0] rfl
          refine lv_aload_n hx hb d_J_rewrite_66 rfl (lv_at hl 1 rfl) ?_
          refine jx_callV [] [] hc hh (c_dropLaterEntries l D aK ad cA u hS) wy_J_110 ⟨by decide, rfl, rfl⟩ (by decide) rfl hl.1 rfl (by decide) ⟨Nat.zero_le _, Nat.zero_le _⟩ d_J_rewrite_67 (fun r u9 H locs hp hh _ _ => ?_)
          rw [hp.2] at hh
          refine W.eq (g2 := F0 m 70 ls []) (by first | rfl | (rw [hp.1]; rfl)) ?_
          have J70 : ∀ (v : js_S) (H : Heap) (locs : List Loc) (ls : Array Slot), (jc_Sh v) → (∃ i, i < 40 ∧ v 19 (ix (jc_shownEntry u n (u 21 0))) = nI i) → (jc_rewrite u n url state push = (jc_rew v (jc_shownEntry u n (u 21 0)) url state push 21 0, jc_rew v (jc_shownEntry u n (u 21 0)) url state push)) → jx_H D 158 ad (jc_cell ad aK cA v) A s.heap H locs → lv_has ls 6 [(0, .ref (ad 0)), (1, .int n), (2, .int url), (3, .int state), (4, .int push), (5, jv ad 118 (jc_shownEntry u n (u 21 0)))] → W p l e (jr 4) s m args below meth c H locs 0 0 Q (F0 m 70 ls []) := by
            intro v H locs ls hS9 hd9 hv hh hl
            refine lv_aload_n hx hb d_J_rewrite_70 rfl (lv_at hl 0 rfl) ?_
            refine jv_aload hx hb d_J_rewrite_71 (lv_at hl 5 rfl) ?_
            refine lv_iload_n hx hb d_J_rewrite_73 rfl (lv_at hl 2 rfl) ?_
            refine lv_iconst (v := -1) hx hb d_J_rewrite_74 (by decide) ?_
            refine lv_icmp_ne (tgt := 86) hx hb d_J_rewrite_75 rfl (fun h75 => ?_) (fun h75 => ?_)
            ·
              refine lv_iload_n hx hb d_J_rewrite_86 rfl (lv_at hl 2 rfl) ?_
              refine lv_iload_n hx hb d_J_rewrite_87 rfl (lv_at hl 3 rfl) ?_
              refine jv_aload hx hb d_J_rewrite_88 (lv_at hl 5 rfl) ?_
              refine jgx_E hc hh (jc_se_ex hS h23) 5 (by decide) rfl wf_J_120 d_J_rewrite_90 ?_
              refine lv_iload hx hb d_J_rewrite_93 (lv_at hl 4 rfl) ?_
              refine jx_callV [jv ad 118 (jc_shownEntry u n (u 21 0)), .int url, .int state, jv ad 78 (v 19 (ix (jc_shownEntry u n (u 21 0)))), .int push] [] hc hh (c_putEntry l D aK ad cA v (jc_shownEntry u n (u 21 0)) url state (v 19 (ix (jc_shownEntry u n (u 21 0)))) push hS9 (jc_se_ex hS h23) hd9) wy_J_124 ⟨by decide, rfl, rfl⟩ (by decide) rfl hl.1 rfl (by decide) ⟨Nat.zero_le _, Nat.zero_le _⟩ d_J_rewrite_95 (fun r u9 H locs hp hh _ _ => ?_)
              rw [hp.2] at hh
              refine W.eq (g2 := F0 m 98 ls []) (by first | rfl | (rw [hp.1]; rfl)) ?_
              refine lv_aload_n hx hb d_J_rewrite_98 rfl (lv_at hl 0 rfl) ?_
              refine jg_J hc hh 5 (by decide) rfl wf_J_96 d_J_rewrite_99 ?_
              exact jx_iret (r := ((jc_putEntry v (jc_shownEntry u n (u 21 0)) url state (v 19 (ix (jc_shownEntry u n (u 21 0)))) push) 21 0)) hc hh hQ hlk hr rfl rfl ⟨by rw [hv]; simp [jc_rew, h75], by rw [hv]; simp [jc_rew, h75]⟩ d_J_rewrite_102
            refine jv_aload hx hb d_J_rewrite_78 (lv_at hl 5 rfl) ?_
            refine jgx_E hc hh (jc_se_ex hS h23) 3 (by decide) rfl wf_J_103 d_J_rewrite_80 ?_
            refine lv_goto (tgt := 87) hx hb d_J_rewrite_83 rfl ?_
            refine lv_iload_n hx hb d_J_rewrite_87 rfl (lv_at hl 3 rfl) ?_
            refine jv_aload hx hb d_J_rewrite_88 (lv_at hl 5 rfl) ?_
            refine jgx_E hc hh (jc_se_ex hS h23) 5 (by decide) rfl wf_J_120 d_J_rewrite_90 ?_
            refine lv_iload hx hb d_J_rewrite_93 (lv_at hl 4 rfl) ?_
            refine jx_callV [jv ad 118 (jc_shownEntry u n (u 21 0)), .int (v 17 (ix (jc_shownEntry u n (u 21 0)))), .int state, jv ad 78 (v 19 (ix (jc_shownEntry u n (u 21 0)))), .int push] [] hc hh (c_putEntry l D aK ad cA v (jc_shownEntry u n (u 21 0)) (v 17 (ix (jc_shownEntry u n (u 21 0)))) state (v 19 (ix (jc_shownEntry u n (u 21 0)))) push hS9 (jc_se_ex hS h23) hd9) wy_J_124 ⟨by decide, rfl, rfl⟩ (by decide) rfl hl.1 rfl (by decide) ⟨Nat.zero_le _, Nat.zero_le _⟩ d_J_rewrite_95 (fun r u9 H locs hp hh _ _ => ?_)
            rw [hp.2] at hh
            refine W.eq (g2 := F0 m 98 ls []) (by first | rfl | (rw [hp.1]; rfl)) ?_
            refine lv_aload_n hx hb d_J_rewrite_98 rfl (lv_at hl 0 rfl) ?_
            refine jg_J hc hh 5 (by decide) rfl wf_J_96 d_J_rewrite_99 ?_
            exact jx_iret (r := ((jc_putEntry v (jc_shownEntry u n (u 21 0)) (v 17 (ix (jc_shownEntry u n (u 21 0)))) state (v 19 (ix (jc_shownEntry u n (u 21 0)))) push) 21 0)) hc hh hQ hlk hr rfl rfl ⟨by rw [hv]; simp [jc_rew, h75], by rw [hv]; simp [jc_rew, h75]⟩ d_J_rewrite_102
          refine J70 (jc_dropLater u) _ _ _ (jc_Sh_later hS) (jc_se_dl hS h23) (by first | (simp [jc_rewrite, jc_rew, h4, h23, h31, h43, h55, h63]; done) | (simp [jc_rewrite, jc_rew, h4, h23, h31, h43, eq_true h55, h63]; done)) ?_ ?_
          ·
            exact hh
          exact lv_sub hl [1, 2, 3, 4, 5, 0] rfl
        refine lv_bipush (v := -5) hx hb d_J_rewrite_58 (by decide) ?_
        exact jx_iret (r := (-5)) hc hh hQ hlk hr rfl rfl ⟨by simp [jc_rewrite, jc_rew, h4, h23, h31, h43, h55], by simp [jc_rewrite, jc_rew, h4, h23, h31, h43, h55]⟩ d_J_rewrite_60
      refine lv_bipush (v := -6) hx hb d_J_rewrite_46 (by decide) ?_
      exact jx_iret (r := (-6)) hc hh hQ hlk hr rfl rfl ⟨by first | (simp [jc_rewrite, jc_rew, h4, h23, h31, h43]; done) | (simp [jc_rewrite, jc_rew, h4, h23, h31, eq_true h43]; done), by first | (simp [jc_rewrite, jc_rew, h4, h23, h31, h43]; done) | (simp [jc_rewrite, jc_rew, h4, h23, h31, eq_true h43]; done)⟩ d_J_rewrite_48
    refine lv_bipush (v := -4) hx hb d_J_rewrite_26 (by decide) ?_
    exact jx_iret (r := (-4)) hc hh hQ hlk hr rfl rfl ⟨by first | (simp [jc_rewrite, jc_rew, h4, h23]; done) | (simp [jc_rewrite, jc_rew, h4, eq_true h23]; done), by first | (simp [jc_rewrite, jc_rew, h4, h23]; done) | (simp [jc_rewrite, jc_rew, h4, eq_true h23]; done)⟩ d_J_rewrite_28
  refine lv_bipush (v := -3) hx hb d_J_rewrite_7 (by decide) ?_
  exact jx_iret (r := (-3)) hc hh hQ hlk hr rfl rfl ⟨by first | (simp [jc_rewrite, jc_rew, h4]; done) | (simp [jc_rewrite, jc_rew, eq_true h4]; done), by first | (simp [jc_rewrite, jc_rew, h4]; done) | (simp [jc_rewrite, jc_rew, eq_true h4]; done)⟩ d_J_rewrite_9
