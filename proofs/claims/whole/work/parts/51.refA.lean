set_option maxHeartbeats 4000000 in
set_option maxRecDepth 100000 in
theorem m_between (l : Launch) (D : va_G) (aK ad : Nat → Nat) (cA : Nat → ClassId) (u : js_S) (v : Int32) (lo : Int32) (hi9 : Int32) : jx_M l y_M_between b_M_between 3 (some .boolean) (jr 1) D (jc_tys cA) aK 22 ad (jm_cell ad cA) [.int v, .int lo, .int hi9] u (fun r : Int32 => some (.int r)) (fun r u' => r = jm_btw v lo hi9 ∧ u' = u) := by
  refine jx_enter "JointHistoryModel" (by decide) rfl (by simp [lg_sl, vc_int, vc_ref, vc_long, jv_cat]) ?_
  intro p e s m args below meth c A Q H locs ls hQ hc hh hr hlk hl
  have hx := hc.1
  have hb := hc.2.1
  have hl : lv_has ls 3 [(0, .int v), (1, .int lo), (2, .int hi9)] := by simpa [lv_args, vc_int, vc_ref, vc_long, jv_cat] using hl
  refine lv_iload_n hx hb d_M_between_0 rfl (lv_at hl 0 rfl) ?_
  refine lv_iload_n hx hb d_M_between_1 rfl (lv_at hl 1 rfl) ?_
  refine lv_icmp_lt (tgt := 14) hx hb d_M_between_2 rfl (fun h2 => ?_) (fun h2 => ?_)
  ·
    refine lv_iconst (v := 0) hx hb d_M_between_14 (by decide) ?_
    exact jx_iret (r := 0) hc hh hQ hlk hr (by decide) rfl ⟨by simp [jm_btw, h2], rfl⟩ d_M_between_15
  refine lv_iload_n hx hb d_M_between_5 rfl (lv_at hl 0 rfl) ?_
  refine lv_iload_n hx hb d_M_between_6 rfl (lv_at hl 2 rfl) ?_
  refine lv_icmp_gt (tgt := 14) hx hb d_M_between_7 rfl (fun h7 => ?_) (fun h7 => ?_)
  ·
    refine lv_iconst (v := 0) hx hb d_M_between_14 (by decide) ?_
    exact jx_iret (r := 0) hc hh hQ hlk hr (by decide) rfl ⟨by simp [jm_btw, h2, h7], rfl⟩ d_M_between_15
  refine lv_iconst (v := 1) hx hb d_M_between_10 (by decide) ?_
  refine lv_goto (tgt := 15) hx hb d_M_between_11 rfl ?_
  exact jx_iret (r := 1) hc hh hQ hlk hr (by decide) rfl ⟨by simp [jm_btw, h2, h7], rfl⟩ d_M_between_15
set_option maxHeartbeats 4000000 in
set_option maxRecDepth 100000 in
theorem m_fragment (l : Launch) (D : va_G) (aK ad : Nat → Nat) (cA : Nat → ClassId) (u : js_S) (x : Int32) : jx_M l y_M_fragment b_M_fragment 1 (some .int) (jr 1) D (jc_tys cA) aK 22 ad (jm_cell ad cA) [.int x] u (fun r : Int32 => some (.int r)) (fun r u' => r = jm_frag x ∧ u' = u) := by
  refine jx_enter "JointHistoryModel" (by decide) rfl (by simp [lg_sl, vc_int, vc_ref, vc_long, jv_cat]) ?_
  intro p e s m args below meth c A Q H locs ls hQ hc hh hr hlk hl
  have hx := hc.1
  have hb := hc.2.1
  have hl : lv_has ls 1 [(0, .int x)] := by simpa [lv_args, vc_int, vc_ref, vc_long, jv_cat] using hl
  refine lv_iload_n hx hb d_M_fragment_0 rfl (lv_at hl 0 rfl) ?_
  refine lv_iconst (v := -1) hx hb d_M_fragment_1 (by decide) ?_
  refine lv_icmp_ne (tgt := 9) hx hb d_M_fragment_2 rfl (fun h2 => ?_) (fun h2 => ?_)
  ·
    refine lv_iload_n hx hb d_M_fragment_9 rfl (lv_at hl 0 rfl) ?_
    refine lv_bipush (v := 8) hx hb d_M_fragment_10 (by decide) ?_
    refine lv_irem hx hb d_M_fragment_12 (by decide) ?_
    exact jx_iret (r := (x - x / 8 * 8)) hc hh hQ hlk hr rfl rfl ⟨by simp [jm_frag, h2], rfl⟩ d_M_fragment_13
  refine lv_iconst (v := 0) hx hb d_M_fragment_5 (by decide) ?_
  refine lv_goto (tgt := 13) hx hb d_M_fragment_6 rfl ?_
  exact jx_iret (r := 0) hc hh hQ hlk hr rfl rfl ⟨by first | (simp [jm_frag, h2]; done) | (simp [jm_frag, eq_true h2]; done), rfl⟩ d_M_fragment_13
set_option maxHeartbeats 4000000 in
set_option maxRecDepth 100000 in
theorem m_freshOrigin (l : Launch) (D : va_G) (aK ad : Nat → Nat) (cA : Nat → ClassId) (u : js_S) : jx_M l y_M_freshOrigin b_M_freshOrigin 1 (some .int) (jr 1) D (jc_tys cA) aK 22 ad (jm_cell ad cA) [.ref (ad 0)] u (fun r : Int32 => some (.int r)) (fun r u' => r = 3 + (u 22 0 + 1) ∧ u' = (js_up u 22 0 (u 22 0 + 1))) := by
  refine jx_enter "JointHistoryModel" (by decide) rfl (by simp [lg_sl, vc_int, vc_ref, vc_long, jv_cat]) ?_
  intro p e s m args below meth c A Q H locs ls hQ hc hh hr hlk hl
  have hx := hc.1
  have hb := hc.2.1
  have hl : lv_has ls 1 [(0, .ref (ad 0))] := by simpa [lv_args, vc_int, vc_ref, vc_long, jv_cat] using hl
  refine lv_aload_n hx hb d_M_freshOrigin_0 rfl (lv_at hl 0 rfl) ?_
  refine lv_dup hx hb d_M_freshOrigin_1 rfl ?_
  refine jg_M hc hh 22 (by decide) rfl wf_M_89 d_M_freshOrigin_2 ?_
  refine lv_iconst (v := 1) hx hb d_M_freshOrigin_5 (by decide) ?_
  refine lv_iadd hx hb d_M_freshOrigin_6 ?_
  refine jpm_22 hc hh wf_M_89 d_M_freshOrigin_7 (fun H locs hh => ?_)
  refine lv_iconst (v := 3) hx hb d_M_freshOrigin_10 (by decide) ?_
  refine lv_aload_n hx hb d_M_freshOrigin_11 rfl (lv_at hl 0 rfl) ?_
  refine jg_M hc hh 22 (by decide) rfl wf_M_89 d_M_freshOrigin_12 ?_
  refine lv_iadd hx hb d_M_freshOrigin_15 ?_
  exact jx_iret (r := (3 + ((js_up u 22 0 ((u 22 0) + 1)) 22 0))) hc hh hQ hlk hr rfl rfl ⟨by simp [js_up], by simp [js_up]⟩ d_M_freshOrigin_16
set_option maxHeartbeats 4000000 in
set_option maxRecDepth 100000 in
theorem m_keep (l : Launch) (D : va_G) (aK ad : Nat → Nat) (cA : Nat → ClassId) (u : js_S) (x : Int32) (q_x : jq 48 x) : jx_M l y_M_keep b_M_keep 2 none (jr 1) D (jc_tys cA) aK 22 ad (jm_cell ad cA) [.ref (ad 0), .int x] u (fun _ : Unit => none) (fun r u' => r = () ∧ u' = (jm_keep u x)) := by
  refine jx_enter "JointHistoryModel" (by decide) rfl (by simp [lg_sl, vc_int, vc_ref, vc_long, jv_cat]) ?_
  intro p e s m args below meth c A Q H locs ls hQ hc hh hr hlk hl
  have hx := hc.1
  have hb := hc.2.1
  have hl : lv_has ls 2 [(0, .ref (ad 0)), (1, .int x)] := by simpa [lv_args, vc_int, vc_ref, vc_long, jv_cat] using hl
  refine lv_iload_n hx hb d_M_keep_0 rfl (lv_at hl 1 rfl) ?_
  refine lv_if_lt (tgt := 11) hx hb d_M_keep_1 rfl (fun h1 => ?_) (fun h1 => ?_)
  ·
    exact jx_vret (r := ()) hc hh hQ hlk hr rfl ⟨rfl, by simp [jm_keep, h1]⟩ d_M_keep_11
  refine lv_aload_n hx hb d_M_keep_4 rfl (lv_at hl 0 rfl) ?_
  refine jg_M hc hh 20 (by decide) rfl wf_M_71 d_M_keep_5 ?_
  refine lv_iload_n hx hb d_M_keep_8 rfl (lv_at hl 1 rfl) ?_
  refine lv_iconst (v := 1) hx hb d_M_keep_9 (by decide) ?_
  refine jm_zst hc hh 20 (by decide) (by decide) (jq_nn q_x h1) (by decide) d_M_keep_10 (fun H locs hh => ?_)
  exact jx_vret (r := ()) hc hh hQ hlk hr rfl ⟨rfl, by simp [jm_keep, h1]⟩ d_M_keep_11
set_option maxHeartbeats 4000000 in
set_option maxRecDepth 100000 in
theorem m_write (l : Launch) (D : va_G) (aK ad : Nat → Nat) (cA : Nat → ClassId) (u : js_S) (nav : Int32) (st : Int32) (url : Int32) (d : Int32) : jx_M l y_M_write b_M_write 6 (some .int) (jr 1) D (jc_tys cA) aK 22 ad (jm_cell ad cA) [.ref (ad 0), .int nav, .int st, .int url, .int d] u (fun r : Int32 => some (.int r)) (fun r u' => r = nI (js_free u 9 47 0) ∧ u' = (jm_write u nav st url d)) := by
  refine jx_enter "JointHistoryModel" (by decide) rfl (by simp [lg_sl, vc_int, vc_ref, vc_long, jv_cat]) ?_
  intro p e s m args below meth c A Q H locs ls hQ hc hh hr hlk hl
  have hx := hc.1
  have hb := hc.2.1
  have hl : lv_has ls 6 [(0, .ref (ad 0)), (1, .int nav), (2, .int st), (3, .int url), (4, .int d)] := by simpa [lv_args, vc_int, vc_ref, vc_long, jv_cat] using hl
  refine lv_iconst (v := 0) hx hb d_M_write_0 (by decide) ?_
  refine lv_istore (i := 5) (lv' := [(5, .int 0), (0, .ref (ad 0)), (1, .int nav), (2, .int st), (3, .int url), (4, .int d)]) hx hb d_M_write_1 hl (by decide) rfl (fun ls hl => ?_)
  have L3 : ∀ (n : Nat) (i : Nat) (ls : Array Slot), i + n = 47 → (js_free u 9 n i = js_free u 9 47 0) → lv_has ls 6 [(0, .ref (ad 0)), (1, .int nav), (2, .int st), (3, .int url), (4, .int d), (5, .int (nI i))] → W p l e (jr 1) s m args below meth c H locs 0 0 Q (F0 m 3 ls []) := by
    intro n
    induction n with
    | zero =>
      intro i ls hm hf hl
      have hi : i < 48 := by omega
      refine lv_iload hx hb d_M_write_3 (lv_at hl 5 rfl) ?_
      refine lv_bipush (v := 47) hx hb d_M_write_5 (by decide) ?_
      refine lv_icmp_ge (tgt := 26) hx hb d_M_write_7 rfl (fun h7 => ?_) (fun hq => absurd (nI_le (show 47 ≤ i by omega) (show i < 2 ^ 31 by omega)) hq)
      have J26 : ∀ (i : Nat) (ls : Array Slot), (i < 48) → (i = js_free u 9 47 0) → lv_has ls 6 [(0, .ref (ad 0)), (1, .int nav), (2, .int st), (3, .int url), (4, .int d), (5, .int (nI i))] → W p l e (jr 1) s m args below meth c H locs 0 0 Q (F0 m 26 ls []) := by
        intro i ls hi hf hl
        refine lv_aload_n hx hb d_M_write_26 rfl (lv_at hl 0 rfl) ?_
        refine jg_M hc hh 9 (by decide) rfl wf_M_38 d_M_write_27 ?_
        refine lv_iload hx hb d_M_write_30 (lv_at hl 5 rfl) ?_
        refine lv_iconst (v := 1) hx hb d_M_write_32 (by decide) ?_
        refine jmi_zst hc hh 9 (by decide) (by decide) hi (by decide) d_M_write_33 (fun H locs hh => ?_)
        refine lv_aload_n hx hb d_M_write_34 rfl (lv_at hl 0 rfl) ?_
        refine jg_M hc hh 4 (by decide) rfl wf_M_23 d_M_write_35 ?_
        refine lv_iload hx hb d_M_write_38 (lv_at hl 5 rfl) ?_
        refine lv_iload_n hx hb d_M_write_40 rfl (lv_at hl 1 rfl) ?_
        refine jmi_ist hc hh 4 (by decide) (by decide) hi d_M_write_41 (fun H locs hh => ?_)
        refine lv_aload_n hx hb d_M_write_42 rfl (lv_at hl 0 rfl) ?_
        refine jg_M hc hh 5 (by decide) rfl wf_M_26 d_M_write_43 ?_
        refine lv_iload hx hb d_M_write_46 (lv_at hl 5 rfl) ?_
        refine lv_iload_n hx hb d_M_write_48 rfl (lv_at hl 2 rfl) ?_
        refine jmi_ist hc hh 5 (by decide) (by decide) hi d_M_write_49 (fun H locs hh => ?_)
        refine lv_aload_n hx hb d_M_write_50 rfl (lv_at hl 0 rfl) ?_
        refine jg_M hc hh 6 (by decide) rfl wf_M_29 d_M_write_51 ?_
        refine lv_iload hx hb d_M_write_54 (lv_at hl 5 rfl) ?_
        refine lv_iload_n hx hb d_M_write_56 rfl (lv_at hl 3 rfl) ?_
        refine jmi_ist hc hh 6 (by decide) (by decide) hi d_M_write_57 (fun H locs hh => ?_)
        refine lv_aload_n hx hb d_M_write_58 rfl (lv_at hl 0 rfl) ?_
        refine jg_M hc hh 7 (by decide) rfl wf_M_32 d_M_write_59 ?_
        refine lv_iload hx hb d_M_write_62 (lv_at hl 5 rfl) ?_
        refine lv_iconst (v := 0) hx hb d_M_write_64 (by decide) ?_
        refine jmi_ist hc hh 7 (by decide) (by decide) hi d_M_write_65 (fun H locs hh => ?_)
        refine lv_aload_n hx hb d_M_write_66 rfl (lv_at hl 0 rfl) ?_
        refine jg_M hc hh 8 (by decide) rfl wf_M_35 d_M_write_67 ?_
        refine lv_iload hx hb d_M_write_70 (lv_at hl 5 rfl) ?_
        refine lv_iload hx hb d_M_write_72 (lv_at hl 4 rfl) ?_
        refine jmi_ist hc hh 8 (by decide) (by decide) hi d_M_write_74 (fun H locs hh => ?_)
        refine lv_iload hx hb d_M_write_75 (lv_at hl 5 rfl) ?_
        exact jx_iret (r := nI i) hc hh hQ hlk hr rfl rfl ⟨by rw [← hf], by rw [hf]; rfl⟩ d_M_write_77
      refine J26 i _ hi (by rw [← hf]; first | rfl | simp [js_free, h17]) ?_
      exact lv_sub hl [0, 1, 2, 3, 4, 5] rfl
    | succ n ih =>
      intro i ls hm hf hl
      have hi : i < 48 := by omega
      have hi9 : i < 47 := by omega
      refine lv_iload hx hb d_M_write_3 (lv_at hl 5 rfl) ?_
      refine lv_bipush (v := 47) hx hb d_M_write_5 (by decide) ?_
      refine lv_icmp_ge (tgt := 26) hx hb d_M_write_7 rfl (fun hq => absurd hq (nI_ge hi9 (by decide))) (fun h7 => ?_)
      refine lv_aload_n hx hb d_M_write_10 rfl (lv_at hl 0 rfl) ?_
      refine jg_M hc hh 9 (by decide) rfl wf_M_38 d_M_write_11 ?_
      refine lv_iload hx hb d_M_write_14 (lv_at hl 5 rfl) ?_
      refine jmi_zld hc hh 9 (by decide) (by decide) hi d_M_write_16 ?_
      refine lv_if_eq (tgt := 26) hx hb d_M_write_17 rfl (fun h17 => ?_) (fun h17 => ?_)
      ·
        have J26 : ∀ (i : Nat) (ls : Array Slot), (i < 48) → (i = js_free u 9 47 0) → lv_has ls 6 [(0, .ref (ad 0)), (1, .int nav), (2, .int st), (3, .int url), (4, .int d), (5, .int (nI i))] → W p l e (jr 1) s m args below meth c H locs 0 0 Q (F0 m 26 ls []) := by
          intro i ls hi hf hl
          refine lv_aload_n hx hb d_M_write_26 rfl (lv_at hl 0 rfl) ?_
          refine jg_M hc hh 9 (by decide) rfl wf_M_38 d_M_write_27 ?_
          refine lv_iload hx hb d_M_write_30 (lv_at hl 5 rfl) ?_
          refine lv_iconst (v := 1) hx hb d_M_write_32 (by decide) ?_
          refine jmi_zst hc hh 9 (by decide) (by decide) hi (by decide) d_M_write_33 (fun H locs hh => ?_)
          refine lv_aload_n hx hb d_M_write_34 rfl (lv_at hl 0 rfl) ?_
          refine jg_M hc hh 4 (by decide) rfl wf_M_23 d_M_write_35 ?_
          refine lv_iload hx hb d_M_write_38 (lv_at hl 5 rfl) ?_
          refine lv_iload_n hx hb d_M_write_40 rfl (lv_at hl 1 rfl) ?_
          refine jmi_ist hc hh 4 (by decide) (by decide) hi d_M_write_41 (fun H locs hh => ?_)
          refine lv_aload_n hx hb d_M_write_42 rfl (lv_at hl 0 rfl) ?_
          refine jg_M hc hh 5 (by decide) rfl wf_M_26 d_M_write_43 ?_
          refine lv_iload hx hb d_M_write_46 (lv_at hl 5 rfl) ?_
          refine lv_iload_n hx hb d_M_write_48 rfl (lv_at hl 2 rfl) ?_
          refine jmi_ist hc hh 5 (by decide) (by decide) hi d_M_write_49 (fun H locs hh => ?_)
          refine lv_aload_n hx hb d_M_write_50 rfl (lv_at hl 0 rfl) ?_
          refine jg_M hc hh 6 (by decide) rfl wf_M_29 d_M_write_51 ?_
          refine lv_iload hx hb d_M_write_54 (lv_at hl 5 rfl) ?_
          refine lv_iload_n hx hb d_M_write_56 rfl (lv_at hl 3 rfl) ?_
          refine jmi_ist hc hh 6 (by decide) (by decide) hi d_M_write_57 (fun H locs hh => ?_)
          refine lv_aload_n hx hb d_M_write_58 rfl (lv_at hl 0 rfl) ?_
          refine jg_M hc hh 7 (by decide) rfl wf_M_32 d_M_write_59 ?_
          refine lv_iload hx hb d_M_write_62 (lv_at hl 5 rfl) ?_
          refine lv_iconst (v := 0) hx hb d_M_write_64 (by decide) ?_
          refine jmi_ist hc hh 7 (by decide) (by decide) hi d_M_write_65 (fun H locs hh => ?_)
          refine lv_aload_n hx hb d_M_write_66 rfl (lv_at hl 0 rfl) ?_
          refine jg_M hc hh 8 (by decide) rfl wf_M_35 d_M_write_67 ?_
          refine lv_iload hx hb d_M_write_70 (lv_at hl 5 rfl) ?_
          refine lv_iload hx hb d_M_write_72 (lv_at hl 4 rfl) ?_
          refine jmi_ist hc hh 8 (by decide) (by decide) hi d_M_write_74 (fun H locs hh => ?_)
          refine lv_iload hx hb d_M_write_75 (lv_at hl 5 rfl) ?_
          exact jx_iret (r := nI i) hc hh hQ hlk hr rfl rfl ⟨by rw [← hf], by rw [hf]; rfl⟩ d_M_write_77
        refine J26 i _ hi (by rw [← hf]; first | rfl | simp [js_free, h17]) ?_
        exact lv_sub hl [0, 1, 2, 3, 4, 5] rfl
      refine lv_iinc (k := 5) (v := nI (i + 1)) (lv' := [(5, .int (nI (i + 1))), (0, .ref (ad 0)), (1, .int nav), (2, .int st), (3, .int url), (4, .int d)]) hx hb d_M_write_20 hl rfl (nI_1 i) (by decide) rfl (fun ls hl => ?_)
      refine lv_goto (tgt := 3) hx hb d_M_write_23 rfl ?_
      refine ih (i + 1) _ (by omega) (by rw [← hf]; simp [js_free, h17]) ?_
      exact lv_sub hl [1, 2, 3, 4, 5, 0] rfl
  have e1 : nI 0 = 0 := rfl
  refine L3 47 0 _ (by omega) rfl ?_
  try rw [e1]
  exact lv_sub hl [1, 2, 3, 4, 5, 0] rfl
set_option maxHeartbeats 4000000 in
set_option maxRecDepth 100000 in
theorem m_paperOf (l : Launch) (D : va_G) (aK ad : Nat → Nat) (cA : Nat → ClassId) (u : js_S) (nav : Int32) : jx_M l y_M_paperOf b_M_paperOf 3 (some .int) (jr 1) D (jc_tys cA) aK 22 ad (jm_cell ad cA) [.ref (ad 0), .int nav] u (fun r : Int32 => some (.int r)) (fun r u' => r = jm_po u nav 48 0 ∧ u' = u) := by
  refine jx_enter "JointHistoryModel" (by decide) rfl (by simp [lg_sl, vc_int, vc_ref, vc_long, jv_cat]) ?_
  intro p e s m args below meth c A Q H locs ls hQ hc hh hr hlk hl
  have hx := hc.1
  have hb := hc.2.1
  have hl : lv_has ls 3 [(0, .ref (ad 0)), (1, .int nav)] := by simpa [lv_args, vc_int, vc_ref, vc_long, jv_cat] using hl
  refine lv_iconst (v := 0) hx hb d_M_paperOf_0 (by decide) ?_
  refine lv_istore_n (i := 2) (lv' := [(2, .int 0), (0, .ref (ad 0)), (1, .int nav)]) hx hb d_M_paperOf_1 rfl hl (by decide) rfl (fun ls hl => ?_)
  have L2 : ∀ (n : Nat) (i : Nat) (ls : Array Slot), i + n = 48 → (jm_po u nav n i = jm_po u nav 48 0) → lv_has ls 3 [(0, .ref (ad 0)), (1, .int nav), (2, .int (nI i))] → W p l e (jr 1) s m args below meth c H locs 0 0 Q (F0 m 2 ls []) := by
    intro n
    induction n with
    | zero =>
      intro i ls hm hf hl
      refine lv_iload_n hx hb d_M_paperOf_2 rfl (lv_at hl 2 rfl) ?_
      refine lv_bipush (v := 48) hx hb d_M_paperOf_3 (by decide) ?_
      refine lv_icmp_ge (tgt := 40) hx hb d_M_paperOf_5 rfl (fun h5 => ?_) (fun hq => absurd (nI_le (show 48 ≤ i by omega) (show i < 2 ^ 31 by omega)) hq)
      refine lv_iconst (v := -1) hx hb d_M_paperOf_40 (by decide) ?_
      exact jx_iret (r := (-1)) hc hh hQ hlk hr rfl rfl ⟨by rw [← hf]; first | rfl | simp [jm_po], rfl⟩ d_M_paperOf_41
    | succ n ih =>
      intro i ls hm hf hl
      have hi : i < 48 := by omega
      refine lv_iload_n hx hb d_M_paperOf_2 rfl (lv_at hl 2 rfl) ?_
      refine lv_bipush (v := 48) hx hb d_M_paperOf_3 (by decide) ?_
      refine lv_icmp_ge (tgt := 40) hx hb d_M_paperOf_5 rfl (fun hq => absurd hq (nI_ge hi (by decide))) (fun h5 => ?_)
      refine lv_aload_n hx hb d_M_paperOf_8 rfl (lv_at hl 0 rfl) ?_
      refine jg_M hc hh 9 (by decide) rfl wf_M_38 d_M_paperOf_9 ?_
      refine lv_iload_n hx hb d_M_paperOf_12 rfl (lv_at hl 2 rfl) ?_
      refine jmi_zld hc hh 9 (by decide) (by decide) hi d_M_paperOf_13 ?_
      refine lv_if_eq (tgt := 34) hx hb d_M_paperOf_14 rfl (fun h14 => ?_) (fun h14 => ?_)
      ·
        refine lv_iinc (k := 2) (v := nI (i + 1)) (lv' := [(2, .int (nI (i + 1))), (0, .ref (ad 0)), (1, .int nav)]) hx hb d_M_paperOf_34 hl rfl (nI_1 i) (by decide) rfl (fun ls hl => ?_)
        refine lv_goto (tgt := 2) hx hb d_M_paperOf_37 rfl ?_
        refine ih (i + 1) _ (by omega) (by rw [← hf]; simp [jm_po, h14]) ?_
        exact lv_sub hl [1, 2, 0] rfl
      refine lv_aload_n hx hb d_M_paperOf_17 rfl (lv_at hl 0 rfl) ?_
      refine jg_M hc hh 4 (by decide) rfl wf_M_23 d_M_paperOf_18 ?_
      refine lv_iload_n hx hb d_M_paperOf_21 rfl (lv_at hl 2 rfl) ?_
      refine jmi_ild hc hh 4 (by decide) (by decide) hi d_M_paperOf_22 ?_
      refine lv_iload_n hx hb d_M_paperOf_23 rfl (lv_at hl 1 rfl) ?_
      refine lv_icmp_ne (tgt := 34) hx hb d_M_paperOf_24 rfl (fun h24 => ?_) (fun h24 => ?_)
      ·
        refine lv_iinc (k := 2) (v := nI (i + 1)) (lv' := [(2, .int (nI (i + 1))), (0, .ref (ad 0)), (1, .int nav)]) hx hb d_M_paperOf_34 hl rfl (nI_1 i) (by decide) rfl (fun ls hl => ?_)
        refine lv_goto (tgt := 2) hx hb d_M_paperOf_37 rfl ?_
        refine ih (i + 1) _ (by omega) (by rw [← hf]; simp [jm_po, h14, h24]) ?_
        exact lv_sub hl [1, 2, 0] rfl
      refine lv_aload_n hx hb d_M_paperOf_27 rfl (lv_at hl 0 rfl) ?_
      refine jg_M hc hh 8 (by decide) rfl wf_M_35 d_M_paperOf_28 ?_
      refine lv_iload_n hx hb d_M_paperOf_31 rfl (lv_at hl 2 rfl) ?_
      refine jmi_ild hc hh 8 (by decide) (by decide) hi d_M_paperOf_32 ?_
      exact jx_iret (r := (u 8 i)) hc hh hQ hlk hr rfl rfl ⟨by rw [← hf]; first | rfl | simp [jm_po, h14, h24], rfl⟩ d_M_paperOf_33
  have e1 : nI 0 = 0 := rfl
  refine L2 48 0 _ (by omega) rfl ?_
  try rw [e1]
  exact lv_sub hl [1, 2, 0] rfl
set_option maxHeartbeats 4000000 in
set_option maxRecDepth 100000 in
theorem m_wanted (l : Launch) (D : va_G) (aK ad : Nat → Nat) (cA : Nat → ClassId) (u : js_S) (url : Int32) (k : Int32) (most : Int32) (hu : jq 256 url) : jx_M l y_M_wanted b_M_wanted 6 (some .int) (jr 1) D (jc_tys cA) aK 22 ad (jm_cell ad cA) [.ref (ad 0), .int url, .int k, .int most] u (fun r : Int32 => some (.int r)) (fun r u' => r = jm_wanted u url k most ∧ u' = u) := by
  refine jx_enter "JointHistoryModel" (by decide) rfl (by simp [lg_sl, vc_int, vc_ref, vc_long, jv_cat]) ?_
  intro p e s m args below meth c A Q H locs ls hQ hc hh hr hlk hl
  have hx := hc.1
  have hb := hc.2.1
  have hl : lv_has ls 6 [(0, .ref (ad 0)), (1, .int url), (2, .int k), (3, .int most)] := by simpa [lv_args, vc_int, vc_ref, vc_long, jv_cat] using hl
  refine lv_iload_n hx hb d_M_wanted_0 rfl (lv_at hl 1 rfl) ?_
  refine lv_iconst (v := -1) hx hb d_M_wanted_1 (by decide) ?_
  refine lv_icmp_eq (tgt := 22) hx hb d_M_wanted_2 rfl (fun h2 => ?_) (fun h2 => ?_)
  ·
    refine lv_bipush (v := -2) hx hb d_M_wanted_22 (by decide) ?_
    exact jx_iret (r := (-2)) hc hh hQ hlk hr rfl rfl ⟨by first | (simp [jm_wanted, h2]; done) | (simp [jm_wanted, eq_true h2]; done), rfl⟩ d_M_wanted_24
  refine lv_aload_n hx hb d_M_wanted_5 rfl (lv_at hl 0 rfl) ?_
  refine jg_M hc hh 0 (by decide) rfl wf_M_7 d_M_wanted_6 ?_
  refine lv_iload_n hx hb d_M_wanted_9 rfl (lv_at hl 1 rfl) ?_
  refine lv_bipush (v := 8) hx hb d_M_wanted_10 (by decide) ?_
  refine lv_idiv hx hb d_M_wanted_12 (by decide) ?_
  refine jm_ild hc hh 0 (by decide) (by decide) (js_pg hu h2) d_M_wanted_13 ?_
  refine lv_if_ne (tgt := 22) hx hb d_M_wanted_14 rfl (fun h14 => ?_) (fun h14 => ?_)
  ·
    refine lv_bipush (v := -2) hx hb d_M_wanted_22 (by decide) ?_
    exact jx_iret (r := (-2)) hc hh hQ hlk hr rfl rfl ⟨by simp [jm_wanted, h2, h14], rfl⟩ d_M_wanted_24
  refine lv_iload_n hx hb d_M_wanted_17 rfl (lv_at hl 2 rfl) ?_
  refine lv_iload_n hx hb d_M_wanted_18 rfl (lv_at hl 3 rfl) ?_
  refine lv_icmp_lt (tgt := 25) hx hb d_M_wanted_19 rfl (fun h19 => ?_) (fun h19 => ?_)
  ·
    refine lv_aload_n hx hb d_M_wanted_25 rfl (lv_at hl 0 rfl) ?_
    refine jg_M hc hh 1 (by decide) rfl wf_M_13 d_M_wanted_26 ?_
    refine lv_iload_n hx hb d_M_wanted_29 rfl (lv_at hl 1 rfl) ?_
    refine lv_bipush (v := 8) hx hb d_M_wanted_30 (by decide) ?_
    refine lv_idiv hx hb d_M_wanted_32 (by decide) ?_
    refine jm_ild hc hh 1 (by decide) (by decide) (js_pg hu h2) d_M_wanted_33 ?_
    refine lv_istore (i := 4) (lv' := [(4, .int (u 1 (ix (url / 8)))), (0, .ref (ad 0)), (1, .int url), (2, .int k), (3, .int most)]) hx hb d_M_wanted_34 hl (by decide) rfl (fun ls hl => ?_)
    refine lv_aload_n hx hb d_M_wanted_36 rfl (lv_at hl 1 rfl) ?_
    refine jg_M hc hh 2 (by decide) rfl wf_M_16 d_M_wanted_37 ?_
    refine lv_iload_n hx hb d_M_wanted_40 rfl (lv_at hl 2 rfl) ?_
    refine lv_bipush (v := 8) hx hb d_M_wanted_41 (by decide) ?_
    refine lv_idiv hx hb d_M_wanted_43 (by decide) ?_
    refine jm_ild hc hh 2 (by decide) (by decide) (js_pg hu h2) d_M_wanted_44 ?_
    refine lv_istore (i := 5) (lv' := [(5, .int (u 2 (ix (url / 8)))), (4, .int (u 1 (ix (url / 8)))), (0, .ref (ad 0)), (1, .int url), (2, .int k), (3, .int most)]) hx hb d_M_wanted_45 hl (by decide) rfl (fun ls hl => ?_)
    refine lv_iload_n hx hb d_M_wanted_47 rfl (lv_at hl 4 rfl) ?_
    refine lv_if_ne (tgt := 66) hx hb d_M_wanted_48 rfl (fun h48 => ?_) (fun h48 => ?_)
    ·
      refine lv_iload hx hb d_M_wanted_66 (lv_at hl 1 rfl) ?_
      refine lv_bipush (v := -2) hx hb d_M_wanted_68 (by decide) ?_
      refine lv_icmp_ne (tgt := 78) hx hb d_M_wanted_70 rfl (fun h70 => ?_) (fun h70 => ?_)
      ·
        refine lv_iload hx hb d_M_wanted_78 (lv_at hl 0 rfl) ?_
        exact jx_iret (r := (u 2 (ix (url / 8)))) hc hh hQ hlk hr rfl rfl ⟨by first | (simp [jm_wanted, h2, h14, h19, h48, h70]; done) | (simp [jm_wanted, h2, eq_true h14, h19, h48, h70]; done), rfl⟩ d_M_wanted_80
      refine lv_bipush (v := -2) hx hb d_M_wanted_73 (by decide) ?_
      refine lv_goto (tgt := 80) hx hb d_M_wanted_75 rfl ?_
      exact jx_iret (r := (-2)) hc hh hQ hlk hr rfl rfl ⟨by first | (simp [jm_wanted, h2, h14, h19, h48, h70]; done) | (simp [jm_wanted, h2, eq_true h14, h19, h48, eq_true h70]; done), rfl⟩ d_M_wanted_80
    refine lv_iload hx hb d_M_wanted_51 (lv_at hl 1 rfl) ?_
    refine lv_bipush (v := -2) hx hb d_M_wanted_53 (by decide) ?_
    refine lv_icmp_ne (tgt := 63) hx hb d_M_wanted_55 rfl (fun h55 => ?_) (fun h55 => ?_)
    ·
      refine lv_iload hx hb d_M_wanted_63 (lv_at hl 1 rfl) ?_
      exact jx_iret (r := (u 1 (ix (url / 8)))) hc hh hQ hlk hr rfl rfl ⟨by first | (simp [jm_wanted, h2, h14, h19, h48, h55]; done) | (simp [jm_wanted, h2, eq_true h14, h19, eq_true h48, h55]; done), rfl⟩ d_M_wanted_65
    refine lv_iload hx hb d_M_wanted_58 (lv_at hl 0 rfl) ?_
    refine lv_goto (tgt := 65) hx hb d_M_wanted_60 rfl ?_
    exact jx_iret (r := (u 2 (ix (url / 8)))) hc hh hQ hlk hr rfl rfl ⟨by first | (simp [jm_wanted, h2, h14, h19, h48, h55]; done) | (simp [jm_wanted, h2, eq_true h14, h19, eq_true h48, eq_true h55]; done), rfl⟩ d_M_wanted_65
  refine lv_bipush (v := -2) hx hb d_M_wanted_22 (by decide) ?_
  exact jx_iret (r := (-2)) hc hh hQ hlk hr rfl rfl ⟨by first | (simp [jm_wanted, h2, h14, h19]; done) | (simp [jm_wanted, h2, eq_true h14, h19]; done), rfl⟩ d_M_wanted_24
set_option maxHeartbeats 4000000 in
set_option maxRecDepth 100000 in
theorem m_deep (l : Launch) (D : va_G) (aK ad : Nat → Nat) (cA : Nat → ClassId) (u : js_S) (nav : Int32) (h_nav : ∃ i, i < 48 ∧ nav = nI i) : jx_M l y_M_deep b_M_deep 3 (some .int) (jr 1) D (jc_tys cA) aK 22 ad (jm_cell ad cA) [.ref (ad 0), .int nav] u (fun r : Int32 => some (.int r)) (fun r u' => r = jm_deep u nav ∧ u' = u) := by
  refine jx_enter "JointHistoryModel" (by decide) rfl (by simp [lg_sl, vc_int, vc_ref, vc_long, jv_cat]) ?_
  intro p e s m args below meth c A Q H locs ls hQ hc hh hr hlk hl
  have hx := hc.1
  have hb := hc.2.1
  have hl : lv_has ls 3 [(0, .ref (ad 0)), (1, .int nav)] := by simpa [lv_args, vc_int, vc_ref, vc_long, jv_cat] using hl
  refine lv_iload_n hx hb d_M_deep_0 rfl (lv_at hl 1 rfl) ?_
  refine lv_if_ne (tgt := 6) hx hb d_M_deep_1 rfl (fun h1 => ?_) (fun h1 => ?_)
  ·
    refine lv_iconst (v := 0) hx hb d_M_deep_6 (by decide) ?_
    refine lv_istore_n (i := 2) (lv' := [(2, .int 0), (0, .ref (ad 0)), (1, .int nav)]) hx hb d_M_deep_7 rfl hl (by decide) rfl (fun ls hl => ?_)
    have L8 : ∀ (n : Nat) (i : Nat) (ls : Array Slot), i + n = 48 → (jm_dp u (u 16 (ix nav)) n i = jm_dp u (u 16 (ix nav)) 48 0) → lv_has ls 3 [(0, .ref (ad 0)), (1, .int nav), (2, .int (nI i))] → W p l e (jr 1) s m args below meth c H locs 0 0 Q (F0 m 8 ls []) := by
      intro n
      induction n with
      | zero =>
        intro i ls hm hf hl
        refine lv_iload_n hx hb d_M_deep_8 rfl (lv_at hl 2 rfl) ?_
        refine lv_bipush (v := 48) hx hb d_M_deep_9 (by decide) ?_
        refine lv_icmp_ge (tgt := 55) hx hb d_M_deep_11 rfl (fun h11 => ?_) (fun hq => absurd (nI_le (show 48 ≤ i by omega) (show i < 2 ^ 31 by omega)) hq)
        refine lv_iconst (v := 2) hx hb d_M_deep_55 (by decide) ?_
        exact jx_iret (r := 2) hc hh hQ hlk hr rfl rfl ⟨by unfold jm_deep; rw [if_neg h1, ← hf]; rfl, rfl⟩ d_M_deep_56
      | succ n ih =>
        intro i ls hm hf hl
        have hi : i < 48 := by omega
        refine lv_iload_n hx hb d_M_deep_8 rfl (lv_at hl 2 rfl) ?_
        refine lv_bipush (v := 48) hx hb d_M_deep_9 (by decide) ?_
        refine lv_icmp_ge (tgt := 55) hx hb d_M_deep_11 rfl (fun hq => absurd hq (nI_ge hi (by decide))) (fun h11 => ?_)
        refine lv_aload_n hx hb d_M_deep_14 rfl (lv_at hl 0 rfl) ?_
        refine jg_M hc hh 9 (by decide) rfl wf_M_38 d_M_deep_15 ?_
        refine lv_iload_n hx hb d_M_deep_18 rfl (lv_at hl 2 rfl) ?_
        refine jmi_zld hc hh 9 (by decide) (by decide) hi d_M_deep_19 ?_
        refine lv_if_eq (tgt := 49) hx hb d_M_deep_20 rfl (fun h20 => ?_) (fun h20 => ?_)
        ·
          refine lv_iinc (k := 2) (v := nI (i + 1)) (lv' := [(2, .int (nI (i + 1))), (0, .ref (ad 0)), (1, .int nav)]) hx hb d_M_deep_49 hl rfl (nI_1 i) (by decide) rfl (fun ls hl => ?_)
          refine lv_goto (tgt := 8) hx hb d_M_deep_52 rfl ?_
          refine ih (i + 1) _ (by omega) (by rw [← hf]; simp [jm_dp, h20]) ?_
          exact lv_sub hl [1, 2, 0] rfl
        refine lv_aload_n hx hb d_M_deep_23 rfl (lv_at hl 0 rfl) ?_
        refine jg_M hc hh 4 (by decide) rfl wf_M_23 d_M_deep_24 ?_
        refine lv_iload_n hx hb d_M_deep_27 rfl (lv_at hl 2 rfl) ?_
        refine jmi_ild hc hh 4 (by decide) (by decide) hi d_M_deep_28 ?_
        refine lv_if_ne (tgt := 49) hx hb d_M_deep_29 rfl (fun h29 => ?_) (fun h29 => ?_)
        ·
          refine lv_iinc (k := 2) (v := nI (i + 1)) (lv' := [(2, .int (nI (i + 1))), (0, .ref (ad 0)), (1, .int nav)]) hx hb d_M_deep_49 hl rfl (nI_1 i) (by decide) rfl (fun ls hl => ?_)
          refine lv_goto (tgt := 8) hx hb d_M_deep_52 rfl ?_
          refine ih (i + 1) _ (by omega) (by rw [← hf]; simp [jm_dp, h20, h29]) ?_
          exact lv_sub hl [1, 2, 0] rfl
        refine lv_aload_n hx hb d_M_deep_32 rfl (lv_at hl 0 rfl) ?_
        refine jg_M hc hh 8 (by decide) rfl wf_M_35 d_M_deep_33 ?_
        refine lv_iload_n hx hb d_M_deep_36 rfl (lv_at hl 2 rfl) ?_
        refine jmi_ild hc hh 8 (by decide) (by decide) hi d_M_deep_37 ?_
        refine lv_aload_n hx hb d_M_deep_38 rfl (lv_at hl 0 rfl) ?_
        refine jg_M hc hh 16 (by decide) rfl wf_M_59 d_M_deep_39 ?_
        refine lv_iload_n hx hb d_M_deep_42 rfl (lv_at hl 1 rfl) ?_
        refine jm_ild hc hh 16 (by decide) (by decide) h_nav d_M_deep_43 ?_
        refine lv_icmp_ne (tgt := 49) hx hb d_M_deep_44 rfl (fun h44 => ?_) (fun h44 => ?_)
        ·
          refine lv_iinc (k := 2) (v := nI (i + 1)) (lv' := [(2, .int (nI (i + 1))), (0, .ref (ad 0)), (1, .int nav)]) hx hb d_M_deep_49 hl rfl (nI_1 i) (by decide) rfl (fun ls hl => ?_)
          refine lv_goto (tgt := 8) hx hb d_M_deep_52 rfl ?_
          refine ih (i + 1) _ (by omega) (by rw [← hf]; simp [jm_dp, h20, h29, h44]) ?_
          exact lv_sub hl [1, 2, 0] rfl
        refine lv_iconst (v := 1) hx hb d_M_deep_47 (by decide) ?_
        exact jx_iret (r := 1) hc hh hQ hlk hr rfl rfl ⟨by unfold jm_deep; rw [if_neg h1, ← hf]; simp [jm_dp, h20, h29, h44], rfl⟩ d_M_deep_48
    have e1 : nI 0 = 0 := rfl
    refine L8 48 0 _ (by omega) rfl ?_
    try rw [e1]
    exact lv_sub hl [1, 2, 0] rfl
  refine lv_iconst (v := 0) hx hb d_M_deep_4 (by decide) ?_
  exact jx_iret (r := 0) hc hh hQ hlk hr rfl rfl ⟨by first | (simp [jm_deep, h1]; done) | (simp [jm_deep, eq_true h1]; done), rfl⟩ d_M_deep_5
set_option maxHeartbeats 4000000 in
set_option maxRecDepth 100000 in
theorem m_presentOf (l : Launch) (D : va_G) (aK ad : Nat → Nat) (cA : Nat → ClassId) (u : js_S) (nav : Int32) : jx_M l y_M_presentOf b_M_presentOf 5 (some .int) (jr 1) D (jc_tys cA) aK 22 ad (jm_cell ad cA) [.ref (ad 0), .int nav] u (fun r : Int32 => some (.int r)) (fun r u' => r = jm_presentOf u nav ∧ u' = u) := by
  refine jx_enter "JointHistoryModel" (by decide) rfl (by simp [lg_sl, vc_int, vc_ref, vc_long, jv_cat]) ?_
  intro p e s m args below meth c A Q H locs ls hQ hc hh hr hlk hl
  have hx := hc.1
  have hb := hc.2.1
  have hl : lv_has ls 5 [(0, .ref (ad 0)), (1, .int nav)] := by simpa [lv_args, vc_int, vc_ref, vc_long, jv_cat] using hl
  refine lv_iconst (v := 0) hx hb d_M_presentOf_0 (by decide) ?_
  refine lv_istore_n (i := 2) (lv' := [(2, .int 0), (0, .ref (ad 0)), (1, .int nav)]) hx hb d_M_presentOf_1 rfl hl (by decide) rfl (fun ls hl => ?_)
  refine lv_iconst (v := -1) hx hb d_M_presentOf_2 (by decide) ?_
  refine lv_istore_n (i := 3) (lv' := [(3, .int (-1)), (2, .int 0), (0, .ref (ad 0)), (1, .int nav)]) hx hb d_M_presentOf_3 rfl hl (by decide) rfl (fun ls hl => ?_)
  refine lv_iconst (v := 0) hx hb d_M_presentOf_4 (by decide) ?_
  refine lv_istore (i := 4) (lv' := [(4, .int 0), (3, .int (-1)), (2, .int 0), (0, .ref (ad 0)), (1, .int nav)]) hx hb d_M_presentOf_5 hl (by decide) rfl (fun ls hl => ?_)
  have L7 : ∀ (n : Nat) (i : Nat) (ls : Array Slot), i + n = 48 → lv_has ls 5 [(0, .ref (ad 0)), (1, .int nav), (2, .int ((jm_pr u nav i).1)), (3, .int ((jm_pr u nav i).2)), (4, .int (nI i))] → W p l e (jr 1) s m args below meth c H locs 0 0 Q (F0 m 7 ls []) := by
    intro n
    induction n with
    | zero =>
      intro i ls hm hl
      have hi : i = 48 := by omega
      refine lv_iload hx hb d_M_presentOf_7 (lv_at hl 4 rfl) ?_
      refine lv_bipush (v := 48) hx hb d_M_presentOf_9 (by decide) ?_
      refine lv_icmp_ge (tgt := 77) hx hb d_M_presentOf_11 rfl (fun h11 => ?_) (fun hq => absurd (nI_le (show 48 ≤ i by omega) (show i < 2 ^ 31 by omega)) hq)
      refine lv_iload_n hx hb d_M_presentOf_77 rfl (lv_at hl 2 rfl) ?_
      exact jx_iret (r := (jm_pr u nav i).1) hc hh hQ hlk hr rfl rfl ⟨by first | (rw [hi]; done) | (rw [hi]; rfl) | (subst hi; simp [jm_presentOf]; done), rfl⟩ d_M_presentOf_78
    | succ n ih =>
      intro i ls hm hl
      have hi : i < 48 := by omega
      refine lv_iload hx hb d_M_presentOf_7 (lv_at hl 4 rfl) ?_
      refine lv_bipush (v := 48) hx hb d_M_presentOf_9 (by decide) ?_
      refine lv_icmp_ge (tgt := 77) hx hb d_M_presentOf_11 rfl (fun hq => absurd hq (nI_ge hi (by decide))) (fun h11 => ?_)
      refine lv_aload_n hx hb d_M_presentOf_14 rfl (lv_at hl 0 rfl) ?_
      refine jg_M hc hh 9 (by decide) rfl wf_M_38 d_M_presentOf_15 ?_
      refine lv_iload hx hb d_M_presentOf_18 (lv_at hl 4 rfl) ?_
      refine jmi_zld hc hh 9 (by decide) (by decide) hi d_M_presentOf_20 ?_
      refine lv_if_eq (tgt := 71) hx hb d_M_presentOf_21 rfl (fun h21 => ?_) (fun h21 => ?_)
      ·
        refine lv_iinc (k := 4) (v := nI (i + 1)) (lv' := [(4, .int (nI (i + 1))), (0, .ref (ad 0)), (1, .int nav), (2, .int ((jm_pr u nav i).1)), (3, .int ((jm_pr u nav i).2))]) hx hb d_M_presentOf_71 hl rfl (nI_1 i) (by decide) rfl (fun ls hl => ?_)
        refine lv_goto (tgt := 7) hx hb d_M_presentOf_74 rfl ?_
        have e1 : (jm_pr u nav (i + 1)).1 = (jm_pr u nav i).1 := by first | (simp [nI_0, jm_pr, h21]; done) | (simp [nI_0, jm_pr, eq_true h21]; done)
        have e2 : (jm_pr u nav (i + 1)).2 = (jm_pr u nav i).2 := by first | (simp [nI_0, jm_pr, h21]; done) | (simp [nI_0, jm_pr, eq_true h21]; done)
        refine ih (i + 1) _ (by omega) ?_
        try rw [e1]
        try rw [e2]
        exact lv_sub hl [1, 2, 3, 4, 0] rfl
      refine lv_aload_n hx hb d_M_presentOf_24 rfl (lv_at hl 0 rfl) ?_
      refine jg_M hc hh 4 (by decide) rfl wf_M_23 d_M_presentOf_25 ?_
      refine lv_iload hx hb d_M_presentOf_28 (lv_at hl 4 rfl) ?_
      refine jmi_ild hc hh 4 (by decide) (by decide) hi d_M_presentOf_30 ?_
      refine lv_iload_n hx hb d_M_presentOf_31 rfl (lv_at hl 1 rfl) ?_
      refine lv_icmp_ne (tgt := 71) hx hb d_M_presentOf_32 rfl (fun h32 => ?_) (fun h32 => ?_)
      ·
        refine lv_iinc (k := 4) (v := nI (i + 1)) (lv' := [(4, .int (nI (i + 1))), (0, .ref (ad 0)), (1, .int nav), (2, .int ((jm_pr u nav i).1)), (3, .int ((jm_pr u nav i).2))]) hx hb d_M_presentOf_71 hl rfl (nI_1 i) (by decide) rfl (fun ls hl => ?_)
        refine lv_goto (tgt := 7) hx hb d_M_presentOf_74 rfl ?_
        have e3 : (jm_pr u nav (i + 1)).1 = (jm_pr u nav i).1 := by simp [nI_0, jm_pr, h21, h32]
        have e4 : (jm_pr u nav (i + 1)).2 = (jm_pr u nav i).2 := by simp [nI_0, jm_pr, h21, h32]
        refine ih (i + 1) _ (by omega) ?_
        try rw [e3]
        try rw [e4]
        exact lv_sub hl [1, 2, 3, 4, 0] rfl
      refine lv_aload_n hx hb d_M_presentOf_35 rfl (lv_at hl 0 rfl) ?_
      refine jg_M hc hh 5 (by decide) rfl wf_M_26 d_M_presentOf_36 ?_
      refine lv_iload hx hb d_M_presentOf_39 (lv_at hl 4 rfl) ?_
      refine jmi_ild hc hh 5 (by decide) (by decide) hi d_M_presentOf_41 ?_
      refine lv_aload_n hx hb d_M_presentOf_42 rfl (lv_at hl 0 rfl) ?_
      refine jg_M hc hh 21 (by decide) rfl wf_M_130 d_M_presentOf_43 ?_
      refine lv_icmp_gt (tgt := 71) hx hb d_M_presentOf_46 rfl (fun h46 => ?_) (fun h46 => ?_)
      ·
        refine lv_iinc (k := 4) (v := nI (i + 1)) (lv' := [(4, .int (nI (i + 1))), (0, .ref (ad 0)), (1, .int nav), (2, .int ((jm_pr u nav i).1)), (3, .int ((jm_pr u nav i).2))]) hx hb d_M_presentOf_71 hl rfl (nI_1 i) (by decide) rfl (fun ls hl => ?_)
        refine lv_goto (tgt := 7) hx hb d_M_presentOf_74 rfl ?_
        have e5 : (jm_pr u nav (i + 1)).1 = (jm_pr u nav i).1 := by first | (simp [nI_0, jm_pr, h21, h32, h46]; done) | (simp [nI_0, jm_pr, h21, eq_true h32, h46]; done)
        have e6 : (jm_pr u nav (i + 1)).2 = (jm_pr u nav i).2 := by first | (simp [nI_0, jm_pr, h21, h32, h46]; done) | (simp [nI_0, jm_pr, h21, eq_true h32, h46]; done)
        refine ih (i + 1) _ (by omega) ?_
        try rw [e5]
        try rw [e6]
        exact lv_sub hl [1, 2, 3, 4, 0] rfl
      refine lv_aload_n hx hb d_M_presentOf_49 rfl (lv_at hl 0 rfl) ?_
      refine jg_M hc hh 5 (by decide) rfl wf_M_26 d_M_presentOf_50 ?_
      refine lv_iload hx hb d_M_presentOf_53 (lv_at hl 4 rfl) ?_
      refine jmi_ild hc hh 5 (by decide) (by decide) hi d_M_presentOf_55 ?_
      refine lv_iload_n hx hb d_M_presentOf_56 rfl (lv_at hl 3 rfl) ?_
      refine lv_icmp_le (tgt := 71) hx hb d_M_presentOf_57 rfl (fun h57 => ?_) (fun h57 => ?_)
      ·
        refine lv_iinc (k := 4) (v := nI (i + 1)) (lv' := [(4, .int (nI (i + 1))), (0, .ref (ad 0)), (1, .int nav), (2, .int ((jm_pr u nav i).1)), (3, .int ((jm_pr u nav i).2))]) hx hb d_M_presentOf_71 hl rfl (nI_1 i) (by decide) rfl (fun ls hl => ?_)
        refine lv_goto (tgt := 7) hx hb d_M_presentOf_74 rfl ?_
        have e7 : (jm_pr u nav (i + 1)).1 = (jm_pr u nav i).1 := by first | (simp [nI_0, jm_pr, h21, h32, h46, h57]; done) | (simp [nI_0, jm_pr, h21, eq_true h32, h46, h57]; done)
        have e8 : (jm_pr u nav (i + 1)).2 = (jm_pr u nav i).2 := by first | (simp [nI_0, jm_pr, h21, h32, h46, h57]; done) | (simp [nI_0, jm_pr, h21, eq_true h32, h46, h57]; done)
        refine ih (i + 1) _ (by omega) ?_
        try rw [e7]
        try rw [e8]
        exact lv_sub hl [1, 2, 3, 4, 0] rfl
      refine lv_iload hx hb d_M_presentOf_60 (lv_at hl 4 rfl) ?_
      refine lv_istore_n (i := 2) (lv' := [(2, .int (nI i)), (0, .ref (ad 0)), (1, .int nav), (3, .int ((jm_pr u nav i).2)), (4, .int (nI i))]) hx hb d_M_presentOf_62 rfl hl (by decide) rfl (fun ls hl => ?_)
      refine lv_aload_n hx hb d_M_presentOf_63 rfl (lv_at hl 1 rfl) ?_
      refine jg_M hc hh 5 (by decide) rfl wf_M_26 d_M_presentOf_64 ?_
      refine lv_iload hx hb d_M_presentOf_67 (lv_at hl 4 rfl) ?_
      refine jmi_ild hc hh 5 (by decide) (by decide) hi d_M_presentOf_69 ?_
      refine lv_istore_n (i := 3) (lv' := [(3, .int (u 5 i)), (2, .int (nI i)), (0, .ref (ad 0)), (1, .int nav), (4, .int (nI i))]) hx hb d_M_presentOf_70 rfl hl (by decide) rfl (fun ls hl => ?_)
      refine lv_iinc (k := 4) (v := nI (i + 1)) (lv' := [(4, .int (nI (i + 1))), (3, .int (u 5 i)), (2, .int (nI i)), (0, .ref (ad 0)), (1, .int nav)]) hx hb d_M_presentOf_71 hl rfl (nI_1 i) (by decide) rfl (fun ls hl => ?_)
      refine lv_goto (tgt := 7) hx hb d_M_presentOf_74 rfl ?_
      have e9 : (jm_pr u nav (i + 1)).1 = nI i := by first | (simp [nI_0, jm_pr, h21, h32, h46, h57]; done) | (simp [nI_0, jm_pr, h21, eq_true h32, h46, h57]; done)
      have e10 : (jm_pr u nav (i + 1)).2 = (u 5 i) := by first | (simp [nI_0, jm_pr, h21, h32, h46, h57]; done) | (simp [nI_0, jm_pr, h21, eq_true h32, h46, h57]; done)
      refine ih (i + 1) _ (by omega) ?_
      try rw [e9]
      try rw [e10]
      exact lv_sub hl [3, 4, 2, 1, 0] rfl
  have e11 : (jm_pr u nav 0).1 = 0 := by simp [nI_0, jm_pr]
  have e12 : (jm_pr u nav 0).2 = (-1) := by simp [nI_0, jm_pr]
  have e13 : nI 0 = 0 := rfl
  refine L7 48 0 _ (by omega) ?_
  try rw [e11]
  try rw [e12]
  try rw [e13]
  exact lv_sub hl [3, 4, 2, 1, 0] rfl
set_option maxHeartbeats 4000000 in
set_option maxRecDepth 100000 in
theorem m_used (l : Launch) (D : va_G) (aK ad : Nat → Nat) (cA : Nat → ClassId) (u : js_S) (st : Int32) : jx_M l y_M_used b_M_used 3 (some .boolean) (jr 1) D (jc_tys cA) aK 22 ad (jm_cell ad cA) [.ref (ad 0), .int st] u (fun r : Int32 => some (.int r)) (fun r u' => r = jm_used u st ∧ u' = u) := by
  refine jx_enter "JointHistoryModel" (by decide) rfl (by simp [lg_sl, vc_int, vc_ref, vc_long, jv_cat]) ?_
  intro p e s m args below meth c A Q H locs ls hQ hc hh hr hlk hl
  have hx := hc.1
  have hb := hc.2.1
  have hl : lv_has ls 3 [(0, .ref (ad 0)), (1, .int st)] := by simpa [lv_args, vc_int, vc_ref, vc_long, jv_cat] using hl
  refine lv_iconst (v := 0) hx hb d_M_used_0 (by decide) ?_
  refine lv_istore_n (i := 2) (lv' := [(2, .int 0), (0, .ref (ad 0)), (1, .int st)]) hx hb d_M_used_1 rfl hl (by decide) rfl (fun ls hl => ?_)
  have L2 : ∀ (n : Nat) (i : Nat) (ls : Array Slot), i + n = 48 → (jm_us u st n i = jm_us u st 48 0) → lv_has ls 3 [(0, .ref (ad 0)), (1, .int st), (2, .int (nI i))] → W p l e (jr 1) s m args below meth c H locs 0 0 Q (F0 m 2 ls []) := by
    intro n
    induction n with
    | zero =>
      intro i ls hm hf hl
      refine lv_iload_n hx hb d_M_used_2 rfl (lv_at hl 2 rfl) ?_
      refine lv_bipush (v := 48) hx hb d_M_used_3 (by decide) ?_
      refine lv_icmp_ge (tgt := 35) hx hb d_M_used_5 rfl (fun h5 => ?_) (fun hq => absurd (nI_le (show 48 ≤ i by omega) (show i < 2 ^ 31 by omega)) hq)
      refine lv_iconst (v := 0) hx hb d_M_used_35 (by decide) ?_
      exact jx_iret (r := 0) hc hh hQ hlk hr (by decide) rfl ⟨by unfold jm_used; rw [← hf]; rfl, rfl⟩ d_M_used_36
    | succ n ih =>
      intro i ls hm hf hl
      have hi : i < 48 := by omega
      refine lv_iload_n hx hb d_M_used_2 rfl (lv_at hl 2 rfl) ?_
      refine lv_bipush (v := 48) hx hb d_M_used_3 (by decide) ?_
      refine lv_icmp_ge (tgt := 35) hx hb d_M_used_5 rfl (fun hq => absurd hq (nI_ge hi (by decide))) (fun h5 => ?_)
      refine lv_aload_n hx hb d_M_used_8 rfl (lv_at hl 0 rfl) ?_
      refine jg_M hc hh 9 (by decide) rfl wf_M_38 d_M_used_9 ?_
      refine lv_iload_n hx hb d_M_used_12 rfl (lv_at hl 2 rfl) ?_
      refine jmi_zld hc hh 9 (by decide) (by decide) hi d_M_used_13 ?_
      refine lv_if_eq (tgt := 29) hx hb d_M_used_14 rfl (fun h14 => ?_) (fun h14 => ?_)
      ·
        refine lv_iinc (k := 2) (v := nI (i + 1)) (lv' := [(2, .int (nI (i + 1))), (0, .ref (ad 0)), (1, .int st)]) hx hb d_M_used_29 hl rfl (nI_1 i) (by decide) rfl (fun ls hl => ?_)
        refine lv_goto (tgt := 2) hx hb d_M_used_32 rfl ?_
        refine ih (i + 1) _ (by omega) (by rw [← hf]; simp [jm_us, h14]) ?_
        exact lv_sub hl [1, 2, 0] rfl
      refine lv_aload_n hx hb d_M_used_17 rfl (lv_at hl 0 rfl) ?_
      refine jg_M hc hh 5 (by decide) rfl wf_M_26 d_M_used_18 ?_
      refine lv_iload_n hx hb d_M_used_21 rfl (lv_at hl 2 rfl) ?_
      refine jmi_ild hc hh 5 (by decide) (by decide) hi d_M_used_22 ?_
      refine lv_iload_n hx hb d_M_used_23 rfl (lv_at hl 1 rfl) ?_
      refine lv_icmp_ne (tgt := 29) hx hb d_M_used_24 rfl (fun h24 => ?_) (fun h24 => ?_)
      ·
        refine lv_iinc (k := 2) (v := nI (i + 1)) (lv' := [(2, .int (nI (i + 1))), (0, .ref (ad 0)), (1, .int st)]) hx hb d_M_used_29 hl rfl (nI_1 i) (by decide) rfl (fun ls hl => ?_)
        refine lv_goto (tgt := 2) hx hb d_M_used_32 rfl ?_
        refine ih (i + 1) _ (by omega) (by rw [← hf]; simp [jm_us, h14, h24]) ?_
        exact lv_sub hl [1, 2, 0] rfl
      refine lv_iconst (v := 1) hx hb d_M_used_27 (by decide) ?_
      exact jx_iret (r := 1) hc hh hQ hlk hr (by decide) rfl ⟨by unfold jm_used; rw [← hf]; simp [jm_us, h14, h24], rfl⟩ d_M_used_28
  have e1 : nI 0 = 0 := rfl
  refine L2 48 0 _ (by omega) rfl ?_
  try rw [e1]
  exact lv_sub hl [1, 2, 0] rfl
set_option maxHeartbeats 4000000 in
set_option maxRecDepth 100000 in
theorem m_full (l : Launch) (D : va_G) (aK ad : Nat → Nat) (cA : Nat → ClassId) (u : js_S) (push : Int32) : jx_M l y_M_full b_M_full 4 (some .boolean) (jr 1) D (jc_tys cA) aK 22 ad (jm_cell ad cA) [.ref (ad 0), .int push] u (fun r : Int32 => some (.int r)) (fun r u' => r = jm_full u push ∧ u' = u) := by
  refine jx_enter "JointHistoryModel" (by decide) rfl (by simp [lg_sl, vc_int, vc_ref, vc_long, jv_cat]) ?_
  intro p e s m args below meth c A Q H locs ls hQ hc hh hr hlk hl
  have hx := hc.1
  have hb := hc.2.1
  have hl : lv_has ls 4 [(0, .ref (ad 0)), (1, .int push)] := by simpa [lv_args, vc_int, vc_ref, vc_long, jv_cat] using hl
  refine lv_iconst (v := 0) hx hb d_M_full_0 (by decide) ?_
  refine lv_istore_n (i := 2) (lv' := [(2, .int 0), (0, .ref (ad 0)), (1, .int push)]) hx hb d_M_full_1 rfl hl (by decide) rfl (fun ls hl => ?_)
  refine lv_iconst (v := 0) hx hb d_M_full_2 (by decide) ?_
  refine lv_istore_n (i := 3) (lv' := [(3, .int 0), (2, .int 0), (0, .ref (ad 0)), (1, .int push)]) hx hb d_M_full_3 rfl hl (by decide) rfl (fun ls hl => ?_)
  have L4 : ∀ (n : Nat) (i : Nat) (ls : Array Slot), i + n = 48 → lv_has ls 4 [(0, .ref (ad 0)), (1, .int push), (2, .int (nI (jm_fu u push i))), (3, .int (nI i))] → W p l e (jr 1) s m args below meth c H locs 0 0 Q (F0 m 4 ls []) := by
    intro n
    induction n with
    | zero =>
      intro i ls hm hl
      have hi : i = 48 := by omega
      refine lv_iload_n hx hb d_M_full_4 rfl (lv_at hl 3 rfl) ?_
      refine lv_bipush (v := 48) hx hb d_M_full_5 (by decide) ?_
      refine lv_icmp_ge (tgt := 50) hx hb d_M_full_7 rfl (fun h7 => ?_) (fun hq => absurd (nI_le (show 48 ≤ i by omega) (show i < 2 ^ 31 by omega)) hq)
      refine lv_iload_n hx hb d_M_full_50 rfl (lv_at hl 2 rfl) ?_
      refine lv_bipush (v := 36) hx hb d_M_full_51 (by decide) ?_
      refine lv_icmp_lt (tgt := 60) hx hb d_M_full_53 rfl (fun h53 => ?_) (fun h53 => ?_)
      ·
        refine lv_iconst (v := 0) hx hb d_M_full_60 (by decide) ?_
        exact jx_iret (r := 0) hc hh hQ hlk hr (by decide) rfl ⟨by first | (rw [hi]; done) | (rw [hi]; rfl) | (subst hi; simp [jm_full, h53]; done), rfl⟩ d_M_full_61
      refine lv_iconst (v := 1) hx hb d_M_full_56 (by decide) ?_
      refine lv_goto (tgt := 61) hx hb d_M_full_57 rfl ?_
      exact jx_iret (r := 1) hc hh hQ hlk hr (by decide) rfl ⟨by first | (rw [hi]; done) | (rw [hi]; rfl) | (subst hi; simp [jm_full, h53]; done), rfl⟩ d_M_full_61
    | succ n ih =>
      intro i ls hm hl
      have hi : i < 48 := by omega
      refine lv_iload_n hx hb d_M_full_4 rfl (lv_at hl 3 rfl) ?_
      refine lv_bipush (v := 48) hx hb d_M_full_5 (by decide) ?_
      refine lv_icmp_ge (tgt := 50) hx hb d_M_full_7 rfl (fun hq => absurd hq (nI_ge hi (by decide))) (fun h7 => ?_)
      refine lv_aload_n hx hb d_M_full_10 rfl (lv_at hl 0 rfl) ?_
      refine jg_M hc hh 9 (by decide) rfl wf_M_38 d_M_full_11 ?_
      refine lv_iload_n hx hb d_M_full_14 rfl (lv_at hl 3 rfl) ?_
      refine jmi_zld hc hh 9 (by decide) (by decide) hi d_M_full_15 ?_
      refine lv_if_eq (tgt := 42) hx hb d_M_full_16 rfl (fun h16 => ?_) (fun h16 => ?_)
      ·
        refine lv_iload_n hx hb d_M_full_42 rfl (lv_at hl 2 rfl) ?_
        refine lv_istore_n (i := 2) (lv' := [(2, .int (nI (jm_fu u push i))), (0, .ref (ad 0)), (1, .int push), (3, .int (nI i))]) hx hb d_M_full_43 rfl hl (by decide) rfl (fun ls hl => ?_)
        refine lv_iinc (k := 3) (v := nI (i + 1)) (lv' := [(3, .int (nI (i + 1))), (2, .int (nI (jm_fu u push i))), (0, .ref (ad 0)), (1, .int push)]) hx hb d_M_full_44 hl rfl (nI_1 i) (by decide) rfl (fun ls hl => ?_)
        refine lv_goto (tgt := 4) hx hb d_M_full_47 rfl ?_
        have e1 : nI (jm_fu u push (i + 1)) = nI (jm_fu u push i) := by first | (simp [nI_0, jm_fu, nI_1, h16]; done) | (simp [nI_0, jm_fu, nI_1, eq_true h16]; done)
        refine ih (i + 1) _ (by omega) ?_
        try rw [e1]
        exact lv_sub hl [2, 3, 1, 0] rfl
      refine lv_iload_n hx hb d_M_full_19 rfl (lv_at hl 1 rfl) ?_
      refine lv_if_eq (tgt := 36) hx hb d_M_full_20 rfl (fun h20 => ?_) (fun h20 => ?_)
      ·
        refine lv_iload_n hx hb d_M_full_36 rfl (lv_at hl 2 rfl) ?_
        refine lv_iconst (v := 1) hx hb d_M_full_37 (by decide) ?_
        refine lv_iadd hx hb d_M_full_38 ?_
        refine lv_goto (tgt := 43) hx hb d_M_full_39 rfl ?_
        refine lv_istore_n (i := 2) (lv' := [(2, .int (nI (jm_fu u push i) + 1)), (0, .ref (ad 0)), (1, .int push), (3, .int (nI i))]) hx hb d_M_full_43 rfl hl (by decide) rfl (fun ls hl => ?_)
        refine lv_iinc (k := 3) (v := nI (i + 1)) (lv' := [(3, .int (nI (i + 1))), (2, .int (nI (jm_fu u push i) + 1)), (0, .ref (ad 0)), (1, .int push)]) hx hb d_M_full_44 hl rfl (nI_1 i) (by decide) rfl (fun ls hl => ?_)
        refine lv_goto (tgt := 4) hx hb d_M_full_47 rfl ?_
        have e2 : nI (jm_fu u push (i + 1)) = (nI (jm_fu u push i) + 1) := by first | (simp [nI_0, jm_fu, nI_1, h16, h20]; done) | (simp [nI_0, jm_fu, nI_1, h16, eq_true h20]; done)
        refine ih (i + 1) _ (by omega) ?_
        try rw [e2]
        exact lv_sub hl [2, 3, 1, 0] rfl
      refine lv_aload_n hx hb d_M_full_23 rfl (lv_at hl 0 rfl) ?_
      refine jg_M hc hh 5 (by decide) rfl wf_M_26 d_M_full_24 ?_
      refine lv_iload_n hx hb d_M_full_27 rfl (lv_at hl 3 rfl) ?_
      refine jmi_ild hc hh 5 (by decide) (by decide) hi d_M_full_28 ?_
      refine lv_aload_n hx hb d_M_full_29 rfl (lv_at hl 0 rfl) ?_
      refine jg_M hc hh 21 (by decide) rfl wf_M_130 d_M_full_30 ?_
      refine lv_icmp_gt (tgt := 42) hx hb d_M_full_33 rfl (fun h33 => ?_) (fun h33 => ?_)
      ·
        refine lv_iload_n hx hb d_M_full_42 rfl (lv_at hl 2 rfl) ?_
        refine lv_istore_n (i := 2) (lv' := [(2, .int (nI (jm_fu u push i))), (0, .ref (ad 0)), (1, .int push), (3, .int (nI i))]) hx hb d_M_full_43 rfl hl (by decide) rfl (fun ls hl => ?_)
        refine lv_iinc (k := 3) (v := nI (i + 1)) (lv' := [(3, .int (nI (i + 1))), (2, .int (nI (jm_fu u push i))), (0, .ref (ad 0)), (1, .int push)]) hx hb d_M_full_44 hl rfl (nI_1 i) (by decide) rfl (fun ls hl => ?_)
        refine lv_goto (tgt := 4) hx hb d_M_full_47 rfl ?_
        have e3 : nI (jm_fu u push (i + 1)) = nI (jm_fu u push i) := by simp [nI_0, jm_fu, nI_1, h16, h20, h33]
        refine ih (i + 1) _ (by omega) ?_
        try rw [e3]
        exact lv_sub hl [2, 3, 1, 0] rfl
      refine lv_iload_n hx hb d_M_full_36 rfl (lv_at hl 2 rfl) ?_
      refine lv_iconst (v := 1) hx hb d_M_full_37 (by decide) ?_
      refine lv_iadd hx hb d_M_full_38 ?_
      refine lv_goto (tgt := 43) hx hb d_M_full_39 rfl ?_
      refine lv_istore_n (i := 2) (lv' := [(2, .int (nI (jm_fu u push i) + 1)), (0, .ref (ad 0)), (1, .int push), (3, .int (nI i))]) hx hb d_M_full_43 rfl hl (by decide) rfl (fun ls hl => ?_)
      refine lv_iinc (k := 3) (v := nI (i + 1)) (lv' := [(3, .int (nI (i + 1))), (2, .int (nI (jm_fu u push i) + 1)), (0, .ref (ad 0)), (1, .int push)]) hx hb d_M_full_44 hl rfl (nI_1 i) (by decide) rfl (fun ls hl => ?_)
      refine lv_goto (tgt := 4) hx hb d_M_full_47 rfl ?_
      have e4 : nI (jm_fu u push (i + 1)) = (nI (jm_fu u push i) + 1) := by simp [nI_0, jm_fu, nI_1, h16, h20, h33]
      refine ih (i + 1) _ (by omega) ?_
      try rw [e4]
      exact lv_sub hl [2, 3, 1, 0] rfl
  have e5 : nI (jm_fu u push 0) = 0 := by simp [nI_0, jm_fu, nI_1]
  have e6 : nI 0 = 0 := rfl
  refine L4 48 0 _ (by omega) ?_
  try rw [e5]
  try rw [e6]
  exact lv_sub hl [2, 3, 1, 0] rfl
set_option maxHeartbeats 4000000 in
set_option maxRecDepth 100000 in
theorem m_isShown (l : Launch) (D : va_G) (aK ad : Nat → Nat) (cA : Nat → ClassId) (u : js_S) (nv : Int32) : jx_M l y_M_isShown b_M_isShown 2 (some .boolean) (jr 2) D (jc_tys cA) aK 22 ad (jm_cell ad cA) [.ref (ad 0), .int nv] u (fun r : Int32 => some (.int r)) (fun r u' => r = jm_isShown u nv ∧ u' = u) := by
  refine jx_enter "JointHistoryModel" (by decide) rfl (by simp [lg_sl, vc_int, vc_ref, vc_long, jv_cat]) ?_
  intro p e s m args below meth c A Q H locs ls hQ hc hh hr hlk hl
  have hx := hc.1
  have hb := hc.2.1
  have hl : lv_has ls 2 [(0, .ref (ad 0)), (1, .int nv)] := by simpa [lv_args, vc_int, vc_ref, vc_long, jv_cat] using hl
  refine lv_iload_n hx hb d_M_isShown_0 rfl (lv_at hl 1 rfl) ?_
  refine lv_iconst (v := 0) hx hb d_M_isShown_1 (by decide) ?_
  refine lv_bipush (v := 47) hx hb d_M_isShown_2 (by decide) ?_
  refine jx_callS [.int nv, .int 0, .int 47] [] hc hh (m_between l D aK ad cA u nv 0 47) wy_M_85 (by decide) rfl hl.1 rfl (by decide) ⟨Nat.zero_le _, Nat.zero_le _⟩ d_M_isShown_4 (fun r u9 H locs hp hh _ _ => ?_)
  rw [hp.2] at hh
  refine W.eq (g2 := F0 m 7 ls [.int (jm_btw nv 0 47)]) (by rw [hp.1]; rfl) ?_
  refine lv_if_eq (tgt := 23) hx hb d_M_isShown_7 rfl (fun h7 => ?_) (fun h7 => ?_)
  ·
    refine lv_iconst (v := 0) hx hb d_M_isShown_23 (by decide) ?_
    exact jx_iret (r := 0) hc hh hQ hlk hr (by decide) rfl ⟨by first | (simp [jm_isShown, h7]; done) | (simp [jm_isShown, eq_true h7]; done), rfl⟩ d_M_isShown_24
  refine lv_aload_n hx hb d_M_isShown_10 rfl (lv_at hl 0 rfl) ?_
  refine jg_M hc hh 17 (by decide) rfl wf_M_62 d_M_isShown_11 ?_
  refine lv_iload_n hx hb d_M_isShown_14 rfl (lv_at hl 1 rfl) ?_
  refine jm_zld hc hh 17 (by decide) (by decide) (jm_btw_47 h7) d_M_isShown_15 ?_
  refine lv_if_eq (tgt := 23) hx hb d_M_isShown_16 rfl (fun h16 => ?_) (fun h16 => ?_)
  ·
    refine lv_iconst (v := 0) hx hb d_M_isShown_23 (by decide) ?_
    exact jx_iret (r := 0) hc hh hQ hlk hr (by decide) rfl ⟨by first | (simp [jm_isShown, h7, h16]; done) | (simp [jm_isShown, h7, eq_true h16]; done), rfl⟩ d_M_isShown_24
  refine lv_iconst (v := 1) hx hb d_M_isShown_19 (by decide) ?_
  refine lv_goto (tgt := 24) hx hb d_M_isShown_20 rfl ?_
  exact jx_iret (r := 1) hc hh hQ hlk hr (by decide) rfl ⟨by simp [jm_isShown, h7, h16], rfl⟩ d_M_isShown_24
set_option maxHeartbeats 4000000 in
set_option maxRecDepth 100000 in
theorem m_entries (l : Launch) (D : va_G) (aK ad : Nat → Nat) (cA : Nat → ClassId) (u : js_S) (nv : Int32) : jx_M l y_M_entries b_M_entries 4 (some .int) (jr 3) D (jc_tys cA) aK 22 ad (jm_cell ad cA) [.ref (ad 0), .int nv] u (fun r : Int32 => some (.int r)) (fun r u' => r = jm_entries u nv ∧ u' = u) := by
  refine jx_enter "JointHistoryModel" (by decide) rfl (by simp [lg_sl, vc_int, vc_ref, vc_long, jv_cat]) ?_
  intro p e s m args below meth c A Q H locs ls hQ hc hh hr hlk hl
  have hx := hc.1
  have hb := hc.2.1
  have hl : lv_has ls 4 [(0, .ref (ad 0)), (1, .int nv)] := by simpa [lv_args, vc_int, vc_ref, vc_long, jv_cat] using hl
  refine lv_iconst (v := 0) hx hb d_M_entries_0 (by decide) ?_
  refine lv_istore_n (i := 2) (lv' := [(2, .int 0), (0, .ref (ad 0)), (1, .int nv)]) hx hb d_M_entries_1 rfl hl (by decide) rfl (fun ls hl => ?_)
  refine lv_iconst (v := 0) hx hb d_M_entries_2 (by decide) ?_
  refine lv_istore_n (i := 3) (lv' := [(3, .int 0), (2, .int 0), (0, .ref (ad 0)), (1, .int nv)]) hx hb d_M_entries_3 rfl hl (by decide) rfl (fun ls hl => ?_)
  have L4 : ∀ (n : Nat) (i : Nat) (ls : Array Slot), i + n = 48 → lv_has ls 4 [(0, .ref (ad 0)), (1, .int nv), (2, .int (nI (jm_cntO u nv i))), (3, .int (nI i))] → W p l e (jr 3) s m args below meth c H locs 0 0 Q (F0 m 4 ls []) := by
    intro n
    induction n with
    | zero =>
      intro i ls hm hl
      have hi : i = 48 := by omega
      refine lv_iload_n hx hb d_M_entries_4 rfl (lv_at hl 3 rfl) ?_
      refine lv_bipush (v := 48) hx hb d_M_entries_5 (by decide) ?_
      refine lv_icmp_ge (tgt := 43) hx hb d_M_entries_7 rfl (fun h7 => ?_) (fun hq => absurd (nI_le (show 48 ≤ i by omega) (show i < 2 ^ 31 by omega)) hq)
      refine lv_aload_n hx hb d_M_entries_43 rfl (lv_at hl 0 rfl) ?_
      refine lv_iload_n hx hb d_M_entries_44 rfl (lv_at hl 1 rfl) ?_
      refine jx_callV [.int nv] [] hc hh (m_isShown l D aK ad cA u nv) wy_M_146 ⟨by decide, rfl, rfl⟩ (by decide) rfl hl.1 rfl (by decide) ⟨Nat.zero_le _, Nat.zero_le _⟩ d_M_entries_45 (fun r u9 H locs hp hh _ _ => ?_)
      rw [hp.2] at hh
      refine W.eq (g2 := F0 m 48 ls [.int (jm_isShown u nv)]) (by rw [hp.1]; rfl) ?_
      refine lv_if_eq (tgt := 55) hx hb d_M_entries_48 rfl (fun h48 => ?_) (fun h48 => ?_)
      ·
        refine lv_bipush (v := -4) hx hb d_M_entries_55 (by decide) ?_
        exact jx_iret (r := (-4)) hc hh hQ hlk hr rfl rfl ⟨by first | (rw [hi]; done) | (rw [hi]; rfl) | (subst hi; first | (simp [jm_entries, h48]; done) | (simp [jm_entries, eq_true h48]; done); done), rfl⟩ d_M_entries_57
      refine lv_iload_n hx hb d_M_entries_51 rfl (lv_at hl 2 rfl) ?_
      refine lv_goto (tgt := 57) hx hb d_M_entries_52 rfl ?_
      exact jx_iret (r := nI (jm_cntO u nv i)) hc hh hQ hlk hr rfl rfl ⟨by first | (rw [hi]; done) | (rw [hi]; rfl) | (subst hi; simp [jm_entries, h48]; done), rfl⟩ d_M_entries_57
    | succ n ih =>
      intro i ls hm hl
      have hi : i < 48 := by omega
      refine lv_iload_n hx hb d_M_entries_4 rfl (lv_at hl 3 rfl) ?_
      refine lv_bipush (v := 48) hx hb d_M_entries_5 (by decide) ?_
      refine lv_icmp_ge (tgt := 43) hx hb d_M_entries_7 rfl (fun hq => absurd hq (nI_ge hi (by decide))) (fun h7 => ?_)
      refine lv_aload_n hx hb d_M_entries_10 rfl (lv_at hl 0 rfl) ?_
      refine jg_M hc hh 9 (by decide) rfl wf_M_38 d_M_entries_11 ?_
      refine lv_iload_n hx hb d_M_entries_14 rfl (lv_at hl 3 rfl) ?_
      refine jmi_zld hc hh 9 (by decide) (by decide) hi d_M_entries_15 ?_
      refine lv_if_eq (tgt := 35) hx hb d_M_entries_16 rfl (fun h16 => ?_) (fun h16 => ?_)
      ·
        refine lv_iload_n hx hb d_M_entries_35 rfl (lv_at hl 2 rfl) ?_
        refine lv_istore_n (i := 2) (lv' := [(2, .int (nI (jm_cntO u nv i))), (0, .ref (ad 0)), (1, .int nv), (3, .int (nI i))]) hx hb d_M_entries_36 rfl hl (by decide) rfl (fun ls hl => ?_)
        refine lv_iinc (k := 3) (v := nI (i + 1)) (lv' := [(3, .int (nI (i + 1))), (2, .int (nI (jm_cntO u nv i))), (0, .ref (ad 0)), (1, .int nv)]) hx hb d_M_entries_37 hl rfl (nI_1 i) (by decide) rfl (fun ls hl => ?_)
        refine lv_goto (tgt := 4) hx hb d_M_entries_40 rfl ?_
        have e1 : nI (jm_cntO u nv (i + 1)) = nI (jm_cntO u nv i) := by first | (simp [nI_0, jm_cntO, nI_1, h16]; done) | (simp [nI_0, jm_cntO, nI_1, eq_true h16]; done)
        refine ih (i + 1) _ (by omega) ?_
        try rw [e1]
        exact lv_sub hl [2, 3, 1, 0] rfl
      refine lv_aload_n hx hb d_M_entries_19 rfl (lv_at hl 0 rfl) ?_
      refine jg_M hc hh 4 (by decide) rfl wf_M_23 d_M_entries_20 ?_
      refine lv_iload_n hx hb d_M_entries_23 rfl (lv_at hl 3 rfl) ?_
      refine jmi_ild hc hh 4 (by decide) (by decide) hi d_M_entries_24 ?_
      refine lv_iload_n hx hb d_M_entries_25 rfl (lv_at hl 1 rfl) ?_
      refine lv_icmp_ne (tgt := 35) hx hb d_M_entries_26 rfl (fun h26 => ?_) (fun h26 => ?_)
      ·
        refine lv_iload_n hx hb d_M_entries_35 rfl (lv_at hl 2 rfl) ?_
        refine lv_istore_n (i := 2) (lv' := [(2, .int (nI (jm_cntO u nv i))), (0, .ref (ad 0)), (1, .int nv), (3, .int (nI i))]) hx hb d_M_entries_36 rfl hl (by decide) rfl (fun ls hl => ?_)
        refine lv_iinc (k := 3) (v := nI (i + 1)) (lv' := [(3, .int (nI (i + 1))), (2, .int (nI (jm_cntO u nv i))), (0, .ref (ad 0)), (1, .int nv)]) hx hb d_M_entries_37 hl rfl (nI_1 i) (by decide) rfl (fun ls hl => ?_)
        refine lv_goto (tgt := 4) hx hb d_M_entries_40 rfl ?_
        have e2 : nI (jm_cntO u nv (i + 1)) = nI (jm_cntO u nv i) := by simp [nI_0, jm_cntO, nI_1, h16, h26]
        refine ih (i + 1) _ (by omega) ?_
        try rw [e2]
        exact lv_sub hl [2, 3, 1, 0] rfl
      refine lv_iload_n hx hb d_M_entries_29 rfl (lv_at hl 2 rfl) ?_
      refine lv_iconst (v := 1) hx hb d_M_entries_30 (by decide) ?_
      refine lv_iadd hx hb d_M_entries_31 ?_
      refine lv_goto (tgt := 36) hx hb d_M_entries_32 rfl ?_
      refine lv_istore_n (i := 2) (lv' := [(2, .int (nI (jm_cntO u nv i) + 1)), (0, .ref (ad 0)), (1, .int nv), (3, .int (nI i))]) hx hb d_M_entries_36 rfl hl (by decide) rfl (fun ls hl => ?_)
      refine lv_iinc (k := 3) (v := nI (i + 1)) (lv' := [(3, .int (nI (i + 1))), (2, .int (nI (jm_cntO u nv i) + 1)), (0, .ref (ad 0)), (1, .int nv)]) hx hb d_M_entries_37 hl rfl (nI_1 i) (by decide) rfl (fun ls hl => ?_)
      refine lv_goto (tgt := 4) hx hb d_M_entries_40 rfl ?_
      have e3 : nI (jm_cntO u nv (i + 1)) = (nI (jm_cntO u nv i) + 1) := by first | (simp [nI_0, jm_cntO, nI_1, h16, h26]; done) | (simp [nI_0, jm_cntO, nI_1, h16, eq_true h26]; done)
      refine ih (i + 1) _ (by omega) ?_
      try rw [e3]
      exact lv_sub hl [2, 3, 1, 0] rfl
  have e4 : nI (jm_cntO u nv 0) = 0 := by simp [nI_0, jm_cntO, nI_1]
  have e5 : nI 0 = 0 := rfl
  refine L4 48 0 _ (by omega) ?_
  try rw [e4]
  try rw [e5]
  exact lv_sub hl [2, 3, 1, 0] rfl
set_option maxHeartbeats 4000000 in
set_option maxRecDepth 100000 in
theorem m_present (l : Launch) (D : va_G) (aK ad : Nat → Nat) (cA : Nat → ClassId) (u : js_S) : jx_M l y_M_present b_M_present 1 (some .int) (jr 1) D (jc_tys cA) aK 22 ad (jm_cell ad cA) [.ref (ad 0)] u (fun r : Int32 => some (.int r)) (fun r u' => r = u 21 0 ∧ u' = u) := by
  refine jx_enter "JointHistoryModel" (by decide) rfl (by simp [lg_sl, vc_int, vc_ref, vc_long, jv_cat]) ?_
  intro p e s m args below meth c A Q H locs ls hQ hc hh hr hlk hl
  have hx := hc.1
  have hb := hc.2.1
  have hl : lv_has ls 1 [(0, .ref (ad 0))] := by simpa [lv_args, vc_int, vc_ref, vc_long, jv_cat] using hl
  refine lv_aload_n hx hb d_M_present_0 rfl (lv_at hl 0 rfl) ?_
  refine jg_M hc hh 21 (by decide) rfl wf_M_130 d_M_present_1 ?_
  exact jx_iret (r := (u 21 0)) hc hh hQ hlk hr rfl rfl ⟨rfl, rfl⟩ d_M_present_4
set_option maxHeartbeats 4000000 in
set_option maxRecDepth 100000 in
theorem m_length (l : Launch) (D : va_G) (aK ad : Nat → Nat) (cA : Nat → ClassId) (u : js_S) : jx_M l y_M_length b_M_length 3 (some .int) (jr 2) D (jc_tys cA) aK 22 ad (jm_cell ad cA) [.ref (ad 0)] u (fun r : Int32 => some (.int r)) (fun r u' => r = nI (jm_cu u 601) ∧ u' = u) := by
  refine jx_enter "JointHistoryModel" (by decide) rfl (by simp [lg_sl, vc_int, vc_ref, vc_long, jv_cat]) ?_
  intro p e s m args below meth c A Q H locs ls hQ hc hh hr hlk hl
  have hx := hc.1
  have hb := hc.2.1
  have hl : lv_has ls 3 [(0, .ref (ad 0))] := by simpa [lv_args, vc_int, vc_ref, vc_long, jv_cat] using hl
  refine lv_iconst (v := 0) hx hb d_M_length_0 (by decide) ?_
  refine lv_istore_n (i := 1) (lv' := [(1, .int 0), (0, .ref (ad 0))]) hx hb d_M_length_1 rfl hl (by decide) rfl (fun ls hl => ?_)
  refine lv_iconst (v := 0) hx hb d_M_length_2 (by decide) ?_
  refine lv_istore_n (i := 2) (lv' := [(2, .int 0), (1, .int 0), (0, .ref (ad 0))]) hx hb d_M_length_3 rfl hl (by decide) rfl (fun ls hl => ?_)
  have L4 : ∀ (n : Nat) (i : Nat) (H : Heap) (locs : List Loc) (ls : Array Slot), i + n = 601 → jx_H D 22 ad (jm_cell ad cA u) A s.heap H locs → lv_has ls 3 [(0, .ref (ad 0)), (1, .int (nI (jm_cu u i))), (2, .int (nI i))] → W p l e (jr 2) s m args below meth c H locs 0 0 Q (F0 m 4 ls []) := by
    intro n
    induction n with
    | zero =>
      intro i H locs ls hm hh hl
      have hi : i = 601 := by omega
      refine lv_iload_n hx hb d_M_length_4 rfl (lv_at hl 2 rfl) ?_
      refine lv_sipush (v := 600) hx hb d_M_length_5 (by decide) ?_
      refine lv_icmp_gt (tgt := 33) hx hb d_M_length_8 rfl (fun h8 => ?_) (fun hq => absurd (nI_lt (show 600 < i by omega) (show i < 2 ^ 31 by omega)) hq)
      refine lv_iload_n hx hb d_M_length_33 rfl (lv_at hl 1 rfl) ?_
      exact jx_iret (r := nI (jm_cu u i)) hc hh hQ hlk hr rfl rfl ⟨by first | (rw [hi]; done) | (rw [hi]; rfl) | (subst hi; simp []; done), rfl⟩ d_M_length_34
    | succ n ih =>
      intro i H locs ls hm hh hl
      have hi : i < 601 := by omega
      refine lv_iload_n hx hb d_M_length_4 rfl (lv_at hl 2 rfl) ?_
      refine lv_sipush (v := 600) hx hb d_M_length_5 (by decide) ?_
      refine lv_icmp_gt (tgt := 33) hx hb d_M_length_8 rfl (fun hq => absurd hq (nI_nlt (show i ≤ 600 by omega) (by decide))) (fun h8 => ?_)
      refine lv_aload_n hx hb d_M_length_11 rfl (lv_at hl 0 rfl) ?_
      refine lv_iload_n hx hb d_M_length_12 rfl (lv_at hl 2 rfl) ?_
      refine jx_callV [.int (nI i)] [] hc hh (m_used l D aK ad cA u (nI i)) wy_M_133 ⟨by decide, rfl, rfl⟩ (by decide) rfl hl.1 rfl (by decide) ⟨Nat.zero_le _, Nat.zero_le _⟩ d_M_length_13 (fun r u9 H locs hp hh _ _ => ?_)
      rw [hp.2] at hh
      refine W.eq (g2 := F0 m 16 ls [.int (jm_used u (nI i))]) (by rw [hp.1]; rfl) ?_
      refine lv_if_eq (tgt := 25) hx hb d_M_length_16 rfl (fun h16 => ?_) (fun h16 => ?_)
      ·
        refine lv_iload_n hx hb d_M_length_25 rfl (lv_at hl 1 rfl) ?_
        refine lv_istore_n (i := 1) (lv' := [(1, .int (nI (jm_cu u i))), (0, .ref (ad 0)), (2, .int (nI i))]) hx hb d_M_length_26 rfl hl (by decide) rfl (fun ls hl => ?_)
        refine lv_iinc (k := 2) (v := nI (i + 1)) (lv' := [(2, .int (nI (i + 1))), (1, .int (nI (jm_cu u i))), (0, .ref (ad 0))]) hx hb d_M_length_27 hl rfl (nI_1 i) (by decide) rfl (fun ls hl => ?_)
        refine lv_goto (tgt := 4) hx hb d_M_length_30 rfl ?_
        have e1 : nI (jm_cu u (i + 1)) = nI (jm_cu u i) := by first | (simp [nI_0, jm_cu, nI_1, h16]; done) | (simp [nI_0, jm_cu, nI_1, eq_true h16]; done)
        refine ih (i + 1) _ _ _ (by omega) ?_ ?_
        ·
          try rw [e1]
          exact hh
        try rw [e1]
        exact lv_sub hl [2, 1, 0] rfl
      refine lv_iload_n hx hb d_M_length_19 rfl (lv_at hl 1 rfl) ?_
      refine lv_iconst (v := 1) hx hb d_M_length_20 (by decide) ?_
      refine lv_iadd hx hb d_M_length_21 ?_
      refine lv_goto (tgt := 26) hx hb d_M_length_22 rfl ?_
      refine lv_istore_n (i := 1) (lv' := [(1, .int (nI (jm_cu u i) + 1)), (0, .ref (ad 0)), (2, .int (nI i))]) hx hb d_M_length_26 rfl hl (by decide) rfl (fun ls hl => ?_)
      refine lv_iinc (k := 2) (v := nI (i + 1)) (lv' := [(2, .int (nI (i + 1))), (1, .int (nI (jm_cu u i) + 1)), (0, .ref (ad 0))]) hx hb d_M_length_27 hl rfl (nI_1 i) (by decide) rfl (fun ls hl => ?_)
      refine lv_goto (tgt := 4) hx hb d_M_length_30 rfl ?_
      have e2 : nI (jm_cu u (i + 1)) = (nI (jm_cu u i) + 1) := by simp [nI_0, jm_cu, nI_1, h16]
      refine ih (i + 1) _ _ _ (by omega) ?_ ?_
      ·
        try rw [e2]
        exact hh
      try rw [e2]
      exact lv_sub hl [2, 1, 0] rfl
  have e3 : nI (jm_cu u 0) = 0 := by simp [nI_0, jm_cu, nI_1]
  have e4 : nI 0 = 0 := rfl
  refine L4 601 0 _ _ _ (by omega) ?_ ?_
  ·
    try rw [e3]
    try rw [e4]
    exact hh
  try rw [e3]
  try rw [e4]
  exact lv_sub hl [2, 1, 0] rfl
set_option maxHeartbeats 4000000 in
set_option maxRecDepth 100000 in
theorem m_count (l : Launch) (D : va_G) (aK ad : Nat → Nat) (cA : Nat → ClassId) (u : js_S) (k : Int32) : jx_M l y_M_count b_M_count 6 (some .int) (jr 1) D (jc_tys cA) aK 22 ad (jm_cell ad cA) [.ref (ad 0), .int k] u (fun r : Int32 => some (.int r)) (fun r u' => r = jm_count u k ∧ u' = u) := by
  refine jx_enter "JointHistoryModel" (by decide) rfl (by simp [lg_sl, vc_int, vc_ref, vc_long, jv_cat]) ?_
  intro p e s m args below meth c A Q H locs ls hQ hc hh hr hlk hl
  have hx := hc.1
  have hb := hc.2.1
  have hl : lv_has ls 6 [(0, .ref (ad 0)), (1, .int k)] := by simpa [lv_args, vc_int, vc_ref, vc_long, jv_cat] using hl
  refine lv_iconst (v := 0) hx hb d_M_count_0 (by decide) ?_
  refine lv_istore_n (i := 2) (lv' := [(2, .int 0), (0, .ref (ad 0)), (1, .int k)]) hx hb d_M_count_1 rfl hl (by decide) rfl (fun ls hl => ?_)
  refine lv_iconst (v := 0) hx hb d_M_count_2 (by decide) ?_
  refine lv_istore_n (i := 3) (lv' := [(3, .int 0), (2, .int 0), (0, .ref (ad 0)), (1, .int k)]) hx hb d_M_count_3 rfl hl (by decide) rfl (fun ls hl => ?_)
  refine lv_iconst (v := 0) hx hb d_M_count_4 (by decide) ?_
  refine lv_istore (i := 4) (lv' := [(4, .int 0), (3, .int 0), (2, .int 0), (0, .ref (ad 0)), (1, .int k)]) hx hb d_M_count_5 hl (by decide) rfl (fun ls hl => ?_)
  refine lv_iconst (v := 0) hx hb d_M_count_7 (by decide) ?_
  refine lv_istore (i := 5) (lv' := [(5, .int 0), (4, .int 0), (3, .int 0), (2, .int 0), (0, .ref (ad 0)), (1, .int k)]) hx hb d_M_count_8 hl (by decide) rfl (fun ls hl => ?_)
  have L10 : ∀ (n : Nat) (i : Nat) (ls : Array Slot), i + n = 48 → lv_has ls 6 [(0, .ref (ad 0)), (1, .int k), (2, .int (nI (jm_cntF u 17 i))), (3, .int (nI (jm_cntF u 15 i))), (4, .int (nI (jm_cntF u 9 i))), (5, .int (nI i))] → W p l e (jr 1) s m args below meth c H locs 0 0 Q (F0 m 10 ls []) := by
    intro n
    induction n with
    | zero =>
      intro i ls hm hl
      have hi : i = 48 := by omega
      refine lv_iload hx hb d_M_count_10 (lv_at hl 5 rfl) ?_
      refine lv_bipush (v := 48) hx hb d_M_count_12 (by decide) ?_
      refine lv_icmp_ge (tgt := 80) hx hb d_M_count_14 rfl (fun h14 => ?_) (fun hq => absurd (nI_le (show 48 ≤ i by omega) (show i < 2 ^ 31 by omega)) hq)
      refine lv_iload_n hx hb d_M_count_80 rfl (lv_at hl 1 rfl) ?_
      refine lv_if_ne (tgt := 88) hx hb d_M_count_81 rfl (fun h81 => ?_) (fun h81 => ?_)
      ·
        refine lv_iload_n hx hb d_M_count_88 rfl (lv_at hl 1 rfl) ?_
        refine lv_iconst (v := 1) hx hb d_M_count_89 (by decide) ?_
        refine lv_icmp_ne (tgt := 97) hx hb d_M_count_90 rfl (fun h90 => ?_) (fun h90 => ?_)
        ·
          refine lv_iload_n hx hb d_M_count_97 rfl (lv_at hl 1 rfl) ?_
          refine lv_iconst (v := 2) hx hb d_M_count_98 (by decide) ?_
          refine lv_icmp_ne (tgt := 107) hx hb d_M_count_99 rfl (fun h99 => ?_) (fun h99 => ?_)
          ·
            refine lv_iload_n hx hb d_M_count_107 rfl (lv_at hl 1 rfl) ?_
            refine lv_iconst (v := 3) hx hb d_M_count_108 (by decide) ?_
            refine lv_icmp_ne (tgt := 119) hx hb d_M_count_109 rfl (fun h109 => ?_) (fun h109 => ?_)
            ·
              refine lv_iload_n hx hb d_M_count_119 rfl (lv_at hl 1 rfl) ?_
              refine lv_iconst (v := 4) hx hb d_M_count_120 (by decide) ?_
              refine lv_icmp_ne (tgt := 131) hx hb d_M_count_121 rfl (fun h121 => ?_) (fun h121 => ?_)
              ·
                refine lv_iload_n hx hb d_M_count_131 rfl (lv_at hl 1 rfl) ?_
                refine lv_iconst (v := 5) hx hb d_M_count_132 (by decide) ?_
                refine lv_icmp_ne (tgt := 143) hx hb d_M_count_133 rfl (fun h133 => ?_) (fun h133 => ?_)
                ·
                  refine lv_bipush (v := -7) hx hb d_M_count_143 (by decide) ?_
                  exact jx_iret (r := (-7)) hc hh hQ hlk hr rfl rfl ⟨by first | (rw [hi]; done) | (rw [hi]; rfl) | (subst hi; simp [jm_count, h81, h90, h99, h109, h121, h133]; done), rfl⟩ d_M_count_145
                refine lv_aload_n hx hb d_M_count_136 rfl (lv_at hl 0 rfl) ?_
                refine jg_M hc hh 22 (by decide) rfl wf_M_89 d_M_count_137 ?_
                refine lv_goto (tgt := 145) hx hb d_M_count_140 rfl ?_
                exact jx_iret (r := (u 22 0)) hc hh hQ hlk hr rfl rfl ⟨by first | (rw [hi]; done) | (rw [hi]; rfl) | (subst hi; first | (simp [jm_count, h81, h90, h99, h109, h121, h133]; done) | (simp [jm_count, h81, h90, h99, h109, h121, eq_true h133]; done); done), rfl⟩ d_M_count_145
              refine lv_aload_n hx hb d_M_count_124 rfl (lv_at hl 0 rfl) ?_
              refine jg_M hc hh 24 (by decide) rfl wf_M_156 d_M_count_125 ?_
              refine lv_goto (tgt := 145) hx hb d_M_count_128 rfl ?_
              exact jx_iret (r := (u 24 0)) hc hh hQ hlk hr rfl rfl ⟨by first | (rw [hi]; done) | (rw [hi]; rfl) | (subst hi; first | (simp [jm_count, h81, h90, h99, h109, h121]; done) | (simp [jm_count, h81, h90, h99, h109, eq_true h121]; done); done), rfl⟩ d_M_count_145
            refine lv_aload_n hx hb d_M_count_112 rfl (lv_at hl 0 rfl) ?_
            refine jg_M hc hh 23 (by decide) rfl wf_M_167 d_M_count_113 ?_
            refine lv_goto (tgt := 145) hx hb d_M_count_116 rfl ?_
            exact jx_iret (r := (u 23 0)) hc hh hQ hlk hr rfl rfl ⟨by first | (rw [hi]; done) | (rw [hi]; rfl) | (subst hi; first | (simp [jm_count, h81, h90, h99, h109]; done) | (simp [jm_count, h81, h90, h99, eq_true h109]; done); done), rfl⟩ d_M_count_145
          refine lv_iload hx hb d_M_count_102 (lv_at hl 4 rfl) ?_
          refine lv_goto (tgt := 145) hx hb d_M_count_104 rfl ?_
          exact jx_iret (r := nI (jm_cntF u 9 i)) hc hh hQ hlk hr rfl rfl ⟨by first | (rw [hi]; done) | (rw [hi]; rfl) | (subst hi; first | (simp [jm_count, h81, h90, h99]; done) | (simp [jm_count, h81, h90, eq_true h99]; done); done), rfl⟩ d_M_count_145
        refine lv_iload_n hx hb d_M_count_93 rfl (lv_at hl 3 rfl) ?_
        refine lv_goto (tgt := 145) hx hb d_M_count_94 rfl ?_
        exact jx_iret (r := nI (jm_cntF u 15 i)) hc hh hQ hlk hr rfl rfl ⟨by first | (rw [hi]; done) | (rw [hi]; rfl) | (subst hi; first | (simp [jm_count, h81, h90]; done) | (simp [jm_count, h81, eq_true h90]; done); done), rfl⟩ d_M_count_145
      refine lv_iload_n hx hb d_M_count_84 rfl (lv_at hl 2 rfl) ?_
      refine lv_goto (tgt := 145) hx hb d_M_count_85 rfl ?_
      exact jx_iret (r := nI (jm_cntF u 17 i)) hc hh hQ hlk hr rfl rfl ⟨by first | (rw [hi]; done) | (rw [hi]; rfl) | (subst hi; first | (simp [jm_count, h81]; done) | (simp [jm_count, eq_true h81]; done); done), rfl⟩ d_M_count_145
    | succ n ih =>
      intro i ls hm hl
      have hi : i < 48 := by omega
      refine lv_iload hx hb d_M_count_10 (lv_at hl 5 rfl) ?_
      refine lv_bipush (v := 48) hx hb d_M_count_12 (by decide) ?_
      refine lv_icmp_ge (tgt := 80) hx hb d_M_count_14 rfl (fun hq => absurd hq (nI_ge hi (by decide))) (fun h14 => ?_)
      refine lv_aload_n hx hb d_M_count_17 rfl (lv_at hl 0 rfl) ?_
      refine jg_M hc hh 17 (by decide) rfl wf_M_62 d_M_count_18 ?_
      refine lv_iload hx hb d_M_count_21 (lv_at hl 5 rfl) ?_
      refine jmi_zld hc hh 17 (by decide) (by decide) hi d_M_count_23 ?_
      refine lv_if_eq (tgt := 33) hx hb d_M_count_24 rfl (fun h24 => ?_) (fun h24 => ?_)
      ·
        refine lv_iload_n hx hb d_M_count_33 rfl (lv_at hl 2 rfl) ?_
        refine lv_istore_n (i := 2) (lv' := [(2, .int (nI (jm_cntF u 17 i))), (0, .ref (ad 0)), (1, .int k), (3, .int (nI (jm_cntF u 15 i))), (4, .int (nI (jm_cntF u 9 i))), (5, .int (nI i))]) hx hb d_M_count_34 rfl hl (by decide) rfl (fun ls hl => ?_)
        refine lv_aload_n hx hb d_M_count_35 rfl (lv_at hl 1 rfl) ?_
        refine jg_M hc hh 15 (by decide) rfl wf_M_56 d_M_count_36 ?_
        refine lv_iload hx hb d_M_count_39 (lv_at hl 5 rfl) ?_
        refine jmi_zld hc hh 15 (by decide) (by decide) hi d_M_count_41 ?_
        refine lv_if_eq (tgt := 51) hx hb d_M_count_42 rfl (fun h42 => ?_) (fun h42 => ?_)
        ·
          refine lv_iload_n hx hb d_M_count_51 rfl (lv_at hl 3 rfl) ?_
          refine lv_istore_n (i := 3) (lv' := [(3, .int (nI (jm_cntF u 15 i))), (2, .int (nI (jm_cntF u 17 i))), (0, .ref (ad 0)), (1, .int k), (4, .int (nI (jm_cntF u 9 i))), (5, .int (nI i))]) hx hb d_M_count_52 rfl hl (by decide) rfl (fun ls hl => ?_)
          refine lv_aload_n hx hb d_M_count_53 rfl (lv_at hl 2 rfl) ?_
          refine jg_M hc hh 9 (by decide) rfl wf_M_38 d_M_count_54 ?_
          refine lv_iload hx hb d_M_count_57 (lv_at hl 5 rfl) ?_
          refine jmi_zld hc hh 9 (by decide) (by decide) hi d_M_count_59 ?_
          refine lv_if_eq (tgt := 70) hx hb d_M_count_60 rfl (fun h60 => ?_) (fun h60 => ?_)
          ·
            refine lv_iload hx hb d_M_count_70 (lv_at hl 4 rfl) ?_
            refine lv_istore (i := 4) (lv' := [(4, .int (nI (jm_cntF u 9 i))), (3, .int (nI (jm_cntF u 15 i))), (2, .int (nI (jm_cntF u 17 i))), (0, .ref (ad 0)), (1, .int k), (5, .int (nI i))]) hx hb d_M_count_72 hl (by decide) rfl (fun ls hl => ?_)
            refine lv_iinc (k := 5) (v := nI (i + 1)) (lv' := [(5, .int (nI (i + 1))), (4, .int (nI (jm_cntF u 9 i))), (3, .int (nI (jm_cntF u 15 i))), (2, .int (nI (jm_cntF u 17 i))), (0, .ref (ad 0)), (1, .int k)]) hx hb d_M_count_74 hl rfl (nI_1 i) (by decide) rfl (fun ls hl => ?_)
            refine lv_goto (tgt := 10) hx hb d_M_count_77 rfl ?_
            have e1 : nI (jm_cntF u 17 (i + 1)) = nI (jm_cntF u 17 i) := by first | (simp [nI_0, jm_cntF, nI_1, h24, h42, h60]; done) | (simp [nI_0, jm_cntF, nI_1, eq_true h24, eq_true h42, eq_true h60]; done)
            have e2 : nI (jm_cntF u 15 (i + 1)) = nI (jm_cntF u 15 i) := by first | (simp [nI_0, jm_cntF, nI_1, h24, h42, h60]; done) | (simp [nI_0, jm_cntF, nI_1, eq_true h24, eq_true h42, eq_true h60]; done)
            have e3 : nI (jm_cntF u 9 (i + 1)) = nI (jm_cntF u 9 i) := by first | (simp [nI_0, jm_cntF, nI_1, h24, h42, h60]; done) | (simp [nI_0, jm_cntF, nI_1, eq_true h24, eq_true h42, eq_true h60]; done)
            refine ih (i + 1) _ (by omega) ?_
            try rw [e1]
            try rw [e2]
            try rw [e3]
            exact lv_sub hl [4, 5, 3, 2, 1, 0] rfl
          refine lv_iload hx hb d_M_count_63 (lv_at hl 4 rfl) ?_
          refine lv_iconst (v := 1) hx hb d_M_count_65 (by decide) ?_
          refine lv_iadd hx hb d_M_count_66 ?_
          refine lv_goto (tgt := 72) hx hb d_M_count_67 rfl ?_
          refine lv_istore (i := 4) (lv' := [(4, .int (nI (jm_cntF u 9 i) + 1)), (3, .int (nI (jm_cntF u 15 i))), (2, .int (nI (jm_cntF u 17 i))), (0, .ref (ad 0)), (1, .int k), (5, .int (nI i))]) hx hb d_M_count_72 hl (by decide) rfl (fun ls hl => ?_)
          refine lv_iinc (k := 5) (v := nI (i + 1)) (lv' := [(5, .int (nI (i + 1))), (4, .int (nI (jm_cntF u 9 i) + 1)), (3, .int (nI (jm_cntF u 15 i))), (2, .int (nI (jm_cntF u 17 i))), (0, .ref (ad 0)), (1, .int k)]) hx hb d_M_count_74 hl rfl (nI_1 i) (by decide) rfl (fun ls hl => ?_)
          refine lv_goto (tgt := 10) hx hb d_M_count_77 rfl ?_
          have e4 : nI (jm_cntF u 17 (i + 1)) = nI (jm_cntF u 17 i) := by first | (simp [nI_0, jm_cntF, nI_1, h24, h42, h60]; done) | (simp [nI_0, jm_cntF, nI_1, eq_true h24, eq_true h42, h60]; done)
          have e5 : nI (jm_cntF u 15 (i + 1)) = nI (jm_cntF u 15 i) := by first | (simp [nI_0, jm_cntF, nI_1, h24, h42, h60]; done) | (simp [nI_0, jm_cntF, nI_1, eq_true h24, eq_true h42, h60]; done)
          have e6 : nI (jm_cntF u 9 (i + 1)) = (nI (jm_cntF u 9 i) + 1) := by first | (simp [nI_0, jm_cntF, nI_1, h24, h42, h60]; done) | (simp [nI_0, jm_cntF, nI_1, eq_true h24, eq_true h42, h60]; done)
          refine ih (i + 1) _ (by omega) ?_
          try rw [e4]
          try rw [e5]
          try rw [e6]
          exact lv_sub hl [4, 5, 3, 2, 1, 0] rfl
        refine lv_iload_n hx hb d_M_count_45 rfl (lv_at hl 3 rfl) ?_
        refine lv_iconst (v := 1) hx hb d_M_count_46 (by decide) ?_
        refine lv_iadd hx hb d_M_count_47 ?_
        refine lv_goto (tgt := 52) hx hb d_M_count_48 rfl ?_
        refine lv_istore_n (i := 3) (lv' := [(3, .int (nI (jm_cntF u 15 i) + 1)), (2, .int (nI (jm_cntF u 17 i))), (0, .ref (ad 0)), (1, .int k), (4, .int (nI (jm_cntF u 9 i))), (5, .int (nI i))]) hx hb d_M_count_52 rfl hl (by decide) rfl (fun ls hl => ?_)
        refine lv_aload_n hx hb d_M_count_53 rfl (lv_at hl 2 rfl) ?_
        refine jg_M hc hh 9 (by decide) rfl wf_M_38 d_M_count_54 ?_
        refine lv_iload hx hb d_M_count_57 (lv_at hl 5 rfl) ?_
        refine jmi_zld hc hh 9 (by decide) (by decide) hi d_M_count_59 ?_
        refine lv_if_eq (tgt := 70) hx hb d_M_count_60 rfl (fun h60 => ?_) (fun h60 => ?_)
        ·
          refine lv_iload hx hb d_M_count_70 (lv_at hl 4 rfl) ?_
          refine lv_istore (i := 4) (lv' := [(4, .int (nI (jm_cntF u 9 i))), (3, .int (nI (jm_cntF u 15 i) + 1)), (2, .int (nI (jm_cntF u 17 i))), (0, .ref (ad 0)), (1, .int k), (5, .int (nI i))]) hx hb d_M_count_72 hl (by decide) rfl (fun ls hl => ?_)
          refine lv_iinc (k := 5) (v := nI (i + 1)) (lv' := [(5, .int (nI (i + 1))), (4, .int (nI (jm_cntF u 9 i))), (3, .int (nI (jm_cntF u 15 i) + 1)), (2, .int (nI (jm_cntF u 17 i))), (0, .ref (ad 0)), (1, .int k)]) hx hb d_M_count_74 hl rfl (nI_1 i) (by decide) rfl (fun ls hl => ?_)
          refine lv_goto (tgt := 10) hx hb d_M_count_77 rfl ?_
          have e7 : nI (jm_cntF u 17 (i + 1)) = nI (jm_cntF u 17 i) := by first | (simp [nI_0, jm_cntF, nI_1, h24, h42, h60]; done) | (simp [nI_0, jm_cntF, nI_1, eq_true h24, h42, eq_true h60]; done)
          have e8 : nI (jm_cntF u 15 (i + 1)) = (nI (jm_cntF u 15 i) + 1) := by first | (simp [nI_0, jm_cntF, nI_1, h24, h42, h60]; done) | (simp [nI_0, jm_cntF, nI_1, eq_true h24, h42, eq_true h60]; done)
          have e9 : nI (jm_cntF u 9 (i + 1)) = nI (jm_cntF u 9 i) := by first | (simp [nI_0, jm_cntF, nI_1, h24, h42, h60]; done) | (simp [nI_0, jm_cntF, nI_1, eq_true h24, h42, eq_true h60]; done)
          refine ih (i + 1) _ (by omega) ?_
          try rw [e7]
          try rw [e8]
          try rw [e9]
          exact lv_sub hl [4, 5, 3, 2, 1, 0] rfl
        refine lv_iload hx hb d_M_count_63 (lv_at hl 4 rfl) ?_
        refine lv_iconst (v := 1) hx hb d_M_count_65 (by decide) ?_
        refine lv_iadd hx hb d_M_count_66 ?_
        refine lv_goto (tgt := 72) hx hb d_M_count_67 rfl ?_
        refine lv_istore (i := 4) (lv' := [(4, .int (nI (jm_cntF u 9 i) + 1)), (3, .int (nI (jm_cntF u 15 i) + 1)), (2, .int (nI (jm_cntF u 17 i))), (0, .ref (ad 0)), (1, .int k), (5, .int (nI i))]) hx hb d_M_count_72 hl (by decide) rfl (fun ls hl => ?_)
        refine lv_iinc (k := 5) (v := nI (i + 1)) (lv' := [(5, .int (nI (i + 1))), (4, .int (nI (jm_cntF u 9 i) + 1)), (3, .int (nI (jm_cntF u 15 i) + 1)), (2, .int (nI (jm_cntF u 17 i))), (0, .ref (ad 0)), (1, .int k)]) hx hb d_M_count_74 hl rfl (nI_1 i) (by decide) rfl (fun ls hl => ?_)
        refine lv_goto (tgt := 10) hx hb d_M_count_77 rfl ?_
        have e10 : nI (jm_cntF u 17 (i + 1)) = nI (jm_cntF u 17 i) := by first | (simp [nI_0, jm_cntF, nI_1, h24, h42, h60]; done) | (simp [nI_0, jm_cntF, nI_1, eq_true h24, h42, h60]; done)
        have e11 : nI (jm_cntF u 15 (i + 1)) = (nI (jm_cntF u 15 i) + 1) := by first | (simp [nI_0, jm_cntF, nI_1, h24, h42, h60]; done) | (simp [nI_0, jm_cntF, nI_1, eq_true h24, h42, h60]; done)
        have e12 : nI (jm_cntF u 9 (i + 1)) = (nI (jm_cntF u 9 i) + 1) := by first | (simp [nI_0, jm_cntF, nI_1, h24, h42, h60]; done) | (simp [nI_0, jm_cntF, nI_1, eq_true h24, h42, h60]; done)
        refine ih (i + 1) _ (by omega) ?_
        try rw [e10]
        try rw [e11]
        try rw [e12]
        exact lv_sub hl [4, 5, 3, 2, 1, 0] rfl
      refine lv_iload_n hx hb d_M_count_27 rfl (lv_at hl 2 rfl) ?_
      refine lv_iconst (v := 1) hx hb d_M_count_28 (by decide) ?_
      refine lv_iadd hx hb d_M_count_29 ?_
      refine lv_goto (tgt := 34) hx hb d_M_count_30 rfl ?_
      refine lv_istore_n (i := 2) (lv' := [(2, .int (nI (jm_cntF u 17 i) + 1)), (0, .ref (ad 0)), (1, .int k), (3, .int (nI (jm_cntF u 15 i))), (4, .int (nI (jm_cntF u 9 i))), (5, .int (nI i))]) hx hb d_M_count_34 rfl hl (by decide) rfl (fun ls hl => ?_)
      refine lv_aload_n hx hb d_M_count_35 rfl (lv_at hl 1 rfl) ?_
      refine jg_M hc hh 15 (by decide) rfl wf_M_56 d_M_count_36 ?_
      refine lv_iload hx hb d_M_count_39 (lv_at hl 5 rfl) ?_
      refine jmi_zld hc hh 15 (by decide) (by decide) hi d_M_count_41 ?_
      refine lv_if_eq (tgt := 51) hx hb d_M_count_42 rfl (fun h42 => ?_) (fun h42 => ?_)
      ·
        refine lv_iload_n hx hb d_M_count_51 rfl (lv_at hl 3 rfl) ?_
        refine lv_istore_n (i := 3) (lv' := [(3, .int (nI (jm_cntF u 15 i))), (2, .int (nI (jm_cntF u 17 i) + 1)), (0, .ref (ad 0)), (1, .int k), (4, .int (nI (jm_cntF u 9 i))), (5, .int (nI i))]) hx hb d_M_count_52 rfl hl (by decide) rfl (fun ls hl => ?_)
        refine lv_aload_n hx hb d_M_count_53 rfl (lv_at hl 2 rfl) ?_
        refine jg_M hc hh 9 (by decide) rfl wf_M_38 d_M_count_54 ?_
        refine lv_iload hx hb d_M_count_57 (lv_at hl 5 rfl) ?_
        refine jmi_zld hc hh 9 (by decide) (by decide) hi d_M_count_59 ?_
        refine lv_if_eq (tgt := 70) hx hb d_M_count_60 rfl (fun h60 => ?_) (fun h60 => ?_)
        ·
          refine lv_iload hx hb d_M_count_70 (lv_at hl 4 rfl) ?_
          refine lv_istore (i := 4) (lv' := [(4, .int (nI (jm_cntF u 9 i))), (3, .int (nI (jm_cntF u 15 i))), (2, .int (nI (jm_cntF u 17 i) + 1)), (0, .ref (ad 0)), (1, .int k), (5, .int (nI i))]) hx hb d_M_count_72 hl (by decide) rfl (fun ls hl => ?_)
          refine lv_iinc (k := 5) (v := nI (i + 1)) (lv' := [(5, .int (nI (i + 1))), (4, .int (nI (jm_cntF u 9 i))), (3, .int (nI (jm_cntF u 15 i))), (2, .int (nI (jm_cntF u 17 i) + 1)), (0, .ref (ad 0)), (1, .int k)]) hx hb d_M_count_74 hl rfl (nI_1 i) (by decide) rfl (fun ls hl => ?_)
          refine lv_goto (tgt := 10) hx hb d_M_count_77 rfl ?_
          have e13 : nI (jm_cntF u 17 (i + 1)) = (nI (jm_cntF u 17 i) + 1) := by first | (simp [nI_0, jm_cntF, nI_1, h24, h42, h60]; done) | (simp [nI_0, jm_cntF, nI_1, h24, eq_true h42, eq_true h60]; done)
          have e14 : nI (jm_cntF u 15 (i + 1)) = nI (jm_cntF u 15 i) := by first | (simp [nI_0, jm_cntF, nI_1, h24, h42, h60]; done) | (simp [nI_0, jm_cntF, nI_1, h24, eq_true h42, eq_true h60]; done)
          have e15 : nI (jm_cntF u 9 (i + 1)) = nI (jm_cntF u 9 i) := by first | (simp [nI_0, jm_cntF, nI_1, h24, h42, h60]; done) | (simp [nI_0, jm_cntF, nI_1, h24, eq_true h42, eq_true h60]; done)
          refine ih (i + 1) _ (by omega) ?_
          try rw [e13]
          try rw [e14]
          try rw [e15]
          exact lv_sub hl [4, 5, 3, 2, 1, 0] rfl
        refine lv_iload hx hb d_M_count_63 (lv_at hl 4 rfl) ?_
        refine lv_iconst (v := 1) hx hb d_M_count_65 (by decide) ?_
        refine lv_iadd hx hb d_M_count_66 ?_
        refine lv_goto (tgt := 72) hx hb d_M_count_67 rfl ?_
        refine lv_istore (i := 4) (lv' := [(4, .int (nI (jm_cntF u 9 i) + 1)), (3, .int (nI (jm_cntF u 15 i))), (2, .int (nI (jm_cntF u 17 i) + 1)), (0, .ref (ad 0)), (1, .int k), (5, .int (nI i))]) hx hb d_M_count_72 hl (by decide) rfl (fun ls hl => ?_)
        refine lv_iinc (k := 5) (v := nI (i + 1)) (lv' := [(5, .int (nI (i + 1))), (4, .int (nI (jm_cntF u 9 i) + 1)), (3, .int (nI (jm_cntF u 15 i))), (2, .int (nI (jm_cntF u 17 i) + 1)), (0, .ref (ad 0)), (1, .int k)]) hx hb d_M_count_74 hl rfl (nI_1 i) (by decide) rfl (fun ls hl => ?_)
        refine lv_goto (tgt := 10) hx hb d_M_count_77 rfl ?_
        have e16 : nI (jm_cntF u 17 (i + 1)) = (nI (jm_cntF u 17 i) + 1) := by first | (simp [nI_0, jm_cntF, nI_1, h24, h42, h60]; done) | (simp [nI_0, jm_cntF, nI_1, h24, eq_true h42, h60]; done)
        have e17 : nI (jm_cntF u 15 (i + 1)) = nI (jm_cntF u 15 i) := by first | (simp [nI_0, jm_cntF, nI_1, h24, h42, h60]; done) | (simp [nI_0, jm_cntF, nI_1, h24, eq_true h42, h60]; done)
        have e18 : nI (jm_cntF u 9 (i + 1)) = (nI (jm_cntF u 9 i) + 1) := by first | (simp [nI_0, jm_cntF, nI_1, h24, h42, h60]; done) | (simp [nI_0, jm_cntF, nI_1, h24, eq_true h42, h60]; done)
        refine ih (i + 1) _ (by omega) ?_
        try rw [e16]
        try rw [e17]
        try rw [e18]
        exact lv_sub hl [4, 5, 3, 2, 1, 0] rfl
      refine lv_iload_n hx hb d_M_count_45 rfl (lv_at hl 3 rfl) ?_
      refine lv_iconst (v := 1) hx hb d_M_count_46 (by decide) ?_
      refine lv_iadd hx hb d_M_count_47 ?_
      refine lv_goto (tgt := 52) hx hb d_M_count_48 rfl ?_
      refine lv_istore_n (i := 3) (lv' := [(3, .int (nI (jm_cntF u 15 i) + 1)), (2, .int (nI (jm_cntF u 17 i) + 1)), (0, .ref (ad 0)), (1, .int k), (4, .int (nI (jm_cntF u 9 i))), (5, .int (nI i))]) hx hb d_M_count_52 rfl hl (by decide) rfl (fun ls hl => ?_)
      refine lv_aload_n hx hb d_M_count_53 rfl (lv_at hl 2 rfl) ?_
      refine jg_M hc hh 9 (by decide) rfl wf_M_38 d_M_count_54 ?_
      refine lv_iload hx hb d_M_count_57 (lv_at hl 5 rfl) ?_
      refine jmi_zld hc hh 9 (by decide) (by decide) hi d_M_count_59 ?_
      refine lv_if_eq (tgt := 70) hx hb d_M_count_60 rfl (fun h60 => ?_) (fun h60 => ?_)
      ·
        refine lv_iload hx hb d_M_count_70 (lv_at hl 4 rfl) ?_
        refine lv_istore (i := 4) (lv' := [(4, .int (nI (jm_cntF u 9 i))), (3, .int (nI (jm_cntF u 15 i) + 1)), (2, .int (nI (jm_cntF u 17 i) + 1)), (0, .ref (ad 0)), (1, .int k), (5, .int (nI i))]) hx hb d_M_count_72 hl (by decide) rfl (fun ls hl => ?_)
        refine lv_iinc (k := 5) (v := nI (i + 1)) (lv' := [(5, .int (nI (i + 1))), (4, .int (nI (jm_cntF u 9 i))), (3, .int (nI (jm_cntF u 15 i) + 1)), (2, .int (nI (jm_cntF u 17 i) + 1)), (0, .ref (ad 0)), (1, .int k)]) hx hb d_M_count_74 hl rfl (nI_1 i) (by decide) rfl (fun ls hl => ?_)
        refine lv_goto (tgt := 10) hx hb d_M_count_77 rfl ?_
        have e19 : nI (jm_cntF u 17 (i + 1)) = (nI (jm_cntF u 17 i) + 1) := by first | (simp [nI_0, jm_cntF, nI_1, h24, h42, h60]; done) | (simp [nI_0, jm_cntF, nI_1, h24, h42, eq_true h60]; done)
        have e20 : nI (jm_cntF u 15 (i + 1)) = (nI (jm_cntF u 15 i) + 1) := by first | (simp [nI_0, jm_cntF, nI_1, h24, h42, h60]; done) | (simp [nI_0, jm_cntF, nI_1, h24, h42, eq_true h60]; done)
        have e21 : nI (jm_cntF u 9 (i + 1)) = nI (jm_cntF u 9 i) := by first | (simp [nI_0, jm_cntF, nI_1, h24, h42, h60]; done) | (simp [nI_0, jm_cntF, nI_1, h24, h42, eq_true h60]; done)
        refine ih (i + 1) _ (by omega) ?_
        try rw [e19]
        try rw [e20]
        try rw [e21]
        exact lv_sub hl [4, 5, 3, 2, 1, 0] rfl
      refine lv_iload hx hb d_M_count_63 (lv_at hl 4 rfl) ?_
      refine lv_iconst (v := 1) hx hb d_M_count_65 (by decide) ?_
      refine lv_iadd hx hb d_M_count_66 ?_
      refine lv_goto (tgt := 72) hx hb d_M_count_67 rfl ?_
      refine lv_istore (i := 4) (lv' := [(4, .int (nI (jm_cntF u 9 i) + 1)), (3, .int (nI (jm_cntF u 15 i) + 1)), (2, .int (nI (jm_cntF u 17 i) + 1)), (0, .ref (ad 0)), (1, .int k), (5, .int (nI i))]) hx hb d_M_count_72 hl (by decide) rfl (fun ls hl => ?_)
      refine lv_iinc (k := 5) (v := nI (i + 1)) (lv' := [(5, .int (nI (i + 1))), (4, .int (nI (jm_cntF u 9 i) + 1)), (3, .int (nI (jm_cntF u 15 i) + 1)), (2, .int (nI (jm_cntF u 17 i) + 1)), (0, .ref (ad 0)), (1, .int k)]) hx hb d_M_count_74 hl rfl (nI_1 i) (by decide) rfl (fun ls hl => ?_)
      refine lv_goto (tgt := 10) hx hb d_M_count_77 rfl ?_
      have e22 : nI (jm_cntF u 17 (i + 1)) = (nI (jm_cntF u 17 i) + 1) := by simp [nI_0, jm_cntF, nI_1, h24, h42, h60]
      have e23 : nI (jm_cntF u 15 (i + 1)) = (nI (jm_cntF u 15 i) + 1) := by simp [nI_0, jm_cntF, nI_1, h24, h42, h60]
      have e24 : nI (jm_cntF u 9 (i + 1)) = (nI (jm_cntF u 9 i) + 1) := by simp [nI_0, jm_cntF, nI_1, h24, h42, h60]
      refine ih (i + 1) _ (by omega) ?_
      try rw [e22]
      try rw [e23]
      try rw [e24]
      exact lv_sub hl [4, 5, 3, 2, 1, 0] rfl
  have e25 : nI (jm_cntF u 17 0) = 0 := by simp [nI_0, jm_cntF, nI_1]
  have e26 : nI (jm_cntF u 15 0) = 0 := by simp [nI_0, jm_cntF, nI_1]
  have e27 : nI (jm_cntF u 9 0) = 0 := by simp [nI_0, jm_cntF, nI_1]
  have e28 : nI 0 = 0 := rfl
  refine L10 48 0 _ (by omega) ?_
  try rw [e25]
  try rw [e26]
  try rw [e27]
  try rw [e28]
  exact lv_sub hl [4, 5, 3, 2, 1, 0] rfl
set_option maxHeartbeats 4000000 in
set_option maxRecDepth 100000 in
theorem m_url (l : Launch) (D : va_G) (aK ad : Nat → Nat) (cA : Nat → ClassId) (u : js_S) (n : Int32) : jx_M l y_M_url b_M_url 2 (some .int) (jr 3) D (jc_tys cA) aK 22 ad (jm_cell ad cA) [.ref (ad 0), .int n] u (fun r : Int32 => some (.int r)) (fun r u' => r = jm_url u n ∧ u' = u) := by
  refine jx_enter "JointHistoryModel" (by decide) rfl (by simp [lg_sl, vc_int, vc_ref, vc_long, jv_cat]) ?_
  intro p e s m args below meth c A Q H locs ls hQ hc hh hr hlk hl
  have hx := hc.1
  have hb := hc.2.1
  have hl : lv_has ls 2 [(0, .ref (ad 0)), (1, .int n)] := by simpa [lv_args, vc_int, vc_ref, vc_long, jv_cat] using hl
  refine lv_aload_n hx hb d_M_url_0 rfl (lv_at hl 0 rfl) ?_
  refine lv_iload_n hx hb d_M_url_1 rfl (lv_at hl 1 rfl) ?_
  refine jx_callV [.int n] [] hc hh (m_isShown l D aK ad cA u n) wy_M_146 ⟨by decide, rfl, rfl⟩ (by decide) rfl hl.1 rfl (by decide) ⟨Nat.zero_le _, Nat.zero_le _⟩ d_M_url_2 (fun r u9 H locs hp hh _ _ => ?_)
  rw [hp.2] at hh
  refine W.eq (g2 := F0 m 5 ls [.int (jm_isShown u n)]) (by rw [hp.1]; rfl) ?_
  refine lv_if_eq (tgt := 21) hx hb d_M_url_5 rfl (fun h5 => ?_) (fun h5 => ?_)
  ·
    refine lv_bipush (v := -4) hx hb d_M_url_21 (by decide) ?_
    exact jx_iret (r := (-4)) hc hh hQ hlk hr rfl rfl ⟨by first | (simp [jm_url, h5]; done) | (simp [jm_url, eq_true h5]; done), rfl⟩ d_M_url_23
  refine lv_aload_n hx hb d_M_url_8 rfl (lv_at hl 0 rfl) ?_
  refine jg_M hc hh 6 (by decide) rfl wf_M_29 d_M_url_9 ?_
  refine lv_aload_n hx hb d_M_url_12 rfl (lv_at hl 0 rfl) ?_
  refine lv_iload_n hx hb d_M_url_13 rfl (lv_at hl 1 rfl) ?_
  refine jx_callV [.int n] [.ref (ad 7)] hc hh (m_presentOf l D aK ad cA u n) wy_M_124 ⟨by decide, rfl, rfl⟩ (by decide) rfl hl.1 rfl (by simp [vc_int, vc_ref, vc_long, jv_cat]) ⟨Nat.zero_le _, Nat.zero_le _⟩ d_M_url_14 (fun r u9 H locs hp hh _ _ => ?_)
  rw [hp.2] at hh
  refine W.eq (g2 := F0 m 17 ls [.int (jm_presentOf u n), .ref (ad 7)]) (by rw [hp.1]; rfl) ?_
  refine jm_ild hc hh 6 (by decide) (by decide) jm_pr_ex d_M_url_17 ?_
  refine lv_goto (tgt := 23) hx hb d_M_url_18 rfl ?_
  exact jx_iret (r := (u 6 (ix (jm_presentOf u n)))) hc hh hQ hlk hr rfl rfl ⟨by simp [jm_url, h5], rfl⟩ d_M_url_23
set_option maxHeartbeats 4000000 in
set_option maxRecDepth 100000 in
theorem m_state (l : Launch) (D : va_G) (aK ad : Nat → Nat) (cA : Nat → ClassId) (u : js_S) (n : Int32) : jx_M l y_M_state b_M_state 2 (some .long) (jr 3) D (jc_tys cA) aK 22 ad (jm_cell ad cA) [.ref (ad 0), .int n] u (fun r : Int64 => some (.long r)) (fun r u' => r = jm_state u n ∧ u' = u) := by
  refine jx_enter "JointHistoryModel" (by decide) rfl (by simp [lg_sl, vc_int, vc_ref, vc_long, jv_cat]) ?_
  intro p e s m args below meth c A Q H locs ls hQ hc hh hr hlk hl
  have hx := hc.1
  have hb := hc.2.1
  have hl : lv_has ls 2 [(0, .ref (ad 0)), (1, .int n)] := by simpa [lv_args, vc_int, vc_ref, vc_long, jv_cat] using hl
  refine lv_aload_n hx hb d_M_state_0 rfl (lv_at hl 0 rfl) ?_
  refine lv_iload_n hx hb d_M_state_1 rfl (lv_at hl 1 rfl) ?_
  refine jx_callV [.int n] [] hc hh (m_isShown l D aK ad cA u n) wy_M_146 ⟨by decide, rfl, rfl⟩ (by decide) rfl hl.1 rfl (by decide) ⟨Nat.zero_le _, Nat.zero_le _⟩ d_M_state_2 (fun r u9 H locs hp hh _ _ => ?_)
  rw [hp.2] at hh
  refine W.eq (g2 := F0 m 5 ls [.int (jm_isShown u n)]) (by rw [hp.1]; rfl) ?_
  refine lv_if_eq (tgt := 22) hx hb d_M_state_5 rfl (fun h5 => ?_) (fun h5 => ?_)
  ·
    refine lv_ldc2 hx hb hc.2.2.2.1 (hc.2.2.2.2.1 _ wc_M_170) d_M_state_22 ?_
    exact jx_lret (r := 1099511627776) hc hh hQ hlk hr rfl ⟨by first | (simp [jm_state, h5]; done) | (simp [jm_state, eq_true h5]; done), rfl⟩ d_M_state_25
  refine lv_aload_n hx hb d_M_state_8 rfl (lv_at hl 0 rfl) ?_
  refine jg_M hc hh 7 (by decide) rfl wf_M_32 d_M_state_9 ?_
  refine lv_aload_n hx hb d_M_state_12 rfl (lv_at hl 0 rfl) ?_
  refine lv_iload_n hx hb d_M_state_13 rfl (lv_at hl 1 rfl) ?_
  refine jx_callV [.int n] [.ref (ad 8)] hc hh (m_presentOf l D aK ad cA u n) wy_M_124 ⟨by decide, rfl, rfl⟩ (by decide) rfl hl.1 rfl (by simp [vc_int, vc_ref, vc_long, jv_cat]) ⟨Nat.zero_le _, Nat.zero_le _⟩ d_M_state_14 (fun r u9 H locs hp hh _ _ => ?_)
  rw [hp.2] at hh
  refine W.eq (g2 := F0 m 17 ls [.int (jm_presentOf u n), .ref (ad 8)]) (by rw [hp.1]; rfl) ?_
  refine jm_ild hc hh 7 (by decide) (by decide) jm_pr_ex d_M_state_17 ?_
  refine lv_i2l hx hb d_M_state_18 rfl ?_
  refine lv_goto (tgt := 25) hx hb d_M_state_19 rfl ?_
  exact jx_lret (r := (u 7 (ix (jm_presentOf u n))).toInt64) hc hh hQ hlk hr rfl ⟨by simp [jm_state, h5], rfl⟩ d_M_state_25
set_option maxHeartbeats 4000000 in
set_option maxRecDepth 100000 in
theorem m_step (l : Launch) (D : va_G) (aK ad : Nat → Nat) (cA : Nat → ClassId) (u : js_S) (n : Int32) : jx_M l y_M_step b_M_step 2 (some .int) (jr 3) D (jc_tys cA) aK 22 ad (jm_cell ad cA) [.ref (ad 0), .int n] u (fun r : Int32 => some (.int r)) (fun r u' => r = jm_step u n ∧ u' = u) := by
  refine jx_enter "JointHistoryModel" (by decide) rfl (by simp [lg_sl, vc_int, vc_ref, vc_long, jv_cat]) ?_
  intro p e s m args below meth c A Q H locs ls hQ hc hh hr hlk hl
  have hx := hc.1
  have hb := hc.2.1
  have hl : lv_has ls 2 [(0, .ref (ad 0)), (1, .int n)] := by simpa [lv_args, vc_int, vc_ref, vc_long, jv_cat] using hl
  refine lv_aload_n hx hb d_M_step_0 rfl (lv_at hl 0 rfl) ?_
  refine lv_iload_n hx hb d_M_step_1 rfl (lv_at hl 1 rfl) ?_
  refine jx_callV [.int n] [] hc hh (m_isShown l D aK ad cA u n) wy_M_146 ⟨by decide, rfl, rfl⟩ (by decide) rfl hl.1 rfl (by decide) ⟨Nat.zero_le _, Nat.zero_le _⟩ d_M_step_2 (fun r u9 H locs hp hh _ _ => ?_)
  rw [hp.2] at hh
  refine W.eq (g2 := F0 m 5 ls [.int (jm_isShown u n)]) (by rw [hp.1]; rfl) ?_
  refine lv_if_eq (tgt := 21) hx hb d_M_step_5 rfl (fun h5 => ?_) (fun h5 => ?_)
  ·
    refine lv_bipush (v := -4) hx hb d_M_step_21 (by decide) ?_
    exact jx_iret (r := (-4)) hc hh hQ hlk hr rfl rfl ⟨by first | (simp [jm_step, h5]; done) | (simp [jm_step, eq_true h5]; done), rfl⟩ d_M_step_23
  refine lv_aload_n hx hb d_M_step_8 rfl (lv_at hl 0 rfl) ?_
  refine jg_M hc hh 5 (by decide) rfl wf_M_26 d_M_step_9 ?_
  refine lv_aload_n hx hb d_M_step_12 rfl (lv_at hl 0 rfl) ?_
  refine lv_iload_n hx hb d_M_step_13 rfl (lv_at hl 1 rfl) ?_
  refine jx_callV [.int n] [.ref (ad 6)] hc hh (m_presentOf l D aK ad cA u n) wy_M_124 ⟨by decide, rfl, rfl⟩ (by decide) rfl hl.1 rfl (by simp [vc_int, vc_ref, vc_long, jv_cat]) ⟨Nat.zero_le _, Nat.zero_le _⟩ d_M_step_14 (fun r u9 H locs hp hh _ _ => ?_)
  rw [hp.2] at hh
  refine W.eq (g2 := F0 m 17 ls [.int (jm_presentOf u n), .ref (ad 6)]) (by rw [hp.1]; rfl) ?_
  refine jm_ild hc hh 5 (by decide) (by decide) jm_pr_ex d_M_step_17 ?_
  refine lv_goto (tgt := 23) hx hb d_M_step_18 rfl ?_
  exact jx_iret (r := (u 5 (ix (jm_presentOf u n)))) hc hh hQ hlk hr rfl rfl ⟨by simp [jm_step, h5], rfl⟩ d_M_step_23
set_option maxHeartbeats 4000000 in
set_option maxRecDepth 100000 in
theorem m_origin (l : Launch) (D : va_G) (aK ad : Nat → Nat) (cA : Nat → ClassId) (u : js_S) (n : Int32) (hS : jm_Sh u) : jx_M l y_M_origin b_M_origin 2 (some .int) (jr 3) D (jc_tys cA) aK 22 ad (jm_cell ad cA) [.ref (ad 0), .int n] u (fun r : Int32 => some (.int r)) (fun r u' => r = jm_origin u n ∧ u' = u) := by
  refine jx_enter "JointHistoryModel" (by decide) rfl (by simp [lg_sl, vc_int, vc_ref, vc_long, jv_cat]) ?_
  intro p e s m args below meth c A Q H locs ls hQ hc hh hr hlk hl
  have hx := hc.1
  have hb := hc.2.1
  have hl : lv_has ls 2 [(0, .ref (ad 0)), (1, .int n)] := by simpa [lv_args, vc_int, vc_ref, vc_long, jv_cat] using hl
  refine lv_aload_n hx hb d_M_origin_0 rfl (lv_at hl 0 rfl) ?_
  refine lv_iload_n hx hb d_M_origin_1 rfl (lv_at hl 1 rfl) ?_
  refine jx_callV [.int n] [] hc hh (m_isShown l D aK ad cA u n) wy_M_146 ⟨by decide, rfl, rfl⟩ (by decide) rfl hl.1 rfl (by decide) ⟨Nat.zero_le _, Nat.zero_le _⟩ d_M_origin_2 (fun r u9 H locs hp hh _ _ => ?_)
  rw [hp.2] at hh
  refine W.eq (g2 := F0 m 5 ls [.int (jm_isShown u n)]) (by rw [hp.1]; rfl) ?_
  refine lv_if_eq (tgt := 26) hx hb d_M_origin_5 rfl (fun h5 => ?_) (fun h5 => ?_)
  ·
    refine lv_bipush (v := -4) hx hb d_M_origin_26 (by decide) ?_
    exact jx_iret (r := (-4)) hc hh hQ hlk hr rfl rfl ⟨by first | (simp [jm_origin, h5]; done) | (simp [jm_origin, eq_true h5]; done), rfl⟩ d_M_origin_28
  refine lv_aload_n hx hb d_M_origin_8 rfl (lv_at hl 0 rfl) ?_
  refine jg_M hc hh 11 (by decide) rfl wf_M_44 d_M_origin_9 ?_
  refine lv_aload_n hx hb d_M_origin_12 rfl (lv_at hl 0 rfl) ?_
  refine jg_M hc hh 8 (by decide) rfl wf_M_35 d_M_origin_13 ?_
  refine lv_aload_n hx hb d_M_origin_16 rfl (lv_at hl 0 rfl) ?_
  refine lv_iload_n hx hb d_M_origin_17 rfl (lv_at hl 1 rfl) ?_
  refine jx_callV [.int n] [.ref (ad 9), .ref (ad 12)] hc hh (m_presentOf l D aK ad cA u n) wy_M_124 ⟨by decide, rfl, rfl⟩ (by decide) rfl hl.1 rfl (by simp [vc_int, vc_ref, vc_long, jv_cat]) ⟨Nat.zero_le _, Nat.zero_le _⟩ d_M_origin_18 (fun r u9 H locs hp hh _ _ => ?_)
  rw [hp.2] at hh
  refine W.eq (g2 := F0 m 21 ls [.int (jm_presentOf u n), .ref (ad 9), .ref (ad 12)]) (by rw [hp.1]; rfl) ?_
  refine jm_ild hc hh 8 (by decide) (by decide) jm_pr_ex d_M_origin_21 ?_
  refine jm_ild hc hh 11 (by decide) (by decide) (jm_Spx hS jm_pr_ex) d_M_origin_22 ?_
  refine lv_goto (tgt := 28) hx hb d_M_origin_23 rfl ?_
  exact jx_iret (r := (u 11 (ix (u 8 (ix (jm_presentOf u n)))))) hc hh hQ hlk hr rfl rfl ⟨by simp [jm_origin, h5], rfl⟩ d_M_origin_28
set_option maxHeartbeats 4000000 in
set_option maxRecDepth 100000 in
theorem m_frame (l : Launch) (D : va_G) (aK ad : Nat → Nat) (cA : Nat → ClassId) (u : js_S) (n : Int32) (k : Int32) (hS : jm_Sh u) : jx_M l y_M_frame b_M_frame 5 (some .int) (jr 3) D (jc_tys cA) aK 22 ad (jm_cell ad cA) [.ref (ad 0), .int n, .int k] u (fun r : Int32 => some (.int r)) (fun r u' => r = jm_frame u n k ∧ u' = u) := by
  refine jx_enter "JointHistoryModel" (by decide) rfl (by simp [lg_sl, vc_int, vc_ref, vc_long, jv_cat]) ?_
  intro p e s m args below meth c A Q H locs ls hQ hc hh hr hlk hl
  have hx := hc.1
  have hb := hc.2.1
  have hl : lv_has ls 5 [(0, .ref (ad 0)), (1, .int n), (2, .int k)] := by simpa [lv_args, vc_int, vc_ref, vc_long, jv_cat] using hl
  refine lv_aload_n hx hb d_M_frame_0 rfl (lv_at hl 0 rfl) ?_
  refine lv_iload_n hx hb d_M_frame_1 rfl (lv_at hl 1 rfl) ?_
  refine jx_callV [.int n] [] hc hh (m_isShown l D aK ad cA u n) wy_M_146 ⟨by decide, rfl, rfl⟩ (by decide) rfl hl.1 rfl (by decide) ⟨Nat.zero_le _, Nat.zero_le _⟩ d_M_frame_2 (fun r u9 H locs hp hh _ _ => ?_)
  rw [hp.2] at hh
  refine W.eq (g2 := F0 m 5 ls [.int (jm_isShown u n)]) (by rw [hp.1]; rfl) ?_
  refine lv_if_ne (tgt := 11) hx hb d_M_frame_5 rfl (fun h5 => ?_) (fun h5 => ?_)
  ·
    refine lv_aload_n hx hb d_M_frame_11 rfl (lv_at hl 0 rfl) ?_
    refine jg_M hc hh 8 (by decide) rfl wf_M_35 d_M_frame_12 ?_
    refine lv_aload_n hx hb d_M_frame_15 rfl (lv_at hl 0 rfl) ?_
    refine lv_iload_n hx hb d_M_frame_16 rfl (lv_at hl 1 rfl) ?_
    refine jx_callV [.int n] [.ref (ad 9)] hc hh (m_presentOf l D aK ad cA u n) wy_M_124 ⟨by decide, rfl, rfl⟩ (by decide) rfl hl.1 rfl (by simp [vc_int, vc_ref, vc_long, jv_cat]) ⟨Nat.zero_le _, Nat.zero_le _⟩ d_M_frame_17 (fun r u9 H locs hp hh _ _ => ?_)
    rw [hp.2] at hh
    refine W.eq (g2 := F0 m 20 ls [.int (jm_presentOf u n), .ref (ad 9)]) (by rw [hp.1]; rfl) ?_
    refine jm_ild hc hh 8 (by decide) (by decide) jm_pr_ex d_M_frame_20 ?_
    refine lv_istore_n (i := 3) (lv' := [(3, .int (u 8 (ix (jm_presentOf u n)))), (0, .ref (ad 0)), (1, .int n), (2, .int k)]) hx hb d_M_frame_21 rfl hl (by decide) rfl (fun ls hl => ?_)
    refine lv_iload_n hx hb d_M_frame_22 rfl (lv_at hl 3 rfl) ?_
    refine lv_if_ne (tgt := 35) hx hb d_M_frame_23 rfl (fun h23 => ?_) (fun h23 => ?_)
    ·
      refine lv_iload_n hx hb d_M_frame_35 rfl (lv_at hl 3 rfl) ?_
      refine lv_iconst (v := 1) hx hb d_M_frame_36 (by decide) ?_
      refine lv_icmp_ne (tgt := 49) hx hb d_M_frame_37 rfl (fun h37 => ?_) (fun h37 => ?_)
      ·
        refine lv_iconst (v := -1) hx hb d_M_frame_49 (by decide) ?_
        have J50 : ∀  (ls : Array Slot), lv_has ls 5 [(0, .ref (ad 0)), (1, .int n), (2, .int k)] → W p l e (jr 3) s m args below meth c H locs 0 0 Q (F0 m 50 ls [.int (jm_fr u (u 8 (ix (jm_presentOf u n))) k)]) := by
          intro  ls hl
          refine lv_istore (i := 4) (lv' := [(4, .int (jm_fr u (u 8 (ix (jm_presentOf u n))) k)), (0, .ref (ad 0)), (1, .int n), (2, .int k)]) hx hb d_M_frame_50 hl (by decide) rfl (fun ls hl => ?_)
          refine lv_iload hx hb d_M_frame_52 (lv_at hl 0 rfl) ?_
          refine lv_if_ge (tgt := 62) hx hb d_M_frame_54 rfl (fun h54 => ?_) (fun h54 => ?_)
          ·
            refine lv_iload hx hb d_M_frame_62 (lv_at hl 0 rfl) ?_
            exact jx_iret (r := (jm_fr u (u 8 (ix (jm_presentOf u n))) k)) hc hh hQ hlk hr rfl rfl ⟨by simp [jm_frame, h5, h54], rfl⟩ d_M_frame_64
          refine lv_bipush (v := -7) hx hb d_M_frame_57 (by decide) ?_
          refine lv_goto (tgt := 64) hx hb d_M_frame_59 rfl ?_
          exact jx_iret (r := (-7)) hc hh hQ hlk hr rfl rfl ⟨by simp [jm_frame, h5, h54], rfl⟩ d_M_frame_64
        have e1 : (jm_fr u (u 8 (ix (jm_presentOf u n))) k) = (-1) := by simp [jm_fr, h5, h23, h37]
        refine W.eq (g2 := F0 m 50 ls [.int (jm_fr u (u 8 (ix (jm_presentOf u n))) k)]) (by first | (rw [e1]; done) | (rw [e1]; rfl)) ?_
        refine J50 _ ?_
        exact lv_sub hl [1, 2, 3] rfl
      refine lv_aload_n hx hb d_M_frame_40 rfl (lv_at hl 1 rfl) ?_
      refine jg_M hc hh 14 (by decide) rfl wf_M_53 d_M_frame_41 ?_
      refine lv_iload_n hx hb d_M_frame_44 rfl (lv_at hl 0 rfl) ?_
      refine jm_ild hc hh 14 (by decide) (by decide) (jm_Spx hS jm_pr_ex) d_M_frame_45 ?_
      refine lv_goto (tgt := 50) hx hb d_M_frame_46 rfl ?_
      have J50 : ∀  (ls : Array Slot), lv_has ls 5 [(0, .ref (ad 0)), (1, .int n), (2, .int k)] → W p l e (jr 3) s m args below meth c H locs 0 0 Q (F0 m 50 ls [.int (jm_fr u (u 8 (ix (jm_presentOf u n))) k)]) := by
        intro  ls hl
        refine lv_istore (i := 4) (lv' := [(4, .int (jm_fr u (u 8 (ix (jm_presentOf u n))) k)), (0, .ref (ad 0)), (1, .int n), (2, .int k)]) hx hb d_M_frame_50 hl (by decide) rfl (fun ls hl => ?_)
        refine lv_iload hx hb d_M_frame_52 (lv_at hl 0 rfl) ?_
        refine lv_if_ge (tgt := 62) hx hb d_M_frame_54 rfl (fun h54 => ?_) (fun h54 => ?_)
        ·
          refine lv_iload hx hb d_M_frame_62 (lv_at hl 0 rfl) ?_
          exact jx_iret (r := (jm_fr u (u 8 (ix (jm_presentOf u n))) k)) hc hh hQ hlk hr rfl rfl ⟨by simp [jm_frame, h5, h54], rfl⟩ d_M_frame_64
        refine lv_bipush (v := -7) hx hb d_M_frame_57 (by decide) ?_
        refine lv_goto (tgt := 64) hx hb d_M_frame_59 rfl ?_
        exact jx_iret (r := (-7)) hc hh hQ hlk hr rfl rfl ⟨by simp [jm_frame, h5, h54], rfl⟩ d_M_frame_64
      have e2 : (jm_fr u (u 8 (ix (jm_presentOf u n))) k) = (u 14 (ix (u 8 (ix (jm_presentOf u n))))) := by first | (simp [jm_fr, h5, h23, h37]; done) | (simp [jm_fr, h5, h23, eq_true h37]; done)
      refine W.eq (g2 := F0 m 50 ls [.int (jm_fr u (u 8 (ix (jm_presentOf u n))) k)]) (by first | (rw [e2]; done) | (rw [e2]; rfl)) ?_
      refine J50 _ ?_
      exact lv_sub hl [1, 2, 3] rfl
    refine lv_aload_n hx hb d_M_frame_26 rfl (lv_at hl 1 rfl) ?_
    refine jg_M hc hh 13 (by decide) rfl wf_M_50 d_M_frame_27 ?_
    refine lv_iload_n hx hb d_M_frame_30 rfl (lv_at hl 0 rfl) ?_
    refine jm_ild hc hh 13 (by decide) (by decide) (jm_Spx hS jm_pr_ex) d_M_frame_31 ?_
    refine lv_goto (tgt := 50) hx hb d_M_frame_32 rfl ?_
    have J50 : ∀  (ls : Array Slot), lv_has ls 5 [(0, .ref (ad 0)), (1, .int n), (2, .int k)] → W p l e (jr 3) s m args below meth c H locs 0 0 Q (F0 m 50 ls [.int (jm_fr u (u 8 (ix (jm_presentOf u n))) k)]) := by
      intro  ls hl
      refine lv_istore (i := 4) (lv' := [(4, .int (jm_fr u (u 8 (ix (jm_presentOf u n))) k)), (0, .ref (ad 0)), (1, .int n), (2, .int k)]) hx hb d_M_frame_50 hl (by decide) rfl (fun ls hl => ?_)
      refine lv_iload hx hb d_M_frame_52 (lv_at hl 0 rfl) ?_
      refine lv_if_ge (tgt := 62) hx hb d_M_frame_54 rfl (fun h54 => ?_) (fun h54 => ?_)
      ·
        refine lv_iload hx hb d_M_frame_62 (lv_at hl 0 rfl) ?_
        exact jx_iret (r := (jm_fr u (u 8 (ix (jm_presentOf u n))) k)) hc hh hQ hlk hr rfl rfl ⟨by simp [jm_frame, h5, h54], rfl⟩ d_M_frame_64
      refine lv_bipush (v := -7) hx hb d_M_frame_57 (by decide) ?_
      refine lv_goto (tgt := 64) hx hb d_M_frame_59 rfl ?_
      exact jx_iret (r := (-7)) hc hh hQ hlk hr rfl rfl ⟨by simp [jm_frame, h5, h54], rfl⟩ d_M_frame_64
    have e3 : (jm_fr u (u 8 (ix (jm_presentOf u n))) k) = (u 13 (ix (u 8 (ix (jm_presentOf u n))))) := by first | (simp [jm_fr, h5, h23]; done) | (simp [jm_fr, h5, eq_true h23]; done)
    refine W.eq (g2 := F0 m 50 ls [.int (jm_fr u (u 8 (ix (jm_presentOf u n))) k)]) (by first | (rw [e3]; done) | (rw [e3]; rfl)) ?_
    refine J50 _ ?_
    exact lv_sub hl [1, 2, 3] rfl
  refine lv_bipush (v := -4) hx hb d_M_frame_8 (by decide) ?_
  exact jx_iret (r := (-4)) hc hh hQ hlk hr rfl rfl ⟨by first | (simp [jm_frame, h5]; done) | (simp [jm_frame, eq_true h5]; done), rfl⟩ d_M_frame_10
set_option maxHeartbeats 4000000 in
set_option maxRecDepth 100000 in
theorem m_content (l : Launch) (D : va_G) (aK ad : Nat → Nat) (cA : Nat → ClassId) (u : js_S) (page : Int32) (a : Int32) (b : Int32) (strict : Int32) (hz : strict = 0 ∨ strict = 1) : jx_M l y_M_content b_M_content 5 (some .boolean) (jr 2) D (jc_tys cA) aK 22 ad (jm_cell ad cA) [.ref (ad 0), .int page, .int a, .int b, .int strict] u (fun r : Int32 => some (.int r)) (fun r u' => r = (jm_content u page a b strict).1 ∧ u' = (jm_content u page a b strict).2) := by
  refine jx_enter "JointHistoryModel" (by decide) rfl (by simp [lg_sl, vc_int, vc_ref, vc_long, jv_cat]) ?_
  intro p e s m args below meth c A Q H locs ls hQ hc hh hr hlk hl
  have hx := hc.1
  have hb := hc.2.1
  have hl : lv_has ls 5 [(0, .ref (ad 0)), (1, .int page), (2, .int a), (3, .int b), (4, .int strict)] := by simpa [lv_args, vc_int, vc_ref, vc_long, jv_cat] using hl
  refine lv_iload_n hx hb d_M_content_0 rfl (lv_at hl 1 rfl) ?_
  refine lv_iconst (v := 0) hx hb d_M_content_1 (by decide) ?_
  refine lv_bipush (v := 31) hx hb d_M_content_2 (by decide) ?_
  refine jx_callS [.int page, .int 0, .int 31] [] hc hh (m_between l D aK ad cA u page 0 31) wy_M_85 (by decide) rfl hl.1 rfl (by decide) ⟨Nat.zero_le _, Nat.zero_le _⟩ d_M_content_4 (fun r u9 H locs hp hh _ _ => ?_)
  rw [hp.2] at hh
  refine W.eq (g2 := F0 m 7 ls [.int (jm_btw page 0 31)]) (by rw [hp.1]; rfl) ?_
  refine lv_if_eq (tgt := 34) hx hb d_M_content_7 rfl (fun h7 => ?_) (fun h7 => ?_)
  ·
    refine lv_iconst (v := 0) hx hb d_M_content_34 (by decide) ?_
    exact jx_iret (r := 0) hc hh hQ hlk hr (by decide) rfl ⟨by first | (simp [jm_content, h7]; done) | (simp [jm_content, eq_true h7]; done), by first | (simp [jm_content, h7]; done) | (simp [jm_content, eq_true h7]; done)⟩ d_M_content_35
  refine lv_iload_n hx hb d_M_content_10 rfl (lv_at hl 2 rfl) ?_
  refine lv_bipush (v := -2) hx hb d_M_content_11 (by decide) ?_
  refine lv_sipush (v := 255) hx hb d_M_content_13 (by decide) ?_
  refine jx_callS [.int a, .int (-2), .int 255] [] hc hh (m_between l D aK ad cA u a (-2) 255) wy_M_85 (by decide) rfl hl.1 rfl (by decide) ⟨Nat.zero_le _, Nat.zero_le _⟩ d_M_content_16 (fun r u9 H locs hp hh _ _ => ?_)
  rw [hp.2] at hh
  refine W.eq (g2 := F0 m 19 ls [.int (jm_btw a (-2) 255)]) (by rw [hp.1]; rfl) ?_
  refine lv_if_eq (tgt := 34) hx hb d_M_content_19 rfl (fun h19 => ?_) (fun h19 => ?_)
  ·
    refine lv_iconst (v := 0) hx hb d_M_content_34 (by decide) ?_
    exact jx_iret (r := 0) hc hh hQ hlk hr (by decide) rfl ⟨by first | (simp [jm_content, h7, h19]; done) | (simp [jm_content, h7, eq_true h19]; done), by first | (simp [jm_content, h7, h19]; done) | (simp [jm_content, h7, eq_true h19]; done)⟩ d_M_content_35
  refine lv_iload_n hx hb d_M_content_22 rfl (lv_at hl 3 rfl) ?_
  refine lv_bipush (v := -2) hx hb d_M_content_23 (by decide) ?_
  refine lv_sipush (v := 255) hx hb d_M_content_25 (by decide) ?_
  refine jx_callS [.int b, .int (-2), .int 255] [] hc hh (m_between l D aK ad cA u b (-2) 255) wy_M_85 (by decide) rfl hl.1 rfl (by decide) ⟨Nat.zero_le _, Nat.zero_le _⟩ d_M_content_28 (fun r u9 H locs hp hh _ _ => ?_)
  rw [hp.2] at hh
  refine W.eq (g2 := F0 m 31 ls [.int (jm_btw b (-2) 255)]) (by rw [hp.1]; rfl) ?_
  refine lv_if_ne (tgt := 36) hx hb d_M_content_31 rfl (fun h31 => ?_) (fun h31 => ?_)
  ·
    refine lv_aload_n hx hb d_M_content_36 rfl (lv_at hl 0 rfl) ?_
    refine jg_M hc hh 0 (by decide) rfl wf_M_7 d_M_content_37 ?_
    refine lv_iload_n hx hb d_M_content_40 rfl (lv_at hl 1 rfl) ?_
    refine lv_iconst (v := 0) hx hb d_M_content_41 (by decide) ?_
    refine jm_ist hc hh 0 (by decide) (by decide) (jm_btw_31 h7) d_M_content_42 (fun H locs hh => ?_)
    refine lv_aload_n hx hb d_M_content_43 rfl (lv_at hl 0 rfl) ?_
    refine jg_M hc hh 1 (by decide) rfl wf_M_13 d_M_content_44 ?_
    refine lv_iload_n hx hb d_M_content_47 rfl (lv_at hl 1 rfl) ?_
    refine lv_iload_n hx hb d_M_content_48 rfl (lv_at hl 2 rfl) ?_
    refine jm_ist hc hh 1 (by decide) (by decide) (jm_btw_31 h7) d_M_content_49 (fun H locs hh => ?_)
    refine lv_aload_n hx hb d_M_content_50 rfl (lv_at hl 0 rfl) ?_
    refine jg_M hc hh 2 (by decide) rfl wf_M_16 d_M_content_51 ?_
    refine lv_iload_n hx hb d_M_content_54 rfl (lv_at hl 1 rfl) ?_
    refine lv_iload_n hx hb d_M_content_55 rfl (lv_at hl 3 rfl) ?_
    refine jm_ist hc hh 2 (by decide) (by decide) (jm_btw_31 h7) d_M_content_56 (fun H locs hh => ?_)
    refine lv_aload_n hx hb d_M_content_57 rfl (lv_at hl 0 rfl) ?_
    refine jg_M hc hh 3 (by decide) rfl wf_M_19 d_M_content_58 ?_
    refine lv_iload_n hx hb d_M_content_61 rfl (lv_at hl 1 rfl) ?_
    refine lv_iload hx hb d_M_content_62 (lv_at hl 4 rfl) ?_
    refine jm_zst hc hh 3 (by decide) (by decide) (jm_btw_31 h7) hz d_M_content_64 (fun H locs hh => ?_)
    refine lv_iconst (v := 1) hx hb d_M_content_65 (by decide) ?_
    exact jx_iret (r := 1) hc hh hQ hlk hr (by decide) rfl ⟨by simp [jm_content, h7, h19, h31], by simp [jm_content, h7, h19, h31]⟩ d_M_content_66
  refine lv_iconst (v := 0) hx hb d_M_content_34 (by decide) ?_
  exact jx_iret (r := 0) hc hh hQ hlk hr (by decide) rfl ⟨by first | (simp [jm_content, h7, h19, h31]; done) | (simp [jm_content, h7, h19, eq_true h31]; done), by first | (simp [jm_content, h7, h19, h31]; done) | (simp [jm_content, h7, h19, eq_true h31]; done)⟩ d_M_content_35
set_option maxHeartbeats 4000000 in
set_option maxRecDepth 100000 in
theorem m_detour (l : Launch) (D : va_G) (aK ad : Nat → Nat) (cA : Nat → ClassId) (u : js_S) (page : Int32) (url : Int32) : jx_M l y_M_detour b_M_detour 3 (some .boolean) (jr 2) D (jc_tys cA) aK 22 ad (jm_cell ad cA) [.ref (ad 0), .int page, .int url] u (fun r : Int32 => some (.int r)) (fun r u' => r = (jm_detour u page url).1 ∧ u' = (jm_detour u page url).2) := by
  refine jx_enter "JointHistoryModel" (by decide) rfl (by simp [lg_sl, vc_int, vc_ref, vc_long, jv_cat]) ?_
  intro p e s m args below meth c A Q H locs ls hQ hc hh hr hlk hl
  have hx := hc.1
  have hb := hc.2.1
  have hl : lv_has ls 3 [(0, .ref (ad 0)), (1, .int page), (2, .int url)] := by simpa [lv_args, vc_int, vc_ref, vc_long, jv_cat] using hl
  refine lv_iload_n hx hb d_M_detour_0 rfl (lv_at hl 1 rfl) ?_
  refine lv_iconst (v := 0) hx hb d_M_detour_1 (by decide) ?_
  refine lv_bipush (v := 31) hx hb d_M_detour_2 (by decide) ?_
  refine jx_callS [.int page, .int 0, .int 31] [] hc hh (m_between l D aK ad cA u page 0 31) wy_M_85 (by decide) rfl hl.1 rfl (by decide) ⟨Nat.zero_le _, Nat.zero_le _⟩ d_M_detour_4 (fun r u9 H locs hp hh _ _ => ?_)
  rw [hp.2] at hh
  refine W.eq (g2 := F0 m 7 ls [.int (jm_btw page 0 31)]) (by rw [hp.1]; rfl) ?_
  refine lv_if_eq (tgt := 21) hx hb d_M_detour_7 rfl (fun h7 => ?_) (fun h7 => ?_)
  ·
    refine lv_iconst (v := 0) hx hb d_M_detour_21 (by decide) ?_
    exact jx_iret (r := 0) hc hh hQ hlk hr (by decide) rfl ⟨by first | (simp [jm_detour, h7]; done) | (simp [jm_detour, eq_true h7]; done), by first | (simp [jm_detour, h7]; done) | (simp [jm_detour, eq_true h7]; done)⟩ d_M_detour_22
  refine lv_iload_n hx hb d_M_detour_10 rfl (lv_at hl 2 rfl) ?_
  refine lv_iconst (v := 0) hx hb d_M_detour_11 (by decide) ?_
  refine lv_sipush (v := 255) hx hb d_M_detour_12 (by decide) ?_
  refine jx_callS [.int url, .int 0, .int 255] [] hc hh (m_between l D aK ad cA u url 0 255) wy_M_85 (by decide) rfl hl.1 rfl (by decide) ⟨Nat.zero_le _, Nat.zero_le _⟩ d_M_detour_15 (fun r u9 H locs hp hh _ _ => ?_)
  rw [hp.2] at hh
  refine W.eq (g2 := F0 m 18 ls [.int (jm_btw url 0 255)]) (by rw [hp.1]; rfl) ?_
  refine lv_if_ne (tgt := 23) hx hb d_M_detour_18 rfl (fun h18 => ?_) (fun h18 => ?_)
  ·
    refine lv_aload_n hx hb d_M_detour_23 rfl (lv_at hl 0 rfl) ?_
    refine jg_M hc hh 0 (by decide) rfl wf_M_7 d_M_detour_24 ?_
    refine lv_iload_n hx hb d_M_detour_27 rfl (lv_at hl 1 rfl) ?_
    refine lv_iconst (v := 1) hx hb d_M_detour_28 (by decide) ?_
    refine jm_ist hc hh 0 (by decide) (by decide) (jm_btw_31 h7) d_M_detour_29 (fun H locs hh => ?_)
    refine lv_aload_n hx hb d_M_detour_30 rfl (lv_at hl 0 rfl) ?_
    refine jg_M hc hh 1 (by decide) rfl wf_M_13 d_M_detour_31 ?_
    refine lv_iload_n hx hb d_M_detour_34 rfl (lv_at hl 1 rfl) ?_
    refine lv_iload_n hx hb d_M_detour_35 rfl (lv_at hl 2 rfl) ?_
    refine jm_ist hc hh 1 (by decide) (by decide) (jm_btw_31 h7) d_M_detour_36 (fun H locs hh => ?_)
    refine lv_iconst (v := 1) hx hb d_M_detour_37 (by decide) ?_
    exact jx_iret (r := 1) hc hh hQ hlk hr (by decide) rfl ⟨by simp [jm_detour, h7, h18], by simp [jm_detour, h7, h18]⟩ d_M_detour_38
  refine lv_iconst (v := 0) hx hb d_M_detour_21 (by decide) ?_
  exact jx_iret (r := 0) hc hh hQ hlk hr (by decide) rfl ⟨by first | (simp [jm_detour, h7, h18]; done) | (simp [jm_detour, h7, eq_true h18]; done), by first | (simp [jm_detour, h7, h18]; done) | (simp [jm_detour, h7, eq_true h18]; done)⟩ d_M_detour_22
set_option maxHeartbeats 4000000 in
set_option maxRecDepth 100000 in
theorem m_fault (l : Launch) (D : va_G) (aK ad : Nat → Nat) (cA : Nat → ClassId) (u : js_S) (page : Int32) : jx_M l y_M_fault b_M_fault 2 (some .boolean) (jr 2) D (jc_tys cA) aK 22 ad (jm_cell ad cA) [.ref (ad 0), .int page] u (fun r : Int32 => some (.int r)) (fun r u' => r = (jm_fault u page).1 ∧ u' = (jm_fault u page).2) := by
  refine jx_enter "JointHistoryModel" (by decide) rfl (by simp [lg_sl, vc_int, vc_ref, vc_long, jv_cat]) ?_
  intro p e s m args below meth c A Q H locs ls hQ hc hh hr hlk hl
  have hx := hc.1
  have hb := hc.2.1
  have hl : lv_has ls 2 [(0, .ref (ad 0)), (1, .int page)] := by simpa [lv_args, vc_int, vc_ref, vc_long, jv_cat] using hl
  refine lv_iload_n hx hb d_M_fault_0 rfl (lv_at hl 1 rfl) ?_
  refine lv_iconst (v := 0) hx hb d_M_fault_1 (by decide) ?_
  refine lv_bipush (v := 31) hx hb d_M_fault_2 (by decide) ?_
  refine jx_callS [.int page, .int 0, .int 31] [] hc hh (m_between l D aK ad cA u page 0 31) wy_M_85 (by decide) rfl hl.1 rfl (by decide) ⟨Nat.zero_le _, Nat.zero_le _⟩ d_M_fault_4 (fun r u9 H locs hp hh _ _ => ?_)
  rw [hp.2] at hh
  refine W.eq (g2 := F0 m 7 ls [.int (jm_btw page 0 31)]) (by rw [hp.1]; rfl) ?_
  refine lv_if_ne (tgt := 12) hx hb d_M_fault_7 rfl (fun h7 => ?_) (fun h7 => ?_)
  ·
    refine lv_aload_n hx hb d_M_fault_12 rfl (lv_at hl 0 rfl) ?_
    refine jg_M hc hh 0 (by decide) rfl wf_M_7 d_M_fault_13 ?_
    refine lv_iload_n hx hb d_M_fault_16 rfl (lv_at hl 1 rfl) ?_
    refine lv_iconst (v := 2) hx hb d_M_fault_17 (by decide) ?_
    refine jm_ist hc hh 0 (by decide) (by decide) (jm_btw_31 h7) d_M_fault_18 (fun H locs hh => ?_)
    refine lv_iconst (v := 1) hx hb d_M_fault_19 (by decide) ?_
    exact jx_iret (r := 1) hc hh hQ hlk hr (by decide) rfl ⟨by simp [jm_fault, h7], by simp [jm_fault, h7]⟩ d_M_fault_20
  refine lv_iconst (v := 0) hx hb d_M_fault_10 (by decide) ?_
  exact jx_iret (r := 0) hc hh hQ hlk hr (by decide) rfl ⟨by first | (simp [jm_fault, h7]; done) | (simp [jm_fault, eq_true h7]; done), by first | (simp [jm_fault, h7]; done) | (simp [jm_fault, eq_true h7]; done)⟩ d_M_fault_11
