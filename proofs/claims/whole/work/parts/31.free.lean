set_option maxHeartbeats 4000000 in
set_option maxRecDepth 100000 in
theorem c_giveOpaqueOrigin (l : Launch) (D : va_G) (aK ad : Nat → Nat) (cA : Nat → ClassId) (u : js_S) : jx_M l y_J_giveOpaqueOrigin b_J_giveOpaqueOrigin 2 (some .int) (jr 1) D (jc_tys cA) aK 158 ad (jc_cell ad aK cA) [.ref (ad 0)] u (fun r : Int32 => some (.int r)) (fun r u' => r = 4 + u 24 0 ∧ u' = (js_up u 24 0 (u 24 0 + 1))) := by
  refine jx_enter "JointHistory" (by decide) rfl (by simp [lg_sl, vc_int, vc_ref, vc_long, jv_cat]) ?_
  intro p e s m args below meth c A Q H locs ls hQ hc hh hr hlk hl
  have hx := hc.1
  have hb := hc.2.1
  have hl : lv_has ls 2 [(0, .ref (ad 0))] := by simpa [lv_args, vc_int, vc_ref, vc_long, jv_cat] using hl
  refine lv_iconst (v := 4) hx hb d_J_giveOpaqueOrigin_0 (by decide) ?_
  refine lv_aload_n hx hb d_J_giveOpaqueOrigin_1 rfl (lv_at hl 0 rfl) ?_
  refine jg_J hc hh 8 (by decide) rfl wf_J_193 d_J_giveOpaqueOrigin_2 ?_
  refine lv_iadd hx hb d_J_giveOpaqueOrigin_5 ?_
  refine lv_istore_n (i := 1) (lv' := [(1, .int (4 + (u 24 0))), (0, .ref (ad 0))]) hx hb d_J_giveOpaqueOrigin_6 rfl hl (by decide) rfl (fun ls hl => ?_)
  refine lv_aload_n hx hb d_J_giveOpaqueOrigin_7 rfl (lv_at hl 1 rfl) ?_
  refine lv_dup hx hb d_J_giveOpaqueOrigin_8 rfl ?_
  refine jg_J hc hh 8 (by decide) rfl wf_J_193 d_J_giveOpaqueOrigin_9 ?_
  refine lv_iconst (v := 1) hx hb d_J_giveOpaqueOrigin_12 (by decide) ?_
  refine lv_iadd hx hb d_J_giveOpaqueOrigin_13 ?_
  refine jp_24 hc hh wf_J_193 d_J_giveOpaqueOrigin_14 (fun H locs hh => ?_)
  refine lv_iload_n hx hb d_J_giveOpaqueOrigin_17 rfl (lv_at hl 0 rfl) ?_
  exact jx_iret (r := (4 + (u 24 0))) hc hh hQ hlk hr rfl rfl ⟨by simp [], by simp []⟩ d_J_giveOpaqueOrigin_18
set_option maxHeartbeats 4000000 in
set_option maxRecDepth 100000 in
theorem c_freeNavigable (l : Launch) (D : va_G) (aK ad : Nat → Nat) (cA : Nat → ClassId) (u : js_S) : jx_M l y_J_freeNavigable b_J_freeNavigable 2 (some (.object "JointHistory$Navigable")) (jr 1) D (jc_tys cA) aK 158 ad (jc_cell ad aK cA) [.ref (ad 0)] u (fun r : Int32 => some (jv ad 38 r)) (fun r u' => r = nI (js_free u 5 38 1) ∧ u' = u) := by
  refine jx_enter "JointHistory" (by decide) rfl (by simp [lg_sl, vc_int, vc_ref, vc_long, jv_cat]) ?_
  intro p e s m args below meth c A Q H locs ls hQ hc hh hr hlk hl
  have hx := hc.1
  have hb := hc.2.1
  have hl : lv_has ls 2 [(0, .ref (ad 0))] := by simpa [lv_args, vc_int, vc_ref, vc_long, jv_cat] using hl
  refine lv_iconst (v := 1) hx hb d_J_freeNavigable_0 (by decide) ?_
  refine lv_istore_n (i := 1) (lv' := [(1, .int 1), (0, .ref (ad 0))]) hx hb d_J_freeNavigable_1 rfl hl (by decide) rfl (fun ls hl => ?_)
  have L2 : ∀ (n : Nat) (i : Nat) (ls : Array Slot), i + n = 39 → (js_free u 5 n i = js_free u 5 38 1) → lv_has ls 2 [(0, .ref (ad 0)), (1, .int (nI i))] → W p l e (jr 1) s m args below meth c H locs 0 0 Q (F0 m 2 ls []) := by
    intro n
    induction n with
    | zero =>
      intro i ls hm hf hl
      have hi : i < 40 := by omega
      refine lv_iload_n hx hb d_J_freeNavigable_2 rfl (lv_at hl 1 rfl) ?_
      refine lv_bipush (v := 39) hx hb d_J_freeNavigable_3 (by decide) ?_
      refine lv_icmp_ge (tgt := 26) hx hb d_J_freeNavigable_5 rfl (fun h5 => ?_) (fun hq => absurd (nI_le (show 39 ≤ i by omega) (show i < 2 ^ 31 by omega)) hq)
      have J26 : ∀ (i : Nat) (ls : Array Slot), (i < 40) → (i = js_free u 5 38 1) → lv_has ls 2 [(0, .ref (ad 0)), (1, .int (nI i))] → W p l e (jr 1) s m args below meth c H locs 0 0 Q (F0 m 26 ls []) := by
        intro i ls hi hf hl
        refine lv_aload_n hx hb d_J_freeNavigable_26 rfl (lv_at hl 0 rfl) ?_
        refine jg_J hc hh 1 (by decide) rfl wf_J_17 d_J_freeNavigable_27 ?_
        refine lv_iload_n hx hb d_J_freeNavigable_30 rfl (lv_at hl 1 rfl) ?_
        refine ja_N hc hh hi d_J_freeNavigable_31 ?_
        exact jx_aret (r := nI i) hc hh hQ hlk hr (jv_or _ _ _) rfl ⟨by rw [← hf], rfl⟩ d_J_freeNavigable_32
      refine J26 i _ hi (by rw [← hf]; first | rfl | simp [js_free, h17]) ?_
      exact lv_sub hl [0, 1] rfl
    | succ n ih =>
      intro i ls hm hf hl
      have hi : i < 40 := by omega
      have hi9 : i < 39 := by omega
      refine lv_iload_n hx hb d_J_freeNavigable_2 rfl (lv_at hl 1 rfl) ?_
      refine lv_bipush (v := 39) hx hb d_J_freeNavigable_3 (by decide) ?_
      refine lv_icmp_ge (tgt := 26) hx hb d_J_freeNavigable_5 rfl (fun hq => absurd hq (nI_ge hi9 (by decide))) (fun h5 => ?_)
      refine lv_aload_n hx hb d_J_freeNavigable_8 rfl (lv_at hl 0 rfl) ?_
      refine jg_J hc hh 1 (by decide) rfl wf_J_17 d_J_freeNavigable_9 ?_
      refine lv_iload_n hx hb d_J_freeNavigable_12 rfl (lv_at hl 1 rfl) ?_
      refine ja_N hc hh hi d_J_freeNavigable_13 ?_
      refine jg_N hc hh hi 1 (by decide) rfl wf_J_43 d_J_freeNavigable_14 ?_
      refine lv_if_eq (tgt := 26) hx hb d_J_freeNavigable_17 rfl (fun h17 => ?_) (fun h17 => ?_)
      ·
        have J26 : ∀ (i : Nat) (ls : Array Slot), (i < 40) → (i = js_free u 5 38 1) → lv_has ls 2 [(0, .ref (ad 0)), (1, .int (nI i))] → W p l e (jr 1) s m args below meth c H locs 0 0 Q (F0 m 26 ls []) := by
          intro i ls hi hf hl
          refine lv_aload_n hx hb d_J_freeNavigable_26 rfl (lv_at hl 0 rfl) ?_
          refine jg_J hc hh 1 (by decide) rfl wf_J_17 d_J_freeNavigable_27 ?_
          refine lv_iload_n hx hb d_J_freeNavigable_30 rfl (lv_at hl 1 rfl) ?_
          refine ja_N hc hh hi d_J_freeNavigable_31 ?_
          exact jx_aret (r := nI i) hc hh hQ hlk hr (jv_or _ _ _) rfl ⟨by rw [← hf], rfl⟩ d_J_freeNavigable_32
        refine J26 i _ hi (by rw [← hf]; first | rfl | simp [js_free, h17]) ?_
        exact lv_sub hl [0, 1] rfl
      refine lv_iinc (k := 1) (v := nI (i + 1)) (lv' := [(1, .int (nI (i + 1))), (0, .ref (ad 0))]) hx hb d_J_freeNavigable_20 hl rfl (nI_1 i) (by decide) rfl (fun ls hl => ?_)
      refine lv_goto (tgt := 2) hx hb d_J_freeNavigable_23 rfl ?_
      refine ih (i + 1) _ (by omega) (by rw [← hf]; simp [js_free, h17]) ?_
      exact lv_sub hl [1, 0] rfl
  have e1 : nI 1 = 1 := rfl
  refine L2 38 1 _ (by omega) rfl ?_
  try rw [e1]
  exact lv_sub hl [1, 0] rfl
set_option maxHeartbeats 4000000 in
set_option maxRecDepth 100000 in
theorem c_freeDocument (l : Launch) (D : va_G) (aK ad : Nat → Nat) (cA : Nat → ClassId) (u : js_S) (o : Int32) : jx_M l y_J_freeDocument b_J_freeDocument 4 (some (.object "JointHistory$Document")) (jr 1) D (jc_tys cA) aK 158 ad (jc_cell ad aK cA) [.ref (ad 0), jv ad 38 o] u (fun r : Int32 => some (jv ad 78 r)) (fun r u' => r = nI (js_free u 8 39 0) ∧ u' = (jc_freeDoc u o)) := by
  refine jx_enter "JointHistory" (by decide) rfl (by simp [lg_sl, vc_int, vc_ref, vc_long, jv_cat]) ?_
  intro p e s m args below meth c A Q H locs ls hQ hc hh hr hlk hl
  have hx := hc.1
  have hb := hc.2.1
  have hl : lv_has ls 4 [(0, .ref (ad 0)), (1, jv ad 38 o)] := by simpa [lv_args, vc_int, vc_ref, vc_long, jv_cat] using hl
  refine lv_iconst (v := 0) hx hb d_J_freeDocument_0 (by decide) ?_
  refine lv_istore_n (i := 2) (lv' := [(2, .int 0), (0, .ref (ad 0)), (1, jv ad 38 o)]) hx hb d_J_freeDocument_1 rfl hl (by decide) (by simp [vc_int, vc_ref, vc_long, jv_cat]) (fun ls hl => ?_)
  have L2 : ∀ (n : Nat) (i : Nat) (ls : Array Slot), i + n = 39 → (js_free u 8 n i = js_free u 8 39 0) → lv_has ls 4 [(0, .ref (ad 0)), (1, jv ad 38 o), (2, .int (nI i))] → W p l e (jr 1) s m args below meth c H locs 0 0 Q (F0 m 2 ls []) := by
    intro n
    induction n with
    | zero =>
      intro i ls hm hf hl
      have hi : i < 40 := by omega
      refine lv_iload_n hx hb d_J_freeDocument_2 rfl (lv_at hl 2 rfl) ?_
      refine lv_bipush (v := 39) hx hb d_J_freeDocument_3 (by decide) ?_
      refine lv_icmp_ge (tgt := 26) hx hb d_J_freeDocument_5 rfl (fun h5 => ?_) (fun hq => absurd (nI_le (show 39 ≤ i by omega) (show i < 2 ^ 31 by omega)) hq)
      have J26 : ∀ (i : Nat) (ls : Array Slot), (i < 40) → (i = js_free u 8 39 0) → lv_has ls 4 [(0, .ref (ad 0)), (1, jv ad 38 o), (2, .int (nI i))] → W p l e (jr 1) s m args below meth c H locs 0 0 Q (F0 m 26 ls []) := by
        intro i ls hi hf hl
        refine lv_aload_n hx hb d_J_freeDocument_26 rfl (lv_at hl 0 rfl) ?_
        refine jg_J hc hh 2 (by decide) rfl wf_J_23 d_J_freeDocument_27 ?_
        refine lv_iload_n hx hb d_J_freeDocument_30 rfl (lv_at hl 2 rfl) ?_
        refine ja_D hc hh hi d_J_freeDocument_31 ?_
        refine jv_astore_n (i := 3) (lv' := [(3, jv ad 78 (nI i)), (0, .ref (ad 0)), (1, jv ad 38 o), (2, .int (nI i))]) hx hb d_J_freeDocument_32 rfl hl (by decide) rfl (fun ls hl => ?_)
        refine jv_aload_n hx hb d_J_freeDocument_33 rfl (lv_at hl 0 rfl) ?_
        refine lv_iconst (v := 1) hx hb d_J_freeDocument_34 (by decide) ?_
        refine jp_8 hc hh hi (by decide) wf_J_244 d_J_freeDocument_35 (fun H locs hh => ?_)
        refine jv_aload_n hx hb d_J_freeDocument_38 rfl (lv_at hl 0 rfl) ?_
        refine jv_aload_n hx hb d_J_freeDocument_39 rfl (lv_at hl 2 rfl) ?_
        refine jp_9 hc hh hi wf_J_211 d_J_freeDocument_40 (fun H locs hh => ?_)
        refine jv_aload_n hx hb d_J_freeDocument_43 rfl (lv_at hl 0 rfl) ?_
        refine jv_const (ad := ad) (off := 38) hx hb d_J_freeDocument_44 ?_
        refine jp_12 hc hh hi wf_J_171 d_J_freeDocument_45 (fun H locs hh => ?_)
        refine jv_aload_n hx hb d_J_freeDocument_48 rfl (lv_at hl 0 rfl) ?_
        refine jv_const (ad := ad) (off := 38) hx hb d_J_freeDocument_49 ?_
        refine jp_13 hc hh hi wf_J_177 d_J_freeDocument_50 (fun H locs hh => ?_)
        refine jv_aload_n hx hb d_J_freeDocument_53 rfl (lv_at hl 0 rfl) ?_
        exact jx_aret (r := nI i) hc hh hQ hlk hr (jv_or _ _ _) rfl ⟨by rw [← hf], by rw [hf]; rfl⟩ d_J_freeDocument_54
      refine J26 i _ hi (by rw [← hf]; first | rfl | simp [js_free, h17]) ?_
      exact lv_sub hl [0, 1, 2] rfl
    | succ n ih =>
      intro i ls hm hf hl
      have hi : i < 40 := by omega
      have hi9 : i < 39 := by omega
      refine lv_iload_n hx hb d_J_freeDocument_2 rfl (lv_at hl 2 rfl) ?_
      refine lv_bipush (v := 39) hx hb d_J_freeDocument_3 (by decide) ?_
      refine lv_icmp_ge (tgt := 26) hx hb d_J_freeDocument_5 rfl (fun hq => absurd hq (nI_ge hi9 (by decide))) (fun h5 => ?_)
      refine lv_aload_n hx hb d_J_freeDocument_8 rfl (lv_at hl 0 rfl) ?_
      refine jg_J hc hh 2 (by decide) rfl wf_J_23 d_J_freeDocument_9 ?_
      refine lv_iload_n hx hb d_J_freeDocument_12 rfl (lv_at hl 2 rfl) ?_
      refine ja_D hc hh hi d_J_freeDocument_13 ?_
      refine jg_D hc hh hi 0 (by decide) rfl wf_J_244 d_J_freeDocument_14 ?_
      refine lv_if_eq (tgt := 26) hx hb d_J_freeDocument_17 rfl (fun h17 => ?_) (fun h17 => ?_)
      ·
        have J26 : ∀ (i : Nat) (ls : Array Slot), (i < 40) → (i = js_free u 8 39 0) → lv_has ls 4 [(0, .ref (ad 0)), (1, jv ad 38 o), (2, .int (nI i))] → W p l e (jr 1) s m args below meth c H locs 0 0 Q (F0 m 26 ls []) := by
          intro i ls hi hf hl
          refine lv_aload_n hx hb d_J_freeDocument_26 rfl (lv_at hl 0 rfl) ?_
          refine jg_J hc hh 2 (by decide) rfl wf_J_23 d_J_freeDocument_27 ?_
          refine lv_iload_n hx hb d_J_freeDocument_30 rfl (lv_at hl 2 rfl) ?_
          refine ja_D hc hh hi d_J_freeDocument_31 ?_
          refine jv_astore_n (i := 3) (lv' := [(3, jv ad 78 (nI i)), (0, .ref (ad 0)), (1, jv ad 38 o), (2, .int (nI i))]) hx hb d_J_freeDocument_32 rfl hl (by decide) rfl (fun ls hl => ?_)
          refine jv_aload_n hx hb d_J_freeDocument_33 rfl (lv_at hl 0 rfl) ?_
          refine lv_iconst (v := 1) hx hb d_J_freeDocument_34 (by decide) ?_
          refine jp_8 hc hh hi (by decide) wf_J_244 d_J_freeDocument_35 (fun H locs hh => ?_)
          refine jv_aload_n hx hb d_J_freeDocument_38 rfl (lv_at hl 0 rfl) ?_
          refine jv_aload_n hx hb d_J_freeDocument_39 rfl (lv_at hl 2 rfl) ?_
          refine jp_9 hc hh hi wf_J_211 d_J_freeDocument_40 (fun H locs hh => ?_)
          refine jv_aload_n hx hb d_J_freeDocument_43 rfl (lv_at hl 0 rfl) ?_
          refine jv_const (ad := ad) (off := 38) hx hb d_J_freeDocument_44 ?_
          refine jp_12 hc hh hi wf_J_171 d_J_freeDocument_45 (fun H locs hh => ?_)
          refine jv_aload_n hx hb d_J_freeDocument_48 rfl (lv_at hl 0 rfl) ?_
          refine jv_const (ad := ad) (off := 38) hx hb d_J_freeDocument_49 ?_
          refine jp_13 hc hh hi wf_J_177 d_J_freeDocument_50 (fun H locs hh => ?_)
          refine jv_aload_n hx hb d_J_freeDocument_53 rfl (lv_at hl 0 rfl) ?_
          exact jx_aret (r := nI i) hc hh hQ hlk hr (jv_or _ _ _) rfl ⟨by rw [← hf], by rw [hf]; rfl⟩ d_J_freeDocument_54
        refine J26 i _ hi (by rw [← hf]; first | rfl | simp [js_free, h17]) ?_
        exact lv_sub hl [0, 1, 2] rfl
      refine lv_iinc (k := 2) (v := nI (i + 1)) (lv' := [(2, .int (nI (i + 1))), (0, .ref (ad 0)), (1, jv ad 38 o)]) hx hb d_J_freeDocument_20 hl rfl (nI_1 i) (by decide) (by simp [vc_int, vc_ref, vc_long, jv_cat]) (fun ls hl => ?_)
      refine lv_goto (tgt := 2) hx hb d_J_freeDocument_23 rfl ?_
      refine ih (i + 1) _ (by omega) (by rw [← hf]; simp [js_free, h17]) ?_
      exact lv_sub hl [1, 2, 0] rfl
  have e1 : nI 0 = 0 := rfl
  refine L2 39 0 _ (by omega) rfl ?_
  try rw [e1]
  exact lv_sub hl [1, 2, 0] rfl
set_option maxHeartbeats 4000000 in
set_option maxRecDepth 100000 in
theorem c_addEntry (l : Launch) (D : va_G) (aK ad : Nat → Nat) (cA : Nat → ClassId) (u : js_S) (o : Int32) (st : Int32) (url : Int32) (state : Int32) (doc : Int32) : jx_M l y_J_addEntry b_J_addEntry 8 none (jr 1) D (jc_tys cA) aK 158 ad (jc_cell ad aK cA) [.ref (ad 0), jv ad 38 o, .int st, .int url, .int state, jv ad 78 doc] u (fun _ : Unit => none) (fun r u' => r = () ∧ u' = (jc_addEntry u o st url state doc)) := by
  refine jx_enter "JointHistory" (by decide) rfl (by simp [lg_sl, vc_int, vc_ref, vc_long, jv_cat]) ?_
  intro p e s m args below meth c A Q H locs ls hQ hc hh hr hlk hl
  have hx := hc.1
  have hb := hc.2.1
  have hl : lv_has ls 8 [(0, .ref (ad 0)), (1, jv ad 38 o), (2, .int st), (3, .int url), (4, .int state), (5, jv ad 78 doc)] := by simpa [lv_args, vc_int, vc_ref, vc_long, jv_cat] using hl
  refine lv_iconst (v := 0) hx hb d_J_addEntry_0 (by decide) ?_
  refine lv_istore (i := 6) (lv' := [(6, .int 0), (0, .ref (ad 0)), (1, jv ad 38 o), (2, .int st), (3, .int url), (4, .int state), (5, jv ad 78 doc)]) hx hb d_J_addEntry_1 hl (by decide) (by simp [vc_int, vc_ref, vc_long, jv_cat]) (fun ls hl => ?_)
  have L3 : ∀ (n : Nat) (i : Nat) (ls : Array Slot), i + n = 39 → (js_free u 14 n i = js_free u 14 39 0) → lv_has ls 8 [(0, .ref (ad 0)), (1, jv ad 38 o), (2, .int st), (3, .int url), (4, .int state), (5, jv ad 78 doc), (6, .int (nI i))] → W p l e (jr 1) s m args below meth c H locs 0 0 Q (F0 m 3 ls []) := by
    intro n
    induction n with
    | zero =>
      intro i ls hm hf hl
      have hi : i < 40 := by omega
      refine lv_iload hx hb d_J_addEntry_3 (lv_at hl 6 rfl) ?_
      refine lv_bipush (v := 39) hx hb d_J_addEntry_5 (by decide) ?_
      refine lv_icmp_ge (tgt := 29) hx hb d_J_addEntry_7 rfl (fun h7 => ?_) (fun hq => absurd (nI_le (show 39 ≤ i by omega) (show i < 2 ^ 31 by omega)) hq)
      have J29 : ∀ (i : Nat) (ls : Array Slot), (i < 40) → (i = js_free u 14 39 0) → lv_has ls 8 [(0, .ref (ad 0)), (1, jv ad 38 o), (2, .int st), (3, .int url), (4, .int state), (5, jv ad 78 doc), (6, .int (nI i))] → W p l e (jr 1) s m args below meth c H locs 0 0 Q (F0 m 29 ls []) := by
        intro i ls hi hf hl
        refine lv_aload_n hx hb d_J_addEntry_29 rfl (lv_at hl 0 rfl) ?_
        refine jg_J hc hh 3 (by decide) rfl wf_J_29 d_J_addEntry_30 ?_
        refine lv_iload hx hb d_J_addEntry_33 (lv_at hl 6 rfl) ?_
        refine ja_E hc hh hi d_J_addEntry_35 ?_
        refine jv_astore (i := 7) (lv' := [(7, jv ad 118 (nI i)), (0, .ref (ad 0)), (1, jv ad 38 o), (2, .int st), (3, .int url), (4, .int state), (5, jv ad 78 doc), (6, .int (nI i))]) hx hb d_J_addEntry_36 hl (by decide) rfl (fun ls hl => ?_)
        refine jv_aload hx hb d_J_addEntry_38 (lv_at hl 0 rfl) ?_
        refine lv_iconst (v := 1) hx hb d_J_addEntry_40 (by decide) ?_
        refine jp_14 hc hh hi (by decide) wf_J_179 d_J_addEntry_41 (fun H locs hh => ?_)
        refine jv_aload hx hb d_J_addEntry_44 (lv_at hl 0 rfl) ?_
        refine jv_aload_n hx hb d_J_addEntry_46 rfl (lv_at hl 2 rfl) ?_
        refine jp_15 hc hh hi wf_J_135 d_J_addEntry_47 (fun H locs hh => ?_)
        refine jv_aload hx hb d_J_addEntry_50 (lv_at hl 0 rfl) ?_
        refine lv_iload_n hx hb d_J_addEntry_52 rfl (lv_at hl 3 rfl) ?_
        refine jp_16 hc hh hi wf_J_128 d_J_addEntry_53 (fun H locs hh => ?_)
        refine jv_aload hx hb d_J_addEntry_56 (lv_at hl 0 rfl) ?_
        refine lv_iload_n hx hb d_J_addEntry_58 rfl (lv_at hl 4 rfl) ?_
        refine jp_17 hc hh hi wf_J_103 d_J_addEntry_59 (fun H locs hh => ?_)
        refine jv_aload hx hb d_J_addEntry_62 (lv_at hl 0 rfl) ?_
        refine lv_iload hx hb d_J_addEntry_64 (lv_at hl 5 rfl) ?_
        refine jp_18 hc hh hi wf_J_165 d_J_addEntry_66 (fun H locs hh => ?_)
        refine jv_aload hx hb d_J_addEntry_69 (lv_at hl 0 rfl) ?_
        refine jv_aload hx hb d_J_addEntry_71 (lv_at hl 6 rfl) ?_
        refine jp_19 hc hh hi wf_J_120 d_J_addEntry_73 (fun H locs hh => ?_)
        exact jx_vret (r := ()) hc hh hQ hlk hr rfl ⟨rfl, by rw [hf]; rfl⟩ d_J_addEntry_76
      refine J29 i _ hi (by rw [← hf]; first | rfl | simp [js_free, h20]) ?_
      exact lv_sub hl [0, 1, 2, 3, 4, 5, 6] rfl
    | succ n ih =>
      intro i ls hm hf hl
      have hi : i < 40 := by omega
      have hi9 : i < 39 := by omega
      refine lv_iload hx hb d_J_addEntry_3 (lv_at hl 6 rfl) ?_
      refine lv_bipush (v := 39) hx hb d_J_addEntry_5 (by decide) ?_
      refine lv_icmp_ge (tgt := 29) hx hb d_J_addEntry_7 rfl (fun hq => absurd hq (nI_ge hi9 (by decide))) (fun h7 => ?_)
      refine lv_aload_n hx hb d_J_addEntry_10 rfl (lv_at hl 0 rfl) ?_
      refine jg_J hc hh 3 (by decide) rfl wf_J_29 d_J_addEntry_11 ?_
      refine lv_iload hx hb d_J_addEntry_14 (lv_at hl 6 rfl) ?_
      refine ja_E hc hh hi d_J_addEntry_16 ?_
      refine jg_E hc hh hi 0 (by decide) rfl wf_J_179 d_J_addEntry_17 ?_
      refine lv_if_eq (tgt := 29) hx hb d_J_addEntry_20 rfl (fun h20 => ?_) (fun h20 => ?_)
      ·
        have J29 : ∀ (i : Nat) (ls : Array Slot), (i < 40) → (i = js_free u 14 39 0) → lv_has ls 8 [(0, .ref (ad 0)), (1, jv ad 38 o), (2, .int st), (3, .int url), (4, .int state), (5, jv ad 78 doc), (6, .int (nI i))] → W p l e (jr 1) s m args below meth c H locs 0 0 Q (F0 m 29 ls []) := by
          intro i ls hi hf hl
          refine lv_aload_n hx hb d_J_addEntry_29 rfl (lv_at hl 0 rfl) ?_
          refine jg_J hc hh 3 (by decide) rfl wf_J_29 d_J_addEntry_30 ?_
          refine lv_iload hx hb d_J_addEntry_33 (lv_at hl 6 rfl) ?_
          refine ja_E hc hh hi d_J_addEntry_35 ?_
          refine jv_astore (i := 7) (lv' := [(7, jv ad 118 (nI i)), (0, .ref (ad 0)), (1, jv ad 38 o), (2, .int st), (3, .int url), (4, .int state), (5, jv ad 78 doc), (6, .int (nI i))]) hx hb d_J_addEntry_36 hl (by decide) rfl (fun ls hl => ?_)
          refine jv_aload hx hb d_J_addEntry_38 (lv_at hl 0 rfl) ?_
          refine lv_iconst (v := 1) hx hb d_J_addEntry_40 (by decide) ?_
          refine jp_14 hc hh hi (by decide) wf_J_179 d_J_addEntry_41 (fun H locs hh => ?_)
          refine jv_aload hx hb d_J_addEntry_44 (lv_at hl 0 rfl) ?_
          refine jv_aload_n hx hb d_J_addEntry_46 rfl (lv_at hl 2 rfl) ?_
          refine jp_15 hc hh hi wf_J_135 d_J_addEntry_47 (fun H locs hh => ?_)
          refine jv_aload hx hb d_J_addEntry_50 (lv_at hl 0 rfl) ?_
          refine lv_iload_n hx hb d_J_addEntry_52 rfl (lv_at hl 3 rfl) ?_
          refine jp_16 hc hh hi wf_J_128 d_J_addEntry_53 (fun H locs hh => ?_)
          refine jv_aload hx hb d_J_addEntry_56 (lv_at hl 0 rfl) ?_
          refine lv_iload_n hx hb d_J_addEntry_58 rfl (lv_at hl 4 rfl) ?_
          refine jp_17 hc hh hi wf_J_103 d_J_addEntry_59 (fun H locs hh => ?_)
          refine jv_aload hx hb d_J_addEntry_62 (lv_at hl 0 rfl) ?_
          refine lv_iload hx hb d_J_addEntry_64 (lv_at hl 5 rfl) ?_
          refine jp_18 hc hh hi wf_J_165 d_J_addEntry_66 (fun H locs hh => ?_)
          refine jv_aload hx hb d_J_addEntry_69 (lv_at hl 0 rfl) ?_
          refine jv_aload hx hb d_J_addEntry_71 (lv_at hl 6 rfl) ?_
          refine jp_19 hc hh hi wf_J_120 d_J_addEntry_73 (fun H locs hh => ?_)
          exact jx_vret (r := ()) hc hh hQ hlk hr rfl ⟨rfl, by rw [hf]; rfl⟩ d_J_addEntry_76
        refine J29 i _ hi (by rw [← hf]; first | rfl | simp [js_free, h20]) ?_
        exact lv_sub hl [0, 1, 2, 3, 4, 5, 6] rfl
      refine lv_iinc (k := 6) (v := nI (i + 1)) (lv' := [(6, .int (nI (i + 1))), (0, .ref (ad 0)), (1, jv ad 38 o), (2, .int st), (3, .int url), (4, .int state), (5, jv ad 78 doc)]) hx hb d_J_addEntry_23 hl rfl (nI_1 i) (by decide) (by simp [vc_int, vc_ref, vc_long, jv_cat]) (fun ls hl => ?_)
      refine lv_goto (tgt := 3) hx hb d_J_addEntry_26 rfl ?_
      refine ih (i + 1) _ (by omega) (by rw [← hf]; simp [js_free, h20]) ?_
      exact lv_sub hl [1, 2, 3, 4, 5, 6, 0] rfl
  have e1 : nI 0 = 0 := rfl
  refine L3 39 0 _ (by omega) rfl ?_
  try rw [e1]
  exact lv_sub hl [1, 2, 3, 4, 5, 6, 0] rfl
