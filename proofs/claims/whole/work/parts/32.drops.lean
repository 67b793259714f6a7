set_option maxHeartbeats 4000000 in
set_option maxRecDepth 100000 in
theorem c_keepOnlyHeldDocuments (l : Launch) (D : va_G) (aK ad : Nat → Nat) (cA : Nat → ClassId) (u : js_S) (hS : jc_Sh u) : jx_M l y_J_keepOnlyHeldDocuments b_J_keepOnlyHeldDocuments 5 none (jr 1) D (jc_tys cA) aK 158 ad (jc_cell ad aK cA) [.ref (ad 0)] u (fun _ : Unit => none) (fun r u' => r = () ∧ u' = (jc_keepDocs u)) := by
  refine jx_enter "JointHistory" (by decide) rfl (by simp [lg_sl, vc_int, vc_ref, vc_long, jv_cat]) ?_
  intro p e s m args below meth c A Q H locs ls hQ hc hh hr hlk hl
  have hx := hc.1
  have hb := hc.2.1
  have hl : lv_has ls 5 [(0, .ref (ad 0))] := by simpa [lv_args, vc_int, vc_ref, vc_long, jv_cat] using hl
  refine lv_aload_n hx hb d_J_keepOnlyHeldDocuments_0 rfl (lv_at hl 0 rfl) ?_
  refine jg_J hc hh 2 (by decide) rfl wf_J_23 d_J_keepOnlyHeldDocuments_1 ?_
  refine lv_astore_n (i := 1) (lv' := [(1, .ref (ad 3)), (0, .ref (ad 0))]) hx hb d_J_keepOnlyHeldDocuments_4 rfl hl (by decide) rfl (fun ls hl => ?_)
  refine lv_aload_n hx hb d_J_keepOnlyHeldDocuments_5 rfl (lv_at hl 0 rfl) ?_
  refine jl_D hc hh d_J_keepOnlyHeldDocuments_6 ?_
  refine lv_istore_n (i := 2) (lv' := [(2, .int (nI 40)), (1, .ref (ad 3)), (0, .ref (ad 0))]) hx hb d_J_keepOnlyHeldDocuments_7 rfl hl (by decide) rfl (fun ls hl => ?_)
  refine lv_iconst (v := 0) hx hb d_J_keepOnlyHeldDocuments_8 (by decide) ?_
  refine lv_istore_n (i := 3) (lv' := [(3, .int 0), (2, .int (nI 40)), (1, .ref (ad 3)), (0, .ref (ad 0))]) hx hb d_J_keepOnlyHeldDocuments_9 rfl hl (by decide) rfl (fun ls hl => ?_)
  have L10 : ∀ (n : Nat) (i : Nat) (H : Heap) (locs : List Loc) (ls : Array Slot), i + n = 40 → jx_H D 158 ad (jc_cell ad aK cA (jc_kd1 u i)) A s.heap H locs → lv_has ls 5 [(0, .ref (ad 0)), (1, .ref (ad 3)), (2, .int (nI 40)), (3, .int (nI i))] → W p l e (jr 1) s m args below meth c H locs 0 0 Q (F0 m 10 ls []) := by
    intro n
    induction n with
    | zero =>
      intro i H locs ls hm hh hl
      have hi : i = 40 := by omega
      refine lv_iload_n hx hb d_J_keepOnlyHeldDocuments_10 rfl (lv_at hl 3 rfl) ?_
      refine lv_iload_n hx hb d_J_keepOnlyHeldDocuments_11 rfl (lv_at hl 2 rfl) ?_
      refine lv_icmp_ge (tgt := 32) hx hb d_J_keepOnlyHeldDocuments_12 rfl (fun h12 => ?_) (fun hq => absurd (nI_le (show 40 ≤ i by omega) (show i < 2 ^ 31 by omega)) hq)
      refine lv_aload_n hx hb d_J_keepOnlyHeldDocuments_32 rfl (lv_at hl 0 rfl) ?_
      refine jg_J hc hh 3 (by decide) rfl wf_J_29 d_J_keepOnlyHeldDocuments_33 ?_
      refine lv_astore_n (i := 1) (lv' := [(1, .ref (ad 4)), (0, .ref (ad 0)), (2, .int (nI 40)), (3, .int (nI i))]) hx hb d_J_keepOnlyHeldDocuments_36 rfl hl (by decide) rfl (fun ls hl => ?_)
      refine lv_aload_n hx hb d_J_keepOnlyHeldDocuments_37 rfl (lv_at hl 0 rfl) ?_
      refine jl_E hc hh d_J_keepOnlyHeldDocuments_38 ?_
      refine lv_istore_n (i := 2) (lv' := [(2, .int (nI 40)), (1, .ref (ad 4)), (0, .ref (ad 0)), (3, .int (nI i))]) hx hb d_J_keepOnlyHeldDocuments_39 rfl hl (by decide) rfl (fun ls hl => ?_)
      refine lv_iconst (v := 0) hx hb d_J_keepOnlyHeldDocuments_40 (by decide) ?_
      refine lv_istore_n (i := 3) (lv' := [(3, .int 0), (2, .int (nI 40)), (1, .ref (ad 4)), (0, .ref (ad 0))]) hx hb d_J_keepOnlyHeldDocuments_41 rfl hl (by decide) rfl (fun ls hl => ?_)
      have L42 : ∀ (n : Nat) (i : Nat) (H : Heap) (locs : List Loc) (ls : Array Slot), i + n = 40 → jx_H D 158 ad (jc_cell ad aK cA (jc_kd2 (jc_kd1 u 40) i)) A s.heap H locs → lv_has ls 5 [(0, .ref (ad 0)), (1, .ref (ad 4)), (2, .int (nI 40)), (3, .int (nI i))] → W p l e (jr 1) s m args below meth c H locs 0 0 Q (F0 m 42 ls []) := by
        intro n
        induction n with
        | zero =>
          intro i H locs ls hm hh hl
          have hi : i = 40 := by omega
          refine lv_iload_n hx hb d_J_keepOnlyHeldDocuments_42 rfl (lv_at hl 3 rfl) ?_
          refine lv_iload_n hx hb d_J_keepOnlyHeldDocuments_43 rfl (lv_at hl 2 rfl) ?_
          refine lv_icmp_ge (tgt := 75) hx hb d_J_keepOnlyHeldDocuments_44 rfl (fun h44 => ?_) (fun hq => absurd (nI_le (show 40 ≤ i by omega) (show i < 2 ^ 31 by omega)) hq)
          exact jx_vret (r := ()) hc hh hQ hlk hr rfl ⟨rfl, by first | (rw [hi]; done) | (rw [hi]; rfl) | (rw [hi]; simp [jc_keepDocs]; done)⟩ d_J_keepOnlyHeldDocuments_75
        | succ n ih =>
          intro i H locs ls hm hh hl
          have hi : i < 40 := by omega
          refine lv_iload_n hx hb d_J_keepOnlyHeldDocuments_42 rfl (lv_at hl 3 rfl) ?_
          refine lv_iload_n hx hb d_J_keepOnlyHeldDocuments_43 rfl (lv_at hl 2 rfl) ?_
          refine lv_icmp_ge (tgt := 75) hx hb d_J_keepOnlyHeldDocuments_44 rfl (fun hq => absurd hq (nI_ge hi (by decide))) (fun h44 => ?_)
          refine lv_aload_n hx hb d_J_keepOnlyHeldDocuments_47 rfl (lv_at hl 1 rfl) ?_
          refine lv_iload_n hx hb d_J_keepOnlyHeldDocuments_48 rfl (lv_at hl 3 rfl) ?_
          refine ja_E hc hh hi d_J_keepOnlyHeldDocuments_49 ?_
          refine jv_astore (i := 4) (lv' := [(4, jv ad 118 (nI i)), (0, .ref (ad 0)), (1, .ref (ad 4)), (2, .int (nI 40)), (3, .int (nI i))]) hx hb d_J_keepOnlyHeldDocuments_50 hl (by decide) rfl (fun ls hl => ?_)
          refine jv_aload hx hb d_J_keepOnlyHeldDocuments_52 (lv_at hl 0 rfl) ?_
          refine jg_E hc hh hi 0 (by decide) rfl wf_J_179 d_J_keepOnlyHeldDocuments_54 ?_
          refine lv_if_eq (tgt := 69) hx hb d_J_keepOnlyHeldDocuments_57 rfl (fun h57 => ?_) (fun h57 => ?_)
          ·
            refine lv_iinc (k := 4) (v := nI (i + 1)) (lv' := [(3, .int (nI (i + 1))), (4, jv ad 118 (nI i)), (0, .ref (ad 0)), (1, .ref (ad 4)), (2, .int (nI 40))]) hx hb d_J_keepOnlyHeldDocuments_69 hl rfl (nI_1 i) (by decide) rfl (fun ls hl => ?_)
            refine lv_goto (tgt := 42) hx hb d_J_keepOnlyHeldDocuments_72 rfl ?_
            have e1 : (jc_kd2 (jc_kd1 u 40) (i + 1)) = (jc_kd2 (jc_kd1 u 40) i) := by first | (simp [nI_0, jc_kd2, h57]; done) | (simp [nI_0, jc_kd2, eq_true h57]; done)
            refine ih (i + 1) _ _ _ (by omega) ?_ ?_
            ·
              try rw [e1]
              exact hh
            try rw [e1]
            exact lv_sub hl [2, 3, 4, 0] rfl
          refine jv_aload hx hb d_J_keepOnlyHeldDocuments_60 (lv_at hl 0 rfl) ?_
          refine jg_E hc hh hi 5 (by decide) rfl wf_J_120 d_J_keepOnlyHeldDocuments_62 ?_
          refine lv_iconst (v := 1) hx hb d_J_keepOnlyHeldDocuments_65 (by decide) ?_
          refine jpy_8 hc hh (jc_Sd (jc_Sh_kd2 (jc_Sh_kd1 hS 40) i) hi h57) (by decide) wf_J_244 d_J_keepOnlyHeldDocuments_66 (fun H locs hh => ?_)
          refine lv_iinc (k := 4) (v := nI (i + 1)) (lv' := [(3, .int (nI (i + 1))), (4, jv ad 118 (nI i)), (0, .ref (ad 0)), (1, .ref (ad 4)), (2, .int (nI 40))]) hx hb d_J_keepOnlyHeldDocuments_69 hl rfl (nI_1 i) (by decide) rfl (fun ls hl => ?_)
          refine lv_goto (tgt := 42) hx hb d_J_keepOnlyHeldDocuments_72 rfl ?_
          have e2 : (jc_kd2 (jc_kd1 u 40) (i + 1)) = (js_up (jc_kd2 (jc_kd1 u 40) i) 8 (ix ((jc_kd2 (jc_kd1 u 40) i) 19 i)) 1) := by simp [nI_0, jc_kd2, h57]
          refine ih (i + 1) _ _ _ (by omega) ?_ ?_
          ·
            try rw [e2]
            exact hh
          try rw [e2]
          exact lv_sub hl [2, 3, 4, 0] rfl
      have e3 : nI 0 = 0 := rfl
      have e4 : (jc_kd2 (jc_kd1 u 40) 0) = (jc_kd1 u i) := by first | (rw [hi]; done) | (rw [hi]; rfl) | (rw [hi]; simp [nI_0, jc_kd2]; done)
      refine L42 40 0 _ _ _ (by omega) ?_ ?_
      ·
        try rw [e3]
        try rw [e4]
        exact hh
      try rw [e3]
      try rw [e4]
      exact lv_sub hl [3, 2, 1, 0] rfl
    | succ n ih =>
      intro i H locs ls hm hh hl
      have hi : i < 40 := by omega
      refine lv_iload_n hx hb d_J_keepOnlyHeldDocuments_10 rfl (lv_at hl 3 rfl) ?_
      refine lv_iload_n hx hb d_J_keepOnlyHeldDocuments_11 rfl (lv_at hl 2 rfl) ?_
      refine lv_icmp_ge (tgt := 32) hx hb d_J_keepOnlyHeldDocuments_12 rfl (fun hq => absurd hq (nI_ge hi (by decide))) (fun h12 => ?_)
      refine lv_aload_n hx hb d_J_keepOnlyHeldDocuments_15 rfl (lv_at hl 1 rfl) ?_
      refine lv_iload_n hx hb d_J_keepOnlyHeldDocuments_16 rfl (lv_at hl 3 rfl) ?_
      refine ja_D hc hh hi d_J_keepOnlyHeldDocuments_17 ?_
      refine jv_astore (i := 4) (lv' := [(4, jv ad 78 (nI i)), (0, .ref (ad 0)), (1, .ref (ad 3)), (2, .int (nI 40)), (3, .int (nI i))]) hx hb d_J_keepOnlyHeldDocuments_18 hl (by decide) rfl (fun ls hl => ?_)
      refine jv_aload hx hb d_J_keepOnlyHeldDocuments_20 (lv_at hl 0 rfl) ?_
      refine lv_iconst (v := 0) hx hb d_J_keepOnlyHeldDocuments_22 (by decide) ?_
      refine jp_8 hc hh hi (by decide) wf_J_244 d_J_keepOnlyHeldDocuments_23 (fun H locs hh => ?_)
      refine lv_iinc (k := 4) (v := nI (i + 1)) (lv' := [(3, .int (nI (i + 1))), (4, jv ad 78 (nI i)), (0, .ref (ad 0)), (1, .ref (ad 3)), (2, .int (nI 40))]) hx hb d_J_keepOnlyHeldDocuments_26 hl rfl (nI_1 i) (by decide) rfl (fun ls hl => ?_)
      refine lv_goto (tgt := 10) hx hb d_J_keepOnlyHeldDocuments_29 rfl ?_
      have e5 : (jc_kd1 u (i + 1)) = (js_up (jc_kd1 u i) 8 i 0) := by simp [nI_0, jc_kd1]
      refine ih (i + 1) _ _ _ (by omega) ?_ ?_
      ·
        try rw [e5]
        exact hh
      try rw [e5]
      exact lv_sub hl [2, 3, 4, 0] rfl
  have e6 : nI 0 = 0 := rfl
  have e7 : (jc_kd1 u 0) = u := by simp [nI_0, jc_kd1]
  refine L10 40 0 _ _ _ (by omega) ?_ ?_
  ·
    try rw [e6]
    try rw [e7]
    exact hh
  try rw [e6]
  try rw [e7]
  exact lv_sub hl [3, 2, 1, 0] rfl
set_option maxHeartbeats 4000000 in
set_option maxRecDepth 100000 in
theorem c_dropFramesOfGoneDocuments (l : Launch) (D : va_G) (aK ad : Nat → Nat) (cA : Nat → ClassId) (u : js_S) (hS : jc_Sh u) : jx_M l y_J_dropFramesOfGoneDocuments b_J_dropFramesOfGoneDocuments 5 none (jr 1) D (jc_tys cA) aK 158 ad (jc_cell ad aK cA) [.ref (ad 0)] u (fun _ : Unit => none) (fun r u' => r = () ∧ u' = (jc_df u 40)) := by
  refine jx_enter "JointHistory" (by decide) rfl (by simp [lg_sl, vc_int, vc_ref, vc_long, jv_cat]) ?_
  intro p e s m args below meth c A Q H locs ls hQ hc hh hr hlk hl
  have hx := hc.1
  have hb := hc.2.1
  have hl : lv_has ls 5 [(0, .ref (ad 0))] := by simpa [lv_args, vc_int, vc_ref, vc_long, jv_cat] using hl
  refine lv_aload_n hx hb d_J_dropFramesOfGoneDocuments_0 rfl (lv_at hl 0 rfl) ?_
  refine jg_J hc hh 1 (by decide) rfl wf_J_17 d_J_dropFramesOfGoneDocuments_1 ?_
  refine lv_astore_n (i := 1) (lv' := [(1, .ref (ad 2)), (0, .ref (ad 0))]) hx hb d_J_dropFramesOfGoneDocuments_4 rfl hl (by decide) rfl (fun ls hl => ?_)
  refine lv_aload_n hx hb d_J_dropFramesOfGoneDocuments_5 rfl (lv_at hl 0 rfl) ?_
  refine jl_N hc hh d_J_dropFramesOfGoneDocuments_6 ?_
  refine lv_istore_n (i := 2) (lv' := [(2, .int (nI 40)), (1, .ref (ad 2)), (0, .ref (ad 0))]) hx hb d_J_dropFramesOfGoneDocuments_7 rfl hl (by decide) rfl (fun ls hl => ?_)
  refine lv_iconst (v := 0) hx hb d_J_dropFramesOfGoneDocuments_8 (by decide) ?_
  refine lv_istore_n (i := 3) (lv' := [(3, .int 0), (2, .int (nI 40)), (1, .ref (ad 2)), (0, .ref (ad 0))]) hx hb d_J_dropFramesOfGoneDocuments_9 rfl hl (by decide) rfl (fun ls hl => ?_)
  have L10 : ∀ (n : Nat) (i : Nat) (H : Heap) (locs : List Loc) (ls : Array Slot), i + n = 40 → jx_H D 158 ad (jc_cell ad aK cA (jc_df u i)) A s.heap H locs → lv_has ls 5 [(0, .ref (ad 0)), (1, .ref (ad 2)), (2, .int (nI 40)), (3, .int (nI i))] → W p l e (jr 1) s m args below meth c H locs 0 0 Q (F0 m 10 ls []) := by
    intro n
    induction n with
    | zero =>
      intro i H locs ls hm hh hl
      have hi : i = 40 := by omega
      refine lv_iload_n hx hb d_J_dropFramesOfGoneDocuments_10 rfl (lv_at hl 3 rfl) ?_
      refine lv_iload_n hx hb d_J_dropFramesOfGoneDocuments_11 rfl (lv_at hl 2 rfl) ?_
      refine lv_icmp_ge (tgt := 51) hx hb d_J_dropFramesOfGoneDocuments_12 rfl (fun h12 => ?_) (fun hq => absurd (nI_le (show 40 ≤ i by omega) (show i < 2 ^ 31 by omega)) hq)
      exact jx_vret (r := ()) hc hh hQ hlk hr rfl ⟨rfl, by first | (rw [hi]; done) | (rw [hi]; rfl) | (rw [hi]; simp []; done)⟩ d_J_dropFramesOfGoneDocuments_51
    | succ n ih =>
      intro i H locs ls hm hh hl
      have hi : i < 40 := by omega
      refine lv_iload_n hx hb d_J_dropFramesOfGoneDocuments_10 rfl (lv_at hl 3 rfl) ?_
      refine lv_iload_n hx hb d_J_dropFramesOfGoneDocuments_11 rfl (lv_at hl 2 rfl) ?_
      refine lv_icmp_ge (tgt := 51) hx hb d_J_dropFramesOfGoneDocuments_12 rfl (fun hq => absurd hq (nI_ge hi (by decide))) (fun h12 => ?_)
      refine lv_aload_n hx hb d_J_dropFramesOfGoneDocuments_15 rfl (lv_at hl 1 rfl) ?_
      refine lv_iload_n hx hb d_J_dropFramesOfGoneDocuments_16 rfl (lv_at hl 3 rfl) ?_
      refine ja_N hc hh hi d_J_dropFramesOfGoneDocuments_17 ?_
      refine jv_astore (i := 4) (lv' := [(4, jv ad 38 (nI i)), (0, .ref (ad 0)), (1, .ref (ad 2)), (2, .int (nI 40)), (3, .int (nI i))]) hx hb d_J_dropFramesOfGoneDocuments_18 hl (by decide) rfl (fun ls hl => ?_)
      refine jv_aload hx hb d_J_dropFramesOfGoneDocuments_20 (lv_at hl 0 rfl) ?_
      refine jg_N hc hh hi 3 (by decide) rfl wf_J_208 d_J_dropFramesOfGoneDocuments_22 ?_
      refine jv_ifnull (tgt := 45) hx hb d_J_dropFramesOfGoneDocuments_25 rfl (fun h25 => ?_) (fun h25 => ?_)
      ·
        refine lv_iinc (k := 4) (v := nI (i + 1)) (lv' := [(3, .int (nI (i + 1))), (4, jv ad 38 (nI i)), (0, .ref (ad 0)), (1, .ref (ad 2)), (2, .int (nI 40))]) hx hb d_J_dropFramesOfGoneDocuments_45 hl rfl (nI_1 i) (by decide) rfl (fun ls hl => ?_)
        refine lv_goto (tgt := 10) hx hb d_J_dropFramesOfGoneDocuments_48 rfl ?_
        have e1 : (jc_df u (i + 1)) = (jc_df u i) := by first | (simp [nI_0, jc_df, h25]; done) | (simp [nI_0, jc_df, eq_true h25]; done)
        refine ih (i + 1) _ _ _ (by omega) ?_ ?_
        ·
          try rw [e1]
          exact hh
        try rw [e1]
        exact lv_sub hl [2, 3, 4, 0] rfl
      refine jv_aload hx hb d_J_dropFramesOfGoneDocuments_28 (lv_at hl 0 rfl) ?_
      refine jg_N hc hh hi 3 (by decide) rfl wf_J_208 d_J_dropFramesOfGoneDocuments_30 ?_
      refine jgx_D hc hh (jq_ne (jc_S7 (jc_Sh_df hS i) hi) h25) 0 (by decide) rfl wf_J_244 d_J_dropFramesOfGoneDocuments_33 ?_
      refine lv_if_ne (tgt := 45) hx hb d_J_dropFramesOfGoneDocuments_36 rfl (fun h36 => ?_) (fun h36 => ?_)
      ·
        refine lv_iinc (k := 4) (v := nI (i + 1)) (lv' := [(3, .int (nI (i + 1))), (4, jv ad 38 (nI i)), (0, .ref (ad 0)), (1, .ref (ad 2)), (2, .int (nI 40))]) hx hb d_J_dropFramesOfGoneDocuments_45 hl rfl (nI_1 i) (by decide) rfl (fun ls hl => ?_)
        refine lv_goto (tgt := 10) hx hb d_J_dropFramesOfGoneDocuments_48 rfl ?_
        have e2 : (jc_df u (i + 1)) = (jc_df u i) := by simp [nI_0, jc_df, h25, h36]
        refine ih (i + 1) _ _ _ (by omega) ?_ ?_
        ·
          try rw [e2]
          exact hh
        try rw [e2]
        exact lv_sub hl [2, 3, 4, 0] rfl
      refine jv_aload hx hb d_J_dropFramesOfGoneDocuments_39 (lv_at hl 0 rfl) ?_
      refine lv_iconst (v := 0) hx hb d_J_dropFramesOfGoneDocuments_41 (by decide) ?_
      refine jp_5 hc hh hi (by decide) wf_J_43 d_J_dropFramesOfGoneDocuments_42 (fun H locs hh => ?_)
      refine lv_iinc (k := 4) (v := nI (i + 1)) (lv' := [(3, .int (nI (i + 1))), (4, jv ad 38 (nI i)), (0, .ref (ad 0)), (1, .ref (ad 2)), (2, .int (nI 40))]) hx hb d_J_dropFramesOfGoneDocuments_45 hl rfl (nI_1 i) (by decide) rfl (fun ls hl => ?_)
      refine lv_goto (tgt := 10) hx hb d_J_dropFramesOfGoneDocuments_48 rfl ?_
      have e3 : (jc_df u (i + 1)) = (js_up (jc_df u i) 5 i 0) := by first | (simp [nI_0, jc_df, h25, h36]; done) | (simp [nI_0, jc_df, h25, eq_true h36]; done)
      refine ih (i + 1) _ _ _ (by omega) ?_ ?_
      ·
        try rw [e3]
        exact hh
      try rw [e3]
      exact lv_sub hl [2, 3, 4, 0] rfl
  have e4 : nI 0 = 0 := rfl
  have e5 : (jc_df u 0) = u := by simp [nI_0, jc_df]
  refine L10 40 0 _ _ _ (by omega) ?_ ?_
  ·
    try rw [e4]
    try rw [e5]
    exact hh
  try rw [e4]
  try rw [e5]
  exact lv_sub hl [3, 2, 1, 0] rfl
set_option maxHeartbeats 4000000 in
set_option maxRecDepth 100000 in
theorem c_dropEntriesOfGoneNavigables (l : Launch) (D : va_G) (aK ad : Nat → Nat) (cA : Nat → ClassId) (u : js_S) (hS : jc_Sh u) : jx_M l y_J_dropEntriesOfGoneNavigables b_J_dropEntriesOfGoneNavigables 5 none (jr 1) D (jc_tys cA) aK 158 ad (jc_cell ad aK cA) [.ref (ad 0)] u (fun _ : Unit => none) (fun r u' => r = () ∧ u' = (jc_de u 40)) := by
  refine jx_enter "JointHistory" (by decide) rfl (by simp [lg_sl, vc_int, vc_ref, vc_long, jv_cat]) ?_
  intro p e s m args below meth c A Q H locs ls hQ hc hh hr hlk hl
  have hx := hc.1
  have hb := hc.2.1
  have hl : lv_has ls 5 [(0, .ref (ad 0))] := by simpa [lv_args, vc_int, vc_ref, vc_long, jv_cat] using hl
  refine lv_aload_n hx hb d_J_dropEntriesOfGoneNavigables_0 rfl (lv_at hl 0 rfl) ?_
  refine jg_J hc hh 3 (by decide) rfl wf_J_29 d_J_dropEntriesOfGoneNavigables_1 ?_
  refine lv_astore_n (i := 1) (lv' := [(1, .ref (ad 4)), (0, .ref (ad 0))]) hx hb d_J_dropEntriesOfGoneNavigables_4 rfl hl (by decide) rfl (fun ls hl => ?_)
  refine lv_aload_n hx hb d_J_dropEntriesOfGoneNavigables_5 rfl (lv_at hl 0 rfl) ?_
  refine jl_E hc hh d_J_dropEntriesOfGoneNavigables_6 ?_
  refine lv_istore_n (i := 2) (lv' := [(2, .int (nI 40)), (1, .ref (ad 4)), (0, .ref (ad 0))]) hx hb d_J_dropEntriesOfGoneNavigables_7 rfl hl (by decide) rfl (fun ls hl => ?_)
  refine lv_iconst (v := 0) hx hb d_J_dropEntriesOfGoneNavigables_8 (by decide) ?_
  refine lv_istore_n (i := 3) (lv' := [(3, .int 0), (2, .int (nI 40)), (1, .ref (ad 4)), (0, .ref (ad 0))]) hx hb d_J_dropEntriesOfGoneNavigables_9 rfl hl (by decide) rfl (fun ls hl => ?_)
  have L10 : ∀ (n : Nat) (i : Nat) (H : Heap) (locs : List Loc) (ls : Array Slot), i + n = 40 → jx_H D 158 ad (jc_cell ad aK cA (jc_de u i)) A s.heap H locs → lv_has ls 5 [(0, .ref (ad 0)), (1, .ref (ad 4)), (2, .int (nI 40)), (3, .int (nI i))] → W p l e (jr 1) s m args below meth c H locs 0 0 Q (F0 m 10 ls []) := by
    intro n
    induction n with
    | zero =>
      intro i H locs ls hm hh hl
      have hi : i = 40 := by omega
      refine lv_iload_n hx hb d_J_dropEntriesOfGoneNavigables_10 rfl (lv_at hl 3 rfl) ?_
      refine lv_iload_n hx hb d_J_dropEntriesOfGoneNavigables_11 rfl (lv_at hl 2 rfl) ?_
      refine lv_icmp_ge (tgt := 51) hx hb d_J_dropEntriesOfGoneNavigables_12 rfl (fun h12 => ?_) (fun hq => absurd (nI_le (show 40 ≤ i by omega) (show i < 2 ^ 31 by omega)) hq)
      exact jx_vret (r := ()) hc hh hQ hlk hr rfl ⟨rfl, by first | (rw [hi]; done) | (rw [hi]; rfl) | (rw [hi]; simp []; done)⟩ d_J_dropEntriesOfGoneNavigables_51
    | succ n ih =>
      intro i H locs ls hm hh hl
      have hi : i < 40 := by omega
      refine lv_iload_n hx hb d_J_dropEntriesOfGoneNavigables_10 rfl (lv_at hl 3 rfl) ?_
      refine lv_iload_n hx hb d_J_dropEntriesOfGoneNavigables_11 rfl (lv_at hl 2 rfl) ?_
      refine lv_icmp_ge (tgt := 51) hx hb d_J_dropEntriesOfGoneNavigables_12 rfl (fun hq => absurd hq (nI_ge hi (by decide))) (fun h12 => ?_)
      refine lv_aload_n hx hb d_J_dropEntriesOfGoneNavigables_15 rfl (lv_at hl 1 rfl) ?_
      refine lv_iload_n hx hb d_J_dropEntriesOfGoneNavigables_16 rfl (lv_at hl 3 rfl) ?_
      refine ja_E hc hh hi d_J_dropEntriesOfGoneNavigables_17 ?_
      refine jv_astore (i := 4) (lv' := [(4, jv ad 118 (nI i)), (0, .ref (ad 0)), (1, .ref (ad 4)), (2, .int (nI 40)), (3, .int (nI i))]) hx hb d_J_dropEntriesOfGoneNavigables_18 hl (by decide) rfl (fun ls hl => ?_)
      refine jv_aload hx hb d_J_dropEntriesOfGoneNavigables_20 (lv_at hl 0 rfl) ?_
      refine jg_E hc hh hi 0 (by decide) rfl wf_J_179 d_J_dropEntriesOfGoneNavigables_22 ?_
      refine lv_if_eq (tgt := 45) hx hb d_J_dropEntriesOfGoneNavigables_25 rfl (fun h25 => ?_) (fun h25 => ?_)
      ·
        refine lv_iinc (k := 4) (v := nI (i + 1)) (lv' := [(3, .int (nI (i + 1))), (4, jv ad 118 (nI i)), (0, .ref (ad 0)), (1, .ref (ad 4)), (2, .int (nI 40))]) hx hb d_J_dropEntriesOfGoneNavigables_45 hl rfl (nI_1 i) (by decide) rfl (fun ls hl => ?_)
        refine lv_goto (tgt := 10) hx hb d_J_dropEntriesOfGoneNavigables_48 rfl ?_
        have e1 : (jc_de u (i + 1)) = (jc_de u i) := by first | (simp [nI_0, jc_de, h25]; done) | (simp [nI_0, jc_de, eq_true h25]; done)
        refine ih (i + 1) _ _ _ (by omega) ?_ ?_
        ·
          try rw [e1]
          exact hh
        try rw [e1]
        exact lv_sub hl [2, 3, 4, 0] rfl
      refine jv_aload hx hb d_J_dropEntriesOfGoneNavigables_28 (lv_at hl 0 rfl) ?_
      refine jg_E hc hh hi 1 (by decide) rfl wf_J_135 d_J_dropEntriesOfGoneNavigables_30 ?_
      refine jgx_N hc hh (jc_So (jc_Sh_de hS i) hi h25) 1 (by decide) rfl wf_J_43 d_J_dropEntriesOfGoneNavigables_33 ?_
      refine lv_if_ne (tgt := 45) hx hb d_J_dropEntriesOfGoneNavigables_36 rfl (fun h36 => ?_) (fun h36 => ?_)
      ·
        refine lv_iinc (k := 4) (v := nI (i + 1)) (lv' := [(3, .int (nI (i + 1))), (4, jv ad 118 (nI i)), (0, .ref (ad 0)), (1, .ref (ad 4)), (2, .int (nI 40))]) hx hb d_J_dropEntriesOfGoneNavigables_45 hl rfl (nI_1 i) (by decide) rfl (fun ls hl => ?_)
        refine lv_goto (tgt := 10) hx hb d_J_dropEntriesOfGoneNavigables_48 rfl ?_
        have e2 : (jc_de u (i + 1)) = (jc_de u i) := by simp [nI_0, jc_de, h25, h36]
        refine ih (i + 1) _ _ _ (by omega) ?_ ?_
        ·
          try rw [e2]
          exact hh
        try rw [e2]
        exact lv_sub hl [2, 3, 4, 0] rfl
      refine jv_aload hx hb d_J_dropEntriesOfGoneNavigables_39 (lv_at hl 0 rfl) ?_
      refine lv_iconst (v := 0) hx hb d_J_dropEntriesOfGoneNavigables_41 (by decide) ?_
      refine jp_14 hc hh hi (by decide) wf_J_179 d_J_dropEntriesOfGoneNavigables_42 (fun H locs hh => ?_)
      refine lv_iinc (k := 4) (v := nI (i + 1)) (lv' := [(3, .int (nI (i + 1))), (4, jv ad 118 (nI i)), (0, .ref (ad 0)), (1, .ref (ad 4)), (2, .int (nI 40))]) hx hb d_J_dropEntriesOfGoneNavigables_45 hl rfl (nI_1 i) (by decide) rfl (fun ls hl => ?_)
      refine lv_goto (tgt := 10) hx hb d_J_dropEntriesOfGoneNavigables_48 rfl ?_
      have e3 : (jc_de u (i + 1)) = (js_up (jc_de u i) 14 i 0) := by first | (simp [nI_0, jc_de, h25, h36]; done) | (simp [nI_0, jc_de, h25, eq_true h36]; done)
      refine ih (i + 1) _ _ _ (by omega) ?_ ?_
      ·
        try rw [e3]
        exact hh
      try rw [e3]
      exact lv_sub hl [2, 3, 4, 0] rfl
  have e4 : nI 0 = 0 := rfl
  have e5 : (jc_de u 0) = u := by simp [nI_0, jc_de]
  refine L10 40 0 _ _ _ (by omega) ?_ ?_
  ·
    try rw [e4]
    try rw [e5]
    exact hh
  try rw [e4]
  try rw [e5]
  exact lv_sub hl [3, 2, 1, 0] rfl
set_option maxHeartbeats 4000000 in
set_option maxRecDepth 100000 in
theorem c_dropWhatIsGone (l : Launch) (D : va_G) (aK ad : Nat → Nat) (cA : Nat → ClassId) (u : js_S) (hS : jc_Sh u) : jx_M l y_J_dropWhatIsGone b_J_dropWhatIsGone 2 none (jr 2) D (jc_tys cA) aK 158 ad (jc_cell ad aK cA) [.ref (ad 0)] u (fun _ : Unit => none) (fun r u' => r = () ∧ u' = (jc_gone u)) := by
  refine jx_enter "JointHistory" (by decide) rfl (by simp [lg_sl, vc_int, vc_ref, vc_long, jv_cat]) ?_
  intro p e s m args below meth c A Q H locs ls hQ hc hh hr hlk hl
  have hx := hc.1
  have hb := hc.2.1
  have hl : lv_has ls 2 [(0, .ref (ad 0))] := by simpa [lv_args, vc_int, vc_ref, vc_long, jv_cat] using hl
  refine lv_iconst (v := 0) hx hb d_J_dropWhatIsGone_0 (by decide) ?_
  refine lv_istore_n (i := 1) (lv' := [(1, .int 0), (0, .ref (ad 0))]) hx hb d_J_dropWhatIsGone_1 rfl hl (by decide) rfl (fun ls hl => ?_)
  refine lv_iload_n hx hb d_J_dropWhatIsGone_2 rfl (lv_at hl 0 rfl) ?_
  refine lv_iconst (v := 3) hx hb d_J_dropWhatIsGone_3 (by decide) ?_
  refine lv_icmp_ge (tgt := 25) hx hb d_J_dropWhatIsGone_4 rfl (fun hq => absurd hq (by decide)) (fun h4 => ?_)
  refine lv_aload_n hx hb d_J_dropWhatIsGone_7 rfl (lv_at hl 1 rfl) ?_
  refine jx_callV [] [] hc hh (c_keepOnlyHeldDocuments l D aK ad cA u hS) wy_J_245 ⟨by decide, rfl, rfl⟩ (by decide) rfl hl.1 rfl (by decide) ⟨Nat.zero_le _, Nat.zero_le _⟩ d_J_dropWhatIsGone_8 (fun r u9 H locs hp hh _ _ => ?_)
  rw [hp.2] at hh
  refine W.eq (g2 := F0 m 11 ls []) (by first | rfl | (rw [hp.1]; rfl)) ?_
  refine lv_aload_n hx hb d_J_dropWhatIsGone_11 rfl (lv_at hl 1 rfl) ?_
  refine jx_callV [] [] hc hh (c_dropFramesOfGoneDocuments l D aK ad cA (jc_keepDocs u) (jc_Sh_keep hS)) wy_J_248 ⟨by decide, rfl, rfl⟩ (by decide) rfl hl.1 rfl (by decide) ⟨Nat.zero_le _, Nat.zero_le _⟩ d_J_dropWhatIsGone_12 (fun r u9 H locs hp hh _ _ => ?_)
  rw [hp.2] at hh
  refine W.eq (g2 := F0 m 15 ls []) (by first | rfl | (rw [hp.1]; rfl)) ?_
  refine lv_aload_n hx hb d_J_dropWhatIsGone_15 rfl (lv_at hl 1 rfl) ?_
  refine jx_callV [] [] hc hh (c_dropEntriesOfGoneNavigables l D aK ad cA (jc_df (jc_keepDocs u) 40) (jc_Sh_df (jc_Sh_keep hS) 40)) wy_J_251 ⟨by decide, rfl, rfl⟩ (by decide) rfl hl.1 rfl (by decide) ⟨Nat.zero_le _, Nat.zero_le _⟩ d_J_dropWhatIsGone_16 (fun r u9 H locs hp hh _ _ => ?_)
  rw [hp.2] at hh
  refine W.eq (g2 := F0 m 19 ls []) (by first | rfl | (rw [hp.1]; rfl)) ?_
  refine lv_iinc (k := 0) (v := 1) (lv' := [(1, .int 1), (0, .ref (ad 0))]) hx hb d_J_dropWhatIsGone_19 hl rfl (by decide) (by decide) rfl (fun ls hl => ?_)
  refine lv_goto (tgt := 2) hx hb d_J_dropWhatIsGone_22 rfl ?_
  refine lv_iload_n hx hb d_J_dropWhatIsGone_2 rfl (lv_at hl 0 rfl) ?_
  refine lv_iconst (v := 3) hx hb d_J_dropWhatIsGone_3 (by decide) ?_
  refine lv_icmp_ge (tgt := 25) hx hb d_J_dropWhatIsGone_4 rfl (fun hq => absurd hq (by decide)) (fun h4 => ?_)
  refine lv_aload_n hx hb d_J_dropWhatIsGone_7 rfl (lv_at hl 1 rfl) ?_
  refine jx_callV [] [] hc hh (c_keepOnlyHeldDocuments l D aK ad cA (jc_de (jc_df (jc_keepDocs u) 40) 40) (jc_Sh_de (jc_Sh_df (jc_Sh_keep hS) 40) 40)) wy_J_245 ⟨by decide, rfl, rfl⟩ (by decide) rfl hl.1 rfl (by decide) ⟨Nat.zero_le _, Nat.zero_le _⟩ d_J_dropWhatIsGone_8 (fun r u9 H locs hp hh _ _ => ?_)
  rw [hp.2] at hh
  refine W.eq (g2 := F0 m 11 ls []) (by first | rfl | (rw [hp.1]; rfl)) ?_
  refine lv_aload_n hx hb d_J_dropWhatIsGone_11 rfl (lv_at hl 1 rfl) ?_
  refine jx_callV [] [] hc hh (c_dropFramesOfGoneDocuments l D aK ad cA (jc_keepDocs (jc_de (jc_df (jc_keepDocs u) 40) 40)) (jc_Sh_keep (jc_Sh_de (jc_Sh_df (jc_Sh_keep hS) 40) 40))) wy_J_248 ⟨by decide, rfl, rfl⟩ (by decide) rfl hl.1 rfl (by decide) ⟨Nat.zero_le _, Nat.zero_le _⟩ d_J_dropWhatIsGone_12 (fun r u9 H locs hp hh _ _ => ?_)
  rw [hp.2] at hh
  refine W.eq (g2 := F0 m 15 ls []) (by first | rfl | (rw [hp.1]; rfl)) ?_
  refine lv_aload_n hx hb d_J_dropWhatIsGone_15 rfl (lv_at hl 1 rfl) ?_
  refine jx_callV [] [] hc hh (c_dropEntriesOfGoneNavigables l D aK ad cA (jc_df (jc_keepDocs (jc_de (jc_df (jc_keepDocs u) 40) 40)) 40) (jc_Sh_df (jc_Sh_keep (jc_Sh_de (jc_Sh_df (jc_Sh_keep hS) 40) 40)) 40)) wy_J_251 ⟨by decide, rfl, rfl⟩ (by decide) rfl hl.1 rfl (by decide) ⟨Nat.zero_le _, Nat.zero_le _⟩ d_J_dropWhatIsGone_16 (fun r u9 H locs hp hh _ _ => ?_)
  rw [hp.2] at hh
  refine W.eq (g2 := F0 m 19 ls []) (by first | rfl | (rw [hp.1]; rfl)) ?_
  refine lv_iinc (k := 0) (v := 2) (lv' := [(1, .int 2), (0, .ref (ad 0))]) hx hb d_J_dropWhatIsGone_19 hl rfl (by decide) (by decide) rfl (fun ls hl => ?_)
  refine lv_goto (tgt := 2) hx hb d_J_dropWhatIsGone_22 rfl ?_
  refine lv_iload_n hx hb d_J_dropWhatIsGone_2 rfl (lv_at hl 0 rfl) ?_
  refine lv_iconst (v := 3) hx hb d_J_dropWhatIsGone_3 (by decide) ?_
  refine lv_icmp_ge (tgt := 25) hx hb d_J_dropWhatIsGone_4 rfl (fun hq => absurd hq (by decide)) (fun h4 => ?_)
  refine lv_aload_n hx hb d_J_dropWhatIsGone_7 rfl (lv_at hl 1 rfl) ?_
  refine jx_callV [] [] hc hh (c_keepOnlyHeldDocuments l D aK ad cA (jc_de (jc_df (jc_keepDocs (jc_de (jc_df (jc_keepDocs u) 40) 40)) 40) 40) (jc_Sh_de (jc_Sh_df (jc_Sh_keep (jc_Sh_de (jc_Sh_df (jc_Sh_keep hS) 40) 40)) 40) 40)) wy_J_245 ⟨by decide, rfl, rfl⟩ (by decide) rfl hl.1 rfl (by decide) ⟨Nat.zero_le _, Nat.zero_le _⟩ d_J_dropWhatIsGone_8 (fun r u9 H locs hp hh _ _ => ?_)
  rw [hp.2] at hh
  refine W.eq (g2 := F0 m 11 ls []) (by first | rfl | (rw [hp.1]; rfl)) ?_
  refine lv_aload_n hx hb d_J_dropWhatIsGone_11 rfl (lv_at hl 1 rfl) ?_
  refine jx_callV [] [] hc hh (c_dropFramesOfGoneDocuments l D aK ad cA (jc_keepDocs (jc_de (jc_df (jc_keepDocs (jc_de (jc_df (jc_keepDocs u) 40) 40)) 40) 40)) (jc_Sh_keep (jc_Sh_de (jc_Sh_df (jc_Sh_keep (jc_Sh_de (jc_Sh_df (jc_Sh_keep hS) 40) 40)) 40) 40))) wy_J_248 ⟨by decide, rfl, rfl⟩ (by decide) rfl hl.1 rfl (by decide) ⟨Nat.zero_le _, Nat.zero_le _⟩ d_J_dropWhatIsGone_12 (fun r u9 H locs hp hh _ _ => ?_)
  rw [hp.2] at hh
  refine W.eq (g2 := F0 m 15 ls []) (by first | rfl | (rw [hp.1]; rfl)) ?_
  refine lv_aload_n hx hb d_J_dropWhatIsGone_15 rfl (lv_at hl 1 rfl) ?_
  refine jx_callV [] [] hc hh (c_dropEntriesOfGoneNavigables l D aK ad cA (jc_df (jc_keepDocs (jc_de (jc_df (jc_keepDocs (jc_de (jc_df (jc_keepDocs u) 40) 40)) 40) 40)) 40) (jc_Sh_df (jc_Sh_keep (jc_Sh_de (jc_Sh_df (jc_Sh_keep (jc_Sh_de (jc_Sh_df (jc_Sh_keep hS) 40) 40)) 40) 40)) 40)) wy_J_251 ⟨by decide, rfl, rfl⟩ (by decide) rfl hl.1 rfl (by decide) ⟨Nat.zero_le _, Nat.zero_le _⟩ d_J_dropWhatIsGone_16 (fun r u9 H locs hp hh _ _ => ?_)
  rw [hp.2] at hh
  refine W.eq (g2 := F0 m 19 ls []) (by first | rfl | (rw [hp.1]; rfl)) ?_
  refine lv_iinc (k := 0) (v := 3) (lv' := [(1, .int 3), (0, .ref (ad 0))]) hx hb d_J_dropWhatIsGone_19 hl rfl (by decide) (by decide) rfl (fun ls hl => ?_)
  refine lv_goto (tgt := 2) hx hb d_J_dropWhatIsGone_22 rfl ?_
  refine lv_iload_n hx hb d_J_dropWhatIsGone_2 rfl (lv_at hl 0 rfl) ?_
  refine lv_iconst (v := 3) hx hb d_J_dropWhatIsGone_3 (by decide) ?_
  refine lv_icmp_ge (tgt := 25) hx hb d_J_dropWhatIsGone_4 rfl (fun h4 => ?_) (fun hq => absurd (by decide) hq)
  exact jx_vret (r := ()) hc hh hQ hlk hr rfl ⟨rfl, rfl⟩ d_J_dropWhatIsGone_25
set_option maxHeartbeats 4000000 in
set_option maxRecDepth 100000 in
theorem c_settlePresentStep (l : Launch) (D : va_G) (aK ad : Nat → Nat) (cA : Nat → ClassId) (u : js_S) : jx_M l y_J_settlePresentStep b_J_settlePresentStep 6 none (jr 1) D (jc_tys cA) aK 158 ad (jc_cell ad aK cA) [.ref (ad 0)] u (fun _ : Unit => none) (fun r u' => r = () ∧ u' = (jc_settle u)) := by
  refine jx_enter "JointHistory" (by decide) rfl (by simp [lg_sl, vc_int, vc_ref, vc_long, jv_cat]) ?_
  intro p e s m args below meth c A Q H locs ls hQ hc hh hr hlk hl
  have hx := hc.1
  have hb := hc.2.1
  have hl : lv_has ls 6 [(0, .ref (ad 0))] := by simpa [lv_args, vc_int, vc_ref, vc_long, jv_cat] using hl
  refine lv_iconst (v := 0) hx hb d_J_settlePresentStep_0 (by decide) ?_
  refine lv_istore_n (i := 1) (lv' := [(1, .int 0), (0, .ref (ad 0))]) hx hb d_J_settlePresentStep_1 rfl hl (by decide) rfl (fun ls hl => ?_)
  refine lv_aload_n hx hb d_J_settlePresentStep_2 rfl (lv_at hl 1 rfl) ?_
  refine jg_J hc hh 3 (by decide) rfl wf_J_29 d_J_settlePresentStep_3 ?_
  refine lv_astore_n (i := 2) (lv' := [(2, .ref (ad 4)), (1, .int 0), (0, .ref (ad 0))]) hx hb d_J_settlePresentStep_6 rfl hl (by decide) rfl (fun ls hl => ?_)
  refine lv_aload_n hx hb d_J_settlePresentStep_7 rfl (lv_at hl 0 rfl) ?_
  refine jl_E hc hh d_J_settlePresentStep_8 ?_
  refine lv_istore_n (i := 3) (lv' := [(3, .int (nI 40)), (2, .ref (ad 4)), (1, .int 0), (0, .ref (ad 0))]) hx hb d_J_settlePresentStep_9 rfl hl (by decide) rfl (fun ls hl => ?_)
  refine lv_iconst (v := 0) hx hb d_J_settlePresentStep_10 (by decide) ?_
  refine lv_istore (i := 4) (lv' := [(4, .int 0), (3, .int (nI 40)), (2, .ref (ad 4)), (1, .int 0), (0, .ref (ad 0))]) hx hb d_J_settlePresentStep_11 hl (by decide) rfl (fun ls hl => ?_)
  have L13 : ∀ (n : Nat) (i : Nat) (ls : Array Slot), i + n = 40 → lv_has ls 6 [(0, .ref (ad 0)), (1, .int (jc_lt u i)), (2, .ref (ad 4)), (3, .int (nI 40)), (4, .int (nI i))] → W p l e (jr 1) s m args below meth c H locs 0 0 Q (F0 m 13 ls []) := by
    intro n
    induction n with
    | zero =>
      intro i ls hm hl
      have hi : i = 40 := by omega
      refine lv_iload hx hb d_J_settlePresentStep_13 (lv_at hl 4 rfl) ?_
      refine lv_iload_n hx hb d_J_settlePresentStep_15 rfl (lv_at hl 3 rfl) ?_
      refine lv_icmp_ge (tgt := 66) hx hb d_J_settlePresentStep_16 rfl (fun h16 => ?_) (fun hq => absurd (nI_le (show 40 ≤ i by omega) (show i < 2 ^ 31 by omega)) hq)
      refine lv_aload_n hx hb d_J_settlePresentStep_66 rfl (lv_at hl 0 rfl) ?_
      refine lv_iload_n hx hb d_J_settlePresentStep_67 rfl (lv_at hl 1 rfl) ?_
      refine jp_21 hc hh wf_J_96 d_J_settlePresentStep_68 (fun H locs hh => ?_)
      exact jx_vret (r := ()) hc hh hQ hlk hr rfl ⟨rfl, by first | (rw [hi]; done) | (rw [hi]; rfl) | (rw [hi]; simp [jc_settle]; done)⟩ d_J_settlePresentStep_71
    | succ n ih =>
      intro i ls hm hl
      have hi : i < 40 := by omega
      refine lv_iload hx hb d_J_settlePresentStep_13 (lv_at hl 4 rfl) ?_
      refine lv_iload_n hx hb d_J_settlePresentStep_15 rfl (lv_at hl 3 rfl) ?_
      refine lv_icmp_ge (tgt := 66) hx hb d_J_settlePresentStep_16 rfl (fun hq => absurd hq (nI_ge hi (by decide))) (fun h16 => ?_)
      refine lv_aload_n hx hb d_J_settlePresentStep_19 rfl (lv_at hl 2 rfl) ?_
      refine lv_iload hx hb d_J_settlePresentStep_20 (lv_at hl 4 rfl) ?_
      refine ja_E hc hh hi d_J_settlePresentStep_22 ?_
      refine jv_astore (i := 5) (lv' := [(5, jv ad 118 (nI i)), (0, .ref (ad 0)), (1, .int (jc_lt u i)), (2, .ref (ad 4)), (3, .int (nI 40)), (4, .int (nI i))]) hx hb d_J_settlePresentStep_23 hl (by decide) rfl (fun ls hl => ?_)
      refine jv_aload hx hb d_J_settlePresentStep_25 (lv_at hl 0 rfl) ?_
      refine jg_E hc hh hi 0 (by decide) rfl wf_J_179 d_J_settlePresentStep_27 ?_
      refine lv_if_eq (tgt := 60) hx hb d_J_settlePresentStep_30 rfl (fun h30 => ?_) (fun h30 => ?_)
      ·
        refine lv_iinc (k := 5) (v := nI (i + 1)) (lv' := [(4, .int (nI (i + 1))), (5, jv ad 118 (nI i)), (0, .ref (ad 0)), (1, .int (jc_lt u i)), (2, .ref (ad 4)), (3, .int (nI 40))]) hx hb d_J_settlePresentStep_60 hl rfl (nI_1 i) (by decide) rfl (fun ls hl => ?_)
        refine lv_goto (tgt := 13) hx hb d_J_settlePresentStep_63 rfl ?_
        have e1 : jc_lt u (i + 1) = jc_lt u i := by first | (simp [nI_0, jc_lt, h30]; done) | (simp [nI_0, jc_lt, eq_true h30]; done)
        refine ih (i + 1) _ (by omega) ?_
        try rw [e1]
        exact lv_sub hl [2, 3, 4, 5, 0] rfl
      refine jv_aload hx hb d_J_settlePresentStep_33 (lv_at hl 0 rfl) ?_
      refine jg_E hc hh hi 2 (by decide) rfl wf_J_128 d_J_settlePresentStep_35 ?_
      refine lv_aload_n hx hb d_J_settlePresentStep_38 rfl (lv_at hl 1 rfl) ?_
      refine jg_J hc hh 5 (by decide) rfl wf_J_96 d_J_settlePresentStep_39 ?_
      refine lv_icmp_gt (tgt := 60) hx hb d_J_settlePresentStep_42 rfl (fun h42 => ?_) (fun h42 => ?_)
      ·
        refine lv_iinc (k := 5) (v := nI (i + 1)) (lv' := [(4, .int (nI (i + 1))), (5, jv ad 118 (nI i)), (0, .ref (ad 0)), (1, .int (jc_lt u i)), (2, .ref (ad 4)), (3, .int (nI 40))]) hx hb d_J_settlePresentStep_60 hl rfl (nI_1 i) (by decide) rfl (fun ls hl => ?_)
        refine lv_goto (tgt := 13) hx hb d_J_settlePresentStep_63 rfl ?_
        have e2 : jc_lt u (i + 1) = jc_lt u i := by simp [nI_0, jc_lt, h30, h42]
        refine ih (i + 1) _ (by omega) ?_
        try rw [e2]
        exact lv_sub hl [2, 3, 4, 5, 0] rfl
      refine jv_aload hx hb d_J_settlePresentStep_45 (lv_at hl 0 rfl) ?_
      refine jg_E hc hh hi 2 (by decide) rfl wf_J_128 d_J_settlePresentStep_47 ?_
      refine lv_iload_n hx hb d_J_settlePresentStep_50 rfl (lv_at hl 2 rfl) ?_
      refine lv_icmp_le (tgt := 60) hx hb d_J_settlePresentStep_51 rfl (fun h51 => ?_) (fun h51 => ?_)
      ·
        refine lv_iinc (k := 5) (v := nI (i + 1)) (lv' := [(4, .int (nI (i + 1))), (5, jv ad 118 (nI i)), (0, .ref (ad 0)), (1, .int (jc_lt u i)), (2, .ref (ad 4)), (3, .int (nI 40))]) hx hb d_J_settlePresentStep_60 hl rfl (nI_1 i) (by decide) rfl (fun ls hl => ?_)
        refine lv_goto (tgt := 13) hx hb d_J_settlePresentStep_63 rfl ?_
        have e3 : jc_lt u (i + 1) = jc_lt u i := by simp [nI_0, jc_lt, h30, h42, h51]
        refine ih (i + 1) _ (by omega) ?_
        try rw [e3]
        exact lv_sub hl [2, 3, 4, 5, 0] rfl
      refine jv_aload hx hb d_J_settlePresentStep_54 (lv_at hl 0 rfl) ?_
      refine jg_E hc hh hi 2 (by decide) rfl wf_J_128 d_J_settlePresentStep_56 ?_
      refine lv_istore_n (i := 1) (lv' := [(1, .int (u 16 i)), (5, jv ad 118 (nI i)), (0, .ref (ad 0)), (2, .ref (ad 4)), (3, .int (nI 40)), (4, .int (nI i))]) hx hb d_J_settlePresentStep_59 rfl hl (by decide) rfl (fun ls hl => ?_)
      refine lv_iinc (k := 5) (v := nI (i + 1)) (lv' := [(4, .int (nI (i + 1))), (1, .int (u 16 i)), (5, jv ad 118 (nI i)), (0, .ref (ad 0)), (2, .ref (ad 4)), (3, .int (nI 40))]) hx hb d_J_settlePresentStep_60 hl rfl (nI_1 i) (by decide) rfl (fun ls hl => ?_)
      refine lv_goto (tgt := 13) hx hb d_J_settlePresentStep_63 rfl ?_
      have e4 : jc_lt u (i + 1) = (u 16 i) := by simp [nI_0, jc_lt, h30, h42, h51]
      refine ih (i + 1) _ (by omega) ?_
      try rw [e4]
      exact lv_sub hl [3, 1, 4, 5, 0] rfl
  have e5 : jc_lt u 0 = 0 := by simp [nI_0, jc_lt]
  have e6 : nI 0 = 0 := rfl
  refine L13 40 0 _ (by omega) ?_
  try rw [e5]
  try rw [e6]
  exact lv_sub hl [4, 3, 2, 1, 0] rfl
set_option maxHeartbeats 4000000 in
set_option maxRecDepth 100000 in
theorem c_dropLaterEntries (l : Launch) (D : va_G) (aK ad : Nat → Nat) (cA : Nat → ClassId) (u : js_S) (hS : jc_Sh u) : jx_M l y_J_dropLaterEntries b_J_dropLaterEntries 5 none (jr 3) D (jc_tys cA) aK 158 ad (jc_cell ad aK cA) [.ref (ad 0)] u (fun _ : Unit => none) (fun r u' => r = () ∧ u' = (jc_dropLater u)) := by
  refine jx_enter "JointHistory" (by decide) rfl (by simp [lg_sl, vc_int, vc_ref, vc_long, jv_cat]) ?_
  intro p e s m args below meth c A Q H locs ls hQ hc hh hr hlk hl
  have hx := hc.1
  have hb := hc.2.1
  have hl : lv_has ls 5 [(0, .ref (ad 0))] := by simpa [lv_args, vc_int, vc_ref, vc_long, jv_cat] using hl
  refine lv_aload_n hx hb d_J_dropLaterEntries_0 rfl (lv_at hl 0 rfl) ?_
  refine jg_J hc hh 3 (by decide) rfl wf_J_29 d_J_dropLaterEntries_1 ?_
  refine lv_astore_n (i := 1) (lv' := [(1, .ref (ad 4)), (0, .ref (ad 0))]) hx hb d_J_dropLaterEntries_4 rfl hl (by decide) rfl (fun ls hl => ?_)
  refine lv_aload_n hx hb d_J_dropLaterEntries_5 rfl (lv_at hl 0 rfl) ?_
  refine jl_E hc hh d_J_dropLaterEntries_6 ?_
  refine lv_istore_n (i := 2) (lv' := [(2, .int (nI 40)), (1, .ref (ad 4)), (0, .ref (ad 0))]) hx hb d_J_dropLaterEntries_7 rfl hl (by decide) rfl (fun ls hl => ?_)
  refine lv_iconst (v := 0) hx hb d_J_dropLaterEntries_8 (by decide) ?_
  refine lv_istore_n (i := 3) (lv' := [(3, .int 0), (2, .int (nI 40)), (1, .ref (ad 4)), (0, .ref (ad 0))]) hx hb d_J_dropLaterEntries_9 rfl hl (by decide) rfl (fun ls hl => ?_)
  have L10 : ∀ (n : Nat) (i : Nat) (H : Heap) (locs : List Loc) (ls : Array Slot), i + n = 40 → jx_H D 158 ad (jc_cell ad aK cA (jc_dl u i)) A s.heap H locs → lv_has ls 5 [(0, .ref (ad 0)), (1, .ref (ad 4)), (2, .int (nI 40)), (3, .int (nI i))] → W p l e (jr 3) s m args below meth c H locs 0 0 Q (F0 m 10 ls []) := by
    intro n
    induction n with
    | zero =>
      intro i H locs ls hm hh hl
      have hi : i = 40 := by omega
      refine lv_iload_n hx hb d_J_dropLaterEntries_10 rfl (lv_at hl 3 rfl) ?_
      refine lv_iload_n hx hb d_J_dropLaterEntries_11 rfl (lv_at hl 2 rfl) ?_
      refine lv_icmp_ge (tgt := 44) hx hb d_J_dropLaterEntries_12 rfl (fun h12 => ?_) (fun hq => absurd (nI_le (show 40 ≤ i by omega) (show i < 2 ^ 31 by omega)) hq)
      refine lv_aload_n hx hb d_J_dropLaterEntries_44 rfl (lv_at hl 0 rfl) ?_
      refine jx_callV [] [] hc hh (c_dropWhatIsGone l D aK ad cA (jc_dl u i) (jc_Sh_dl hS i)) wy_J_157 ⟨by decide, rfl, rfl⟩ (by decide) rfl hl.1 rfl (by decide) ⟨Nat.zero_le _, Nat.zero_le _⟩ d_J_dropLaterEntries_45 (fun r u9 H locs hp hh _ _ => ?_)
      rw [hp.2] at hh
      refine W.eq (g2 := F0 m 48 ls []) (by first | rfl | (rw [hp.1]; rfl)) ?_
      exact jx_vret (r := ()) hc hh hQ hlk hr rfl ⟨rfl, by first | (rw [hi]; done) | (rw [hi]; rfl) | (rw [hi]; simp [jc_dropLater]; done)⟩ d_J_dropLaterEntries_48
    | succ n ih =>
      intro i H locs ls hm hh hl
      have hi : i < 40 := by omega
      refine lv_iload_n hx hb d_J_dropLaterEntries_10 rfl (lv_at hl 3 rfl) ?_
      refine lv_iload_n hx hb d_J_dropLaterEntries_11 rfl (lv_at hl 2 rfl) ?_
      refine lv_icmp_ge (tgt := 44) hx hb d_J_dropLaterEntries_12 rfl (fun hq => absurd hq (nI_ge hi (by decide))) (fun h12 => ?_)
      refine lv_aload_n hx hb d_J_dropLaterEntries_15 rfl (lv_at hl 1 rfl) ?_
      refine lv_iload_n hx hb d_J_dropLaterEntries_16 rfl (lv_at hl 3 rfl) ?_
      refine ja_E hc hh hi d_J_dropLaterEntries_17 ?_
      refine jv_astore (i := 4) (lv' := [(4, jv ad 118 (nI i)), (0, .ref (ad 0)), (1, .ref (ad 4)), (2, .int (nI 40)), (3, .int (nI i))]) hx hb d_J_dropLaterEntries_18 hl (by decide) rfl (fun ls hl => ?_)
      refine jv_aload hx hb d_J_dropLaterEntries_20 (lv_at hl 0 rfl) ?_
      refine jg_E hc hh hi 2 (by decide) rfl wf_J_128 d_J_dropLaterEntries_22 ?_
      refine lv_aload_n hx hb d_J_dropLaterEntries_25 rfl (lv_at hl 1 rfl) ?_
      refine jg_J hc hh 5 (by decide) rfl wf_J_96 d_J_dropLaterEntries_26 ?_
      refine lv_icmp_le (tgt := 38) hx hb d_J_dropLaterEntries_29 rfl (fun h29 => ?_) (fun h29 => ?_)
      ·
        refine lv_iinc (k := 4) (v := nI (i + 1)) (lv' := [(3, .int (nI (i + 1))), (4, jv ad 118 (nI i)), (0, .ref (ad 0)), (1, .ref (ad 4)), (2, .int (nI 40))]) hx hb d_J_dropLaterEntries_38 hl rfl (nI_1 i) (by decide) rfl (fun ls hl => ?_)
        refine lv_goto (tgt := 10) hx hb d_J_dropLaterEntries_41 rfl ?_
        have e1 : (jc_dl u (i + 1)) = (jc_dl u i) := by simp [nI_0, jc_dl, h29]
        refine ih (i + 1) _ _ _ (by omega) ?_ ?_
        ·
          try rw [e1]
          exact hh
        try rw [e1]
        exact lv_sub hl [2, 3, 4, 0] rfl
      refine jv_aload hx hb d_J_dropLaterEntries_32 (lv_at hl 0 rfl) ?_
      refine lv_iconst (v := 0) hx hb d_J_dropLaterEntries_34 (by decide) ?_
      refine jp_14 hc hh hi (by decide) wf_J_179 d_J_dropLaterEntries_35 (fun H locs hh => ?_)
      refine lv_iinc (k := 4) (v := nI (i + 1)) (lv' := [(3, .int (nI (i + 1))), (4, jv ad 118 (nI i)), (0, .ref (ad 0)), (1, .ref (ad 4)), (2, .int (nI 40))]) hx hb d_J_dropLaterEntries_38 hl rfl (nI_1 i) (by decide) rfl (fun ls hl => ?_)
      refine lv_goto (tgt := 10) hx hb d_J_dropLaterEntries_41 rfl ?_
      have e2 : (jc_dl u (i + 1)) = (js_up (jc_dl u i) 14 i 0) := by simp [nI_0, jc_dl, h29]
      refine ih (i + 1) _ _ _ (by omega) ?_ ?_
      ·
        try rw [e2]
        exact hh
      try rw [e2]
      exact lv_sub hl [2, 3, 4, 0] rfl
  have e3 : nI 0 = 0 := rfl
  have e4 : (jc_dl u 0) = u := by simp [nI_0, jc_dl]
  refine L10 40 0 _ _ _ (by omega) ?_ ?_
  ·
    try rw [e3]
    try rw [e4]
    exact hh
  try rw [e3]
  try rw [e4]
  exact lv_sub hl [3, 2, 1, 0] rfl
set_option maxHeartbeats 4000000 in
set_option maxRecDepth 100000 in
theorem c_takeOut (l : Launch) (D : va_G) (aK ad : Nat → Nat) (cA : Nat → ClassId) (u : js_S) (n : Int32) (hS : jc_Sh u) (h_n : ∃ i, i < 40 ∧ n = nI i) : jx_M l y_J_takeOut b_J_takeOut 3 none (jr 1) D (jc_tys cA) aK 158 ad (jc_cell ad aK cA) [.ref (ad 0), jv ad 38 n] u (fun _ : Unit => none) (fun r u' => r = () ∧ u' = (jc_takeOut u n)) := by
  refine jx_enter "JointHistory" (by decide) rfl (by simp [lg_sl, vc_int, vc_ref, vc_long, jv_cat]) ?_
  intro p e s m args below meth c A Q H locs ls hQ hc hh hr hlk hl
  have hx := hc.1
  have hb := hc.2.1
  have hl : lv_has ls 3 [(0, .ref (ad 0)), (1, jv ad 38 n)] := by simpa [lv_args, vc_int, vc_ref, vc_long, jv_cat] using hl
  refine jv_aload_n hx hb d_J_takeOut_0 rfl (lv_at hl 1 rfl) ?_
  refine jgx_N hc hh h_n 3 (by decide) rfl wf_J_208 d_J_takeOut_1 ?_
  refine jv_astore_n (i := 2) (lv' := [(2, jv ad 78 (u 7 (ix n))), (0, .ref (ad 0)), (1, jv ad 38 n)]) hx hb d_J_takeOut_4 rfl hl (by decide) (by simp [vc_int, vc_ref, vc_long, jv_cat]) (fun ls hl => ?_)
  refine jv_aload_n hx hb d_J_takeOut_5 rfl (lv_at hl 0 rfl) ?_
  refine jv_ifnonnull (tgt := 10) hx hb d_J_takeOut_6 rfl (fun h6 => ?_) (fun h6 => ?_)
  ·
    refine jv_aload_n hx hb d_J_takeOut_10 rfl (lv_at hl 0 rfl) ?_
    refine jgx_D hc hh (jq_ne (jc_S7x hS h_n) h6) 4 (by decide) rfl wf_J_171 d_J_takeOut_11 ?_
    refine jv_aload_n hx hb d_J_takeOut_14 rfl (lv_at hl 2 rfl) ?_
    refine jv_acmp_ne (tgt := 26) (n := 40) hx hb (by decide) (jd_inj hh (by decide)) (jc_S12x hS (jq_ne (jc_S7x hS h_n) h6)) (Or.inr h_n) d_J_takeOut_15 rfl (fun h15 => ?_) (fun h15 => ?_)
    ·
      refine jv_aload_n hx hb d_J_takeOut_26 rfl (lv_at hl 0 rfl) ?_
      refine jv_const (ad := ad) (off := 38) hx hb d_J_takeOut_27 ?_
      refine jpy_13 hc hh (jq_ne (jc_S7x hS h_n) h6) wf_J_177 d_J_takeOut_28 (fun H locs hh => ?_)
      refine jv_aload_n hx hb d_J_takeOut_31 rfl (lv_at hl 2 rfl) ?_
      refine lv_iconst (v := 0) hx hb d_J_takeOut_32 (by decide) ?_
      refine jpy_5 hc hh h_n (by decide) wf_J_43 d_J_takeOut_33 (fun H locs hh => ?_)
      exact jx_vret (r := ()) hc hh hQ hlk hr rfl ⟨rfl, by simp [jc_takeOut, h6, h15]⟩ d_J_takeOut_36
    refine jv_aload_n hx hb d_J_takeOut_18 rfl (lv_at hl 0 rfl) ?_
    refine jv_aload_n hx hb d_J_takeOut_19 rfl (lv_at hl 0 rfl) ?_
    refine jgx_D hc hh (jq_ne (jc_S7x hS h_n) h6) 5 (by decide) rfl wf_J_177 d_J_takeOut_20 ?_
    refine jpy_12 hc hh (jq_ne (jc_S7x hS h_n) h6) wf_J_171 d_J_takeOut_23 (fun H locs hh => ?_)
    refine jv_aload_n hx hb d_J_takeOut_26 rfl (lv_at hl 0 rfl) ?_
    refine jv_const (ad := ad) (off := 38) hx hb d_J_takeOut_27 ?_
    refine jpy_13 hc hh (jq_ne (jc_S7x hS h_n) h6) wf_J_177 d_J_takeOut_28 (fun H locs hh => ?_)
    refine jv_aload_n hx hb d_J_takeOut_31 rfl (lv_at hl 2 rfl) ?_
    refine lv_iconst (v := 0) hx hb d_J_takeOut_32 (by decide) ?_
    refine jpy_5 hc hh h_n (by decide) wf_J_43 d_J_takeOut_33 (fun H locs hh => ?_)
    exact jx_vret (r := ()) hc hh hQ hlk hr rfl ⟨rfl, by first | (simp [jc_takeOut, h6, h15]; done) | (simp [jc_takeOut, h6, eq_true h15]; done)⟩ d_J_takeOut_36
  exact jx_vret (r := ()) hc hh hQ hlk hr rfl ⟨rfl, by first | (simp [jc_takeOut, h6]; done) | (simp [jc_takeOut, eq_true h6]; done)⟩ d_J_takeOut_9
set_option maxHeartbeats 4000000 in
set_option maxRecDepth 100000 in
theorem c_putEntry (l : Launch) (D : va_G) (aK ad : Nat → Nat) (cA : Nat → ClassId) (u : js_S) (e9 : Int32) (url : Int32) (state : Int32) (doc : Int32) (push : Int32) (hS : jc_Sh u) (h_e9 : ∃ i, i < 40 ∧ e9 = nI i) (h_doc : ∃ i, i < 40 ∧ doc = nI i) : jx_M l y_J_putEntry b_J_putEntry 6 none (jr 3) D (jc_tys cA) aK 158 ad (jc_cell ad aK cA) [.ref (ad 0), jv ad 118 e9, .int url, .int state, jv ad 78 doc, .int push] u (fun _ : Unit => none) (fun r u' => r = () ∧ u' = (jc_putEntry u e9 url state doc push)) := by
  refine jx_enter "JointHistory" (by decide) rfl (by simp [lg_sl, vc_int, vc_ref, vc_long, jv_cat]) ?_
  intro p e s m args below meth c A Q H locs ls hQ hc hh hr hlk hl
  have hx := hc.1
  have hb := hc.2.1
  have hl : lv_has ls 6 [(0, .ref (ad 0)), (1, jv ad 118 e9), (2, .int url), (3, .int state), (4, jv ad 78 doc), (5, .int push)] := by simpa [lv_args, vc_int, vc_ref, vc_long, jv_cat] using hl
  refine lv_iload hx hb d_J_putEntry_0 (lv_at hl 5 rfl) ?_
  refine lv_if_eq (tgt := 32) hx hb d_J_putEntry_2 rfl (fun h2 => ?_) (fun h2 => ?_)
  ·
    refine jv_aload_n hx hb d_J_putEntry_32 rfl (lv_at hl 1 rfl) ?_
    refine lv_iload_n hx hb d_J_putEntry_33 rfl (lv_at hl 2 rfl) ?_
    refine jpy_17 hc hh h_e9 wf_J_103 d_J_putEntry_34 (fun H locs hh => ?_)
    refine jv_aload_n hx hb d_J_putEntry_37 rfl (lv_at hl 1 rfl) ?_
    refine lv_iload_n hx hb d_J_putEntry_38 rfl (lv_at hl 3 rfl) ?_
    refine jpy_18 hc hh h_e9 wf_J_165 d_J_putEntry_39 (fun H locs hh => ?_)
    refine jv_aload_n hx hb d_J_putEntry_42 rfl (lv_at hl 1 rfl) ?_
    refine jv_aload hx hb d_J_putEntry_43 (lv_at hl 4 rfl) ?_
    refine jpy_19 hc hh h_e9 wf_J_120 d_J_putEntry_45 (fun H locs hh => ?_)
    refine lv_aload_n hx hb d_J_putEntry_48 rfl (lv_at hl 0 rfl) ?_
    refine jx_callV [] [] hc hh (c_dropWhatIsGone l D aK ad cA (js_up (js_up (js_up u 17 (ix e9) url) 18 (ix e9) state) 19 (ix e9) doc) (by obtain ⟨d, hd, rfl⟩ := h_doc; exact jc_Sh_19 (jc_Sh_18 (jc_Sh_17 hS)) hd)) wy_J_157 ⟨by decide, rfl, rfl⟩ (by decide) rfl hl.1 rfl (by decide) ⟨Nat.zero_le _, Nat.zero_le _⟩ d_J_putEntry_49 (fun r u9 H locs hp hh _ _ => ?_)
    rw [hp.2] at hh
    refine W.eq (g2 := F0 m 52 ls []) (by first | rfl | (rw [hp.1]; rfl)) ?_
    refine lv_aload_n hx hb d_J_putEntry_52 rfl (lv_at hl 0 rfl) ?_
    refine jx_callV [] [] hc hh (c_settlePresentStep l D aK ad cA (jc_gone (js_up (js_up (js_up u 17 (ix e9) url) 18 (ix e9) state) 19 (ix e9) doc))) wy_J_160 ⟨by decide, rfl, rfl⟩ (by decide) rfl hl.1 rfl (by decide) ⟨Nat.zero_le _, Nat.zero_le _⟩ d_J_putEntry_53 (fun r u9 H locs hp hh _ _ => ?_)
    rw [hp.2] at hh
    refine W.eq (g2 := F0 m 56 ls []) (by first | rfl | (rw [hp.1]; rfl)) ?_
    exact jx_vret (r := ()) hc hh hQ hlk hr rfl ⟨rfl, by first | (simp [jc_putEntry, h2]; done) | (simp [jc_putEntry, eq_true h2]; done)⟩ d_J_putEntry_56
  refine lv_aload_n hx hb d_J_putEntry_5 rfl (lv_at hl 0 rfl) ?_
  refine lv_dup hx hb d_J_putEntry_6 rfl ?_
  refine jg_J hc hh 5 (by decide) rfl wf_J_96 d_J_putEntry_7 ?_
  refine lv_iconst (v := 1) hx hb d_J_putEntry_10 (by decide) ?_
  refine lv_iadd hx hb d_J_putEntry_11 ?_
  refine jp_21 hc hh wf_J_96 d_J_putEntry_12 (fun H locs hh => ?_)
  refine lv_aload_n hx hb d_J_putEntry_15 rfl (lv_at hl 0 rfl) ?_
  refine jv_aload_n hx hb d_J_putEntry_16 rfl (lv_at hl 1 rfl) ?_
  refine jgx_E hc hh h_e9 1 (by decide) rfl wf_J_135 d_J_putEntry_17 ?_
  refine lv_aload_n hx hb d_J_putEntry_20 rfl (lv_at hl 0 rfl) ?_
  refine jg_J hc hh 5 (by decide) rfl wf_J_96 d_J_putEntry_21 ?_
  refine lv_iload_n hx hb d_J_putEntry_24 rfl (lv_at hl 2 rfl) ?_
  refine lv_iload_n hx hb d_J_putEntry_25 rfl (lv_at hl 3 rfl) ?_
  refine jv_aload hx hb d_J_putEntry_26 (lv_at hl 4 rfl) ?_
  refine jx_callV [jv ad 38 ((js_up u 21 0 ((u 21 0) + 1)) 15 (ix e9)), .int ((js_up u 21 0 ((u 21 0) + 1)) 21 0), .int url, .int state, jv ad 78 doc] [] hc hh (c_addEntry l D aK ad cA (js_up u 21 0 ((u 21 0) + 1)) ((js_up u 21 0 ((u 21 0) + 1)) 15 (ix e9)) ((js_up u 21 0 ((u 21 0) + 1)) 21 0) url state doc) wy_J_51 ⟨by decide, rfl, rfl⟩ (by decide) rfl hl.1 rfl (by decide) ⟨Nat.zero_le _, Nat.zero_le _⟩ d_J_putEntry_28 (fun r u9 H locs hp hh _ _ => ?_)
  rw [hp.2] at hh
  refine W.eq (g2 := F0 m 31 ls []) (by first | rfl | (rw [hp.1]; rfl)) ?_
  exact jx_vret (r := ()) hc hh hQ hlk hr rfl ⟨rfl, by simp [jc_putEntry, h2]⟩ d_J_putEntry_31
set_option maxHeartbeats 4000000 in
set_option maxRecDepth 100000 in
theorem c_countMove (l : Launch) (D : va_G) (aK ad : Nat → Nat) (cA : Nat → ClassId) (u : js_S) (x : Int32) (y : Int32) (hS : jc_Sh u) (q_x : jq 40 x) (q_y : jq 40 y) : jx_M l y_J_countMove b_J_countMove 3 none (jr 2) D (jc_tys cA) aK 158 ad (jc_cell ad aK cA) [.ref (ad 0), jv ad 118 x, jv ad 118 y] u (fun _ : Unit => none) (fun r u' => r = () ∧ u' = (jc_move u x y)) := by
  refine jx_enter "JointHistory" (by decide) rfl (by simp [lg_sl, vc_int, vc_ref, vc_long, jv_cat]) ?_
  intro p e s m args below meth c A Q H locs ls hQ hc hh hr hlk hl
  have hx := hc.1
  have hb := hc.2.1
  have hl : lv_has ls 3 [(0, .ref (ad 0)), (1, jv ad 118 x), (2, jv ad 118 y)] := by simpa [lv_args, vc_int, vc_ref, vc_long, jv_cat] using hl
  refine jv_aload_n hx hb d_J_countMove_0 rfl (lv_at hl 1 rfl) ?_
  refine jv_ifnull (tgt := 24) hx hb d_J_countMove_1 rfl (fun h1 => ?_) (fun h1 => ?_)
  ·
    exact jx_vret (r := ()) hc hh hQ hlk hr rfl ⟨rfl, by first | (simp [jc_move, jc_mv1, h1]; done) | (simp [jc_move, jc_mv1, eq_true h1]; done)⟩ d_J_countMove_24
  refine jv_aload_n hx hb d_J_countMove_4 rfl (lv_at hl 2 rfl) ?_
  refine jv_ifnull (tgt := 24) hx hb d_J_countMove_5 rfl (fun h5 => ?_) (fun h5 => ?_)
  ·
    exact jx_vret (r := ()) hc hh hQ hlk hr rfl ⟨rfl, by first | (simp [jc_move, jc_mv1, h1, h5]; done) | (simp [jc_move, jc_mv1, h1, eq_true h5]; done)⟩ d_J_countMove_24
  refine jv_aload_n hx hb d_J_countMove_8 rfl (lv_at hl 1 rfl) ?_
  refine jv_aload_n hx hb d_J_countMove_9 rfl (lv_at hl 2 rfl) ?_
  refine jv_acmp_eq (tgt := 24) (n := 40) hx hb (by decide) (jd_inj hh (by decide)) q_x q_y d_J_countMove_10 rfl (fun h10 => ?_) (fun h10 => ?_)
  ·
    exact jx_vret (r := ()) hc hh hQ hlk hr rfl ⟨rfl, by first | (simp [jc_move, jc_mv1, h1, h5, h10]; done) | (simp [jc_move, jc_mv1, h1, h5, eq_true h10]; done)⟩ d_J_countMove_24
  refine jv_aload_n hx hb d_J_countMove_13 rfl (lv_at hl 1 rfl) ?_
  refine jgx_E hc hh (jq_ne q_x h1) 5 (by decide) rfl wf_J_120 d_J_countMove_14 ?_
  refine jv_aload_n hx hb d_J_countMove_17 rfl (lv_at hl 2 rfl) ?_
  refine jgx_E hc hh (jq_ne q_y h5) 5 (by decide) rfl wf_J_120 d_J_countMove_18 ?_
  refine jv_acmp_eq (tgt := 25) (n := 40) hx hb (by decide) (jd_inj hh (by decide)) (jc_S19x hS (jq_ne q_x h1)) (jc_S19x hS (jq_ne q_y h5)) d_J_countMove_21 rfl (fun h21 => ?_) (fun h21 => ?_)
  ·
    refine lv_aload_n hx hb d_J_countMove_25 rfl (lv_at hl 0 rfl) ?_
    refine lv_dup hx hb d_J_countMove_26 rfl ?_
    refine jg_J hc hh 6 (by decide) rfl wf_J_190 d_J_countMove_27 ?_
    refine lv_iconst (v := 1) hx hb d_J_countMove_30 (by decide) ?_
    refine lv_iadd hx hb d_J_countMove_31 ?_
    refine jp_22 hc hh wf_J_190 d_J_countMove_32 (fun H locs hh => ?_)
    refine jv_aload_n hx hb d_J_countMove_35 rfl (lv_at hl 1 rfl) ?_
    refine jgx_E hc hh (jq_ne q_x h1) 3 (by decide) rfl wf_J_103 d_J_countMove_36 ?_
    refine jx_callS [.int ((js_up u 22 0 ((u 22 0) + 1)) 17 (ix x))] [] hc hh (c_fragmentOf l D aK ad cA (js_up u 22 0 ((u 22 0) + 1)) ((js_up u 22 0 ((u 22 0) + 1)) 17 (ix x))) wy_J_199 (by decide) rfl hl.1 rfl (by decide) ⟨Nat.zero_le _, Nat.zero_le _⟩ d_J_countMove_39 (fun r u9 H locs hp hh _ _ => ?_)
    rw [hp.2] at hh
    refine W.eq (g2 := F0 m 42 ls [.int (jc_frag ((js_up u 22 0 ((u 22 0) + 1)) 17 (ix x)))]) (by first | rfl | (rw [hp.1]; rfl)) ?_
    refine jv_aload_n hx hb d_J_countMove_42 rfl (lv_at hl 2 rfl) ?_
    refine jgx_E hc hh (jq_ne q_y h5) 3 (by decide) rfl wf_J_103 d_J_countMove_43 ?_
    refine jx_callS [.int ((js_up u 22 0 ((u 22 0) + 1)) 17 (ix y))] [.int (jc_frag ((js_up u 22 0 ((u 22 0) + 1)) 17 (ix x)))] hc hh (c_fragmentOf l D aK ad cA (js_up u 22 0 ((u 22 0) + 1)) ((js_up u 22 0 ((u 22 0) + 1)) 17 (ix y))) wy_J_199 (by decide) rfl hl.1 rfl (by simp [vc_int, vc_ref, vc_long, jv_cat]) ⟨Nat.zero_le _, Nat.zero_le _⟩ d_J_countMove_46 (fun r u9 H locs hp hh _ _ => ?_)
    rw [hp.2] at hh
    refine W.eq (g2 := F0 m 49 ls [.int (jc_frag ((js_up u 22 0 ((u 22 0) + 1)) 17 (ix y))), .int (jc_frag ((js_up u 22 0 ((u 22 0) + 1)) 17 (ix x)))]) (by first | rfl | (rw [hp.1]; rfl)) ?_
    refine lv_icmp_eq (tgt := 62) hx hb d_J_countMove_49 rfl (fun h49 => ?_) (fun h49 => ?_)
    ·
      exact jx_vret (r := ()) hc hh hQ hlk hr rfl ⟨rfl, by first | (simp [jc_move, jc_mv1, h1, h5, h10, h21, h49]; done) | (simp [jc_move, jc_mv1, h1, h5, h10, eq_true h21, eq_true h49]; done)⟩ d_J_countMove_62
    refine lv_aload_n hx hb d_J_countMove_52 rfl (lv_at hl 0 rfl) ?_
    refine lv_dup hx hb d_J_countMove_53 rfl ?_
    refine jg_J hc hh 7 (by decide) rfl wf_J_117 d_J_countMove_54 ?_
    refine lv_iconst (v := 1) hx hb d_J_countMove_57 (by decide) ?_
    refine lv_iadd hx hb d_J_countMove_58 ?_
    refine jp_23 hc hh wf_J_117 d_J_countMove_59 (fun H locs hh => ?_)
    exact jx_vret (r := ()) hc hh hQ hlk hr rfl ⟨rfl, by first | (simp [jc_move, jc_mv1, h1, h5, h10, h21, h49]; done) | (simp [jc_move, jc_mv1, h1, h5, h10, eq_true h21, h49]; done)⟩ d_J_countMove_62
  exact jx_vret (r := ()) hc hh hQ hlk hr rfl ⟨rfl, by simp [jc_move, jc_mv1, h1, h5, h10, h21]⟩ d_J_countMove_24
set_option maxHeartbeats 4000000 in
set_option maxRecDepth 100000 in
theorem c_isFull (l : Launch) (D : va_G) (aK ad : Nat → Nat) (cA : Nat → ClassId) (u : js_S) (push : Int32) : jx_M l y_J_isFull b_J_isFull 2 (some .boolean) (jr 2) D (jc_tys cA) aK 158 ad (jc_cell ad aK cA) [.ref (ad 0), .int push] u (fun r : Int32 => some (.int r)) (fun r u' => r = jc_full u push ∧ u' = u) := by
  refine jx_enter "JointHistory" (by decide) rfl (by simp [lg_sl, vc_int, vc_ref, vc_long, jv_cat]) ?_
  intro p e s m args below meth c A Q H locs ls hQ hc hh hr hlk hl
  have hx := hc.1
  have hb := hc.2.1
  have hl : lv_has ls 2 [(0, .ref (ad 0)), (1, .int push)] := by simpa [lv_args, vc_int, vc_ref, vc_long, jv_cat] using hl
  refine lv_aload_n hx hb d_J_isFull_0 rfl (lv_at hl 0 rfl) ?_
  refine lv_iload_n hx hb d_J_isFull_1 rfl (lv_at hl 1 rfl) ?_
  refine lv_if_eq (tgt := 12) hx hb d_J_isFull_2 rfl (fun h2 => ?_) (fun h2 => ?_)
  ·
    refine lv_ldc hx hb hc.2.2.2.1 (hc.2.2.2.2.1 _ wc_J_186) d_J_isFull_12 ?_
    refine jx_callV [.int 2147483647] [] hc hh (c_entriesUpTo l D aK ad cA u 2147483647) wy_J_187 ⟨by decide, rfl, rfl⟩ (by decide) rfl hl.1 rfl (by decide) ⟨Nat.zero_le _, Nat.zero_le _⟩ d_J_isFull_14 (fun r u9 H locs hp hh _ _ => ?_)
    rw [hp.2] at hh
    refine W.eq (g2 := F0 m 17 ls [.int (nI (jc_cntE u 2147483647 40))]) (by first | rfl | (rw [hp.1]; rfl)) ?_
    refine lv_bipush (v := 36) hx hb d_J_isFull_17 (by decide) ?_
    refine lv_icmp_lt (tgt := 26) hx hb d_J_isFull_19 rfl (fun h19 => ?_) (fun h19 => ?_)
    ·
      refine lv_iconst (v := 0) hx hb d_J_isFull_26 (by decide) ?_
      exact jx_iret (r := 0) hc hh hQ hlk hr (by decide) rfl ⟨by first | (simp [jc_full, h2, h19]; done) | (simp [jc_full, eq_true h2, h19]; done), rfl⟩ d_J_isFull_27
    refine lv_iconst (v := 1) hx hb d_J_isFull_22 (by decide) ?_
    refine lv_goto (tgt := 27) hx hb d_J_isFull_23 rfl ?_
    exact jx_iret (r := 1) hc hh hQ hlk hr (by decide) rfl ⟨by first | (simp [jc_full, h2, h19]; done) | (simp [jc_full, eq_true h2, h19]; done), rfl⟩ d_J_isFull_27
  refine lv_aload_n hx hb d_J_isFull_5 rfl (lv_at hl 0 rfl) ?_
  refine jg_J hc hh 5 (by decide) rfl wf_J_96 d_J_isFull_6 ?_
  refine lv_goto (tgt := 14) hx hb d_J_isFull_9 rfl ?_
  refine jx_callV [.int (u 21 0)] [] hc hh (c_entriesUpTo l D aK ad cA u (u 21 0)) wy_J_187 ⟨by decide, rfl, rfl⟩ (by decide) rfl hl.1 rfl (by decide) ⟨Nat.zero_le _, Nat.zero_le _⟩ d_J_isFull_14 (fun r u9 H locs hp hh _ _ => ?_)
  rw [hp.2] at hh
  refine W.eq (g2 := F0 m 17 ls [.int (nI (jc_cntE u (u 21 0) 40))]) (by first | rfl | (rw [hp.1]; rfl)) ?_
  refine lv_bipush (v := 36) hx hb d_J_isFull_17 (by decide) ?_
  refine lv_icmp_lt (tgt := 26) hx hb d_J_isFull_19 rfl (fun h19 => ?_) (fun h19 => ?_)
  ·
    refine lv_iconst (v := 0) hx hb d_J_isFull_26 (by decide) ?_
    exact jx_iret (r := 0) hc hh hQ hlk hr (by decide) rfl ⟨by simp [jc_full, h2, h19], rfl⟩ d_J_isFull_27
  refine lv_iconst (v := 1) hx hb d_J_isFull_22 (by decide) ?_
  refine lv_goto (tgt := 27) hx hb d_J_isFull_23 rfl ?_
  exact jx_iret (r := 1) hc hh hQ hlk hr (by decide) rfl ⟨by simp [jc_full, h2, h19], rfl⟩ d_J_isFull_27
