set_option maxHeartbeats 4000000 in
set_option maxRecDepth 100000 in
theorem c_go (l : Launch) (D : va_G) (aK ad : Nat → Nat) (cA : Nat → ClassId) (u : js_S) (delta : Int32) (hS : jc_Sh u) (hne : 0 < (jc_cu u 40).2) : jx_M l y_J_go b_J_go 7 (some .int) (jr 4) D (jc_tys cA) aK 158 ad (jc_cell ad aK cA) [.ref (ad 0), .int delta] u (fun r : Int32 => some (.int r)) (fun r u' => r = (jc_go u delta).1 ∧ u' = (jc_go u delta).2) := by
  refine jx_enter "JointHistory" (by decide) rfl (by simp [lg_sl, vc_int, vc_ref, vc_long, jv_cat]) ?_
  intro p e s m args below meth c A Q H locs ls hQ hc hh hr hlk hl
  have hx := hc.1
  have hb := hc.2.1
  have hl : lv_has ls 7 [(0, .ref (ad 0)), (1, .int delta)] := by simpa [lv_args, vc_int, vc_ref, vc_long, jv_cat] using hl
  refine lv_aload_n hx hb d_J_go_0 rfl (lv_at hl 0 rfl) ?_
  refine jx_callV [] [] hc hh (c_collectUsedSteps l D aK ad cA u) wy_J_142 ⟨by decide, rfl, rfl⟩ (by decide) rfl hl.1 rfl (by decide) ⟨Nat.zero_le _, Nat.zero_le _⟩ d_J_go_1 (fun r u9 H locs hp hh _ _ => ?_)
  rw [hp.2] at hh
  refine W.eq (g2 := F0 m 4 ls [.int (nI (jc_cu u 40).2)]) (by rw [hp.1]; rfl) ?_
  have J4 : ∀ (v : js_S) (k : Nat) (H : Heap) (locs : List Loc) (ls : Array Slot), (0 < k ∧ k ≤ 40) → (jc_Sh v) → (jc_go u delta = jc_go1 v k delta) → jx_H D 158 ad (jc_cell ad aK cA v) A s.heap H locs → lv_has ls 7 [(0, .ref (ad 0)), (1, .int delta)] → W p l e (jr 4) s m args below meth c H locs 0 0 Q (F0 m 4 ls [.int (nI k)]) := by
    intro v k H locs ls hkk hSv hg hh hl
    refine lv_istore_n (i := 2) (lv' := [(2, .int (nI k)), (0, .ref (ad 0)), (1, .int delta)]) hx hb d_J_go_4 rfl hl (by decide) rfl (fun ls hl => ?_)
    refine lv_aload_n hx hb d_J_go_5 rfl (lv_at hl 1 rfl) ?_
    refine lv_iload_n hx hb d_J_go_6 rfl (lv_at hl 0 rfl) ?_
    refine jx_callV [.int (nI k)] [] hc hh (c_placeOfPresent l D aK ad cA v k hkk) wy_J_146 ⟨by decide, rfl, rfl⟩ (by decide) rfl hl.1 rfl (by decide) ⟨Nat.zero_le _, Nat.zero_le _⟩ d_J_go_7 (fun r u9 H locs hp hh _ _ => ?_)
    rw [hp.2] at hh
    refine W.eq (g2 := F0 m 10 ls [.int (nI (jc_place v (k - 1) 0))]) (by rw [hp.1]; rfl) ?_
    refine lv_i2l hx hb d_J_go_10 rfl ?_
    refine lv_iload_n hx hb d_J_go_11 rfl (lv_at hl 2 rfl) ?_
    refine lv_i2l hx hb d_J_go_12 rfl ?_
    refine lv_ladd hx hb d_J_go_13 ?_
    refine lv_lstore_n (i := 3) (lv' := [(3, .long ((nI (jc_place v (k - 1) 0)).toInt64 + delta.toInt64)), (2, .int (nI k)), (0, .ref (ad 0)), (1, .int delta)]) hx hb d_J_go_14 rfl hl (by decide) rfl (fun ls hl => ?_)
    refine lv_lload_n hx hb d_J_go_15 rfl (lv_at hl 0 rfl) ?_
    refine lv_lconst (v := 0) hx hb d_J_go_16 (by decide) ?_
    refine W.lcmp hx hb d_J_go_17 ?_
    refine lv_if_lt (tgt := 28) hx hb d_J_go_18 rfl (fun h18 => ?_) (fun h18 => ?_)
    ·
      refine lv_bipush (v := -7) hx hb d_J_go_28 (by decide) ?_
      exact jx_iret (r := (-7)) hc hh hQ hlk hr rfl rfl ⟨by rw [hg]; simp [jc_go1, jc_aim, h18], by rw [hg]; simp [jc_go1, jc_aim, h18]⟩ d_J_go_30
    refine lv_lload_n hx hb d_J_go_21 rfl (lv_at hl 0 rfl) ?_
    refine lv_iload_n hx hb d_J_go_22 rfl (lv_at hl 1 rfl) ?_
    refine lv_i2l hx hb d_J_go_23 rfl ?_
    refine W.lcmp hx hb d_J_go_24 ?_
    refine lv_if_lt (tgt := 31) hx hb d_J_go_25 rfl (fun h25 => ?_) (fun h25 => ?_)
    ·
      refine lv_aload_n hx hb d_J_go_31 rfl (lv_at hl 2 rfl) ?_
      refine jg_J hc hh 4 (by decide) rfl wf_J_33 d_J_go_32 ?_
      refine lv_lload_n hx hb d_J_go_35 rfl (lv_at hl 0 rfl) ?_
      refine lv_l2i hx hb d_J_go_36 rfl ?_
      refine jax_U hc hh (js_aim hkk.2 h18 h25) d_J_go_37 ?_
      refine lv_istore (i := 5) (lv' := [(5, .int (v 20 (ix (((nI (jc_place v (k - 1) 0)).toInt64 + delta.toInt64).toInt32)))), (3, .long ((nI (jc_place v (k - 1) 0)).toInt64 + delta.toInt64)), (2, .int (nI k)), (0, .ref (ad 0)), (1, .int delta)]) hx hb d_J_go_38 hl (by decide) rfl (fun ls hl => ?_)
      have J40 : ∀ (t : Int32) (ls : Array Slot), (jc_go1 v k delta = (t, jc_go2 v t)) → lv_has ls 7 [(0, .ref (ad 0)), (1, .int delta), (2, .int (nI k)), (5, .int t)] → W p l e (jr 4) s m args below meth c H locs 0 0 Q (F0 m 40 ls []) := by
        intro t ls hg2 hl
        refine lv_iconst (v := 0) hx hb d_J_go_40 (by decide) ?_
        refine lv_istore (i := 6) (lv' := [(6, .int 0), (0, .ref (ad 0)), (1, .int delta), (2, .int (nI k)), (5, .int t)]) hx hb d_J_go_41 hl (by decide) rfl (fun ls hl => ?_)
        have L43 : ∀ (n : Nat) (i : Nat) (H : Heap) (locs : List Loc) (ls : Array Slot), i + n = 40 → jx_H D 158 ad (jc_cell ad aK cA (jc_mv v t i)) A s.heap H locs → lv_has ls 7 [(0, .ref (ad 0)), (1, .int delta), (2, .int (nI k)), (5, .int t), (6, .int (nI i))] → W p l e (jr 4) s m args below meth c H locs 0 0 Q (F0 m 43 ls []) := by
          intro n
          induction n with
          | zero =>
            intro i H locs ls hm hh hl
            have hi : i = 40 := by omega
            refine lv_iload hx hb d_J_go_43 (lv_at hl 4 rfl) ?_
            refine lv_bipush (v := 40) hx hb d_J_go_45 (by decide) ?_
            refine lv_icmp_ge (tgt := 78) hx hb d_J_go_47 rfl (fun h47 => ?_) (fun hq => absurd (nI_le (show 40 ≤ i by omega) (show i < 2 ^ 31 by omega)) hq)
            refine lv_aload_n hx hb d_J_go_78 rfl (lv_at hl 0 rfl) ?_
            refine lv_iload hx hb d_J_go_79 (lv_at hl 3 rfl) ?_
            refine jp_21 hc hh wf_J_96 d_J_go_81 (fun H locs hh => ?_)
            refine lv_aload_n hx hb d_J_go_84 rfl (lv_at hl 0 rfl) ?_
            refine jg_J hc hh 5 (by decide) rfl wf_J_96 d_J_go_85 ?_
            exact jx_iret (r := ((js_up (jc_mv v t i) 21 0 t) 21 0)) hc hh hQ hlk hr rfl rfl ⟨by rw [hg, hg2]; simp [js_up], by rw [hg, hg2, hi]; rfl⟩ d_J_go_88
          | succ n ih =>
            intro i H locs ls hm hh hl
            have hi : i < 40 := by omega
            refine lv_iload hx hb d_J_go_43 (lv_at hl 4 rfl) ?_
            refine lv_bipush (v := 40) hx hb d_J_go_45 (by decide) ?_
            refine lv_icmp_ge (tgt := 78) hx hb d_J_go_47 rfl (fun hq => absurd hq (nI_ge hi (by decide))) (fun h47 => ?_)
            refine lv_aload_n hx hb d_J_go_50 rfl (lv_at hl 0 rfl) ?_
            refine lv_aload_n hx hb d_J_go_51 rfl (lv_at hl 0 rfl) ?_
            refine lv_iload hx hb d_J_go_52 (lv_at hl 4 rfl) ?_
            refine lv_aload_n hx hb d_J_go_54 rfl (lv_at hl 0 rfl) ?_
            refine jg_J hc hh 5 (by decide) rfl wf_J_96 d_J_go_55 ?_
            refine jx_callV [.int (nI i), .int ((jc_mv v t i) 21 0)] [.ref (ad 0)] hc hh (c_shownEntry l D aK ad cA (jc_mv v t i) (nI i) ((jc_mv v t i) 21 0) (jc_Sh_mv hSv i)) wy_J_99 ⟨by decide, rfl, rfl⟩ (by decide) rfl hl.1 rfl (by simp [vc_int, vc_ref, vc_long, jv_cat]) ⟨Nat.zero_le _, Nat.zero_le _⟩ d_J_go_58 (fun r u9 H locs hp hh _ _ => ?_)
            rw [hp.2] at hh
            refine W.eq (g2 := F0 m 61 ls [jv ad 118 (jc_shownEntry (jc_mv v t i) (nI i) ((jc_mv v t i) 21 0)), .ref (ad 0)]) (by rw [hp.1]; rfl) ?_
            refine lv_aload_n hx hb d_J_go_61 rfl (lv_at hl 0 rfl) ?_
            refine lv_iload hx hb d_J_go_62 (lv_at hl 4 rfl) ?_
            refine lv_iload hx hb d_J_go_64 (lv_at hl 3 rfl) ?_
            refine jx_callV [.int (nI i), .int t] [jv ad 118 (jc_shownEntry (jc_mv v t i) (nI i) ((jc_mv v t i) 21 0)), .ref (ad 0)] hc hh (c_shownEntry l D aK ad cA (jc_mv v t i) (nI i) t (jc_Sh_mv hSv i)) wy_J_99 ⟨by decide, rfl, rfl⟩ (by decide) rfl hl.1 rfl (by simp [vc_int, vc_ref, vc_long, jv_cat]) ⟨Nat.zero_le _, Nat.zero_le _⟩ d_J_go_66 (fun r u9 H locs hp hh _ _ => ?_)
            rw [hp.2] at hh
            refine W.eq (g2 := F0 m 69 ls [jv ad 118 (jc_shownEntry (jc_mv v t i) (nI i) t), jv ad 118 (jc_shownEntry (jc_mv v t i) (nI i) ((jc_mv v t i) 21 0)), .ref (ad 0)]) (by rw [hp.1]; rfl) ?_
            refine jx_callV [jv ad 118 (jc_shownEntry (jc_mv v t i) (nI i) ((jc_mv v t i) 21 0)), jv ad 118 (jc_shownEntry (jc_mv v t i) (nI i) t)] [] hc hh (c_countMove l D aK ad cA (jc_mv v t i) (jc_shownEntry (jc_mv v t i) (nI i) ((jc_mv v t i) 21 0)) (jc_shownEntry (jc_mv v t i) (nI i) t) (jc_Sh_mv hSv i) jc_se_jq jc_se_jq) wy_J_149 ⟨by decide, rfl, rfl⟩ (by decide) rfl hl.1 rfl (by decide) ⟨Nat.zero_le _, Nat.zero_le _⟩ d_J_go_69 (fun r u9 H locs hp hh _ _ => ?_)
            rw [hp.2] at hh
            refine W.eq (g2 := F0 m 72 ls []) rfl ?_
            refine lv_iinc (k := 4) (v := nI (i + 1)) (lv' := [(6, .int (nI (i + 1))), (0, .ref (ad 0)), (1, .int delta), (2, .int (nI k)), (5, .int t)]) hx hb d_J_go_72 hl rfl (nI_1 i) (by decide) rfl (fun ls hl => ?_)
            refine lv_goto (tgt := 43) hx hb d_J_go_75 rfl ?_
            have e1 : (jc_mv v t (i + 1)) = (jc_move (jc_mv v t i) (jc_shownEntry (jc_mv v t i) (nI i) ((jc_mv v t i) 21 0)) (jc_shownEntry (jc_mv v t i) (nI i) t)) := by simp [nI_0, jc_mv]
            refine ih (i + 1) _ _ _ (by omega) ?_ ?_
            ·
              try rw [e1]
              exact hh
            try rw [e1]
            exact lv_sub hl [1, 2, 3, 4, 0] rfl
        have e2 : nI 0 = 0 := rfl
        have e3 : (jc_mv v t 0) = v := by simp [nI_0, jc_mv]
        refine L43 40 0 _ _ _ (by omega) ?_ ?_
        ·
          try rw [e2]
          try rw [e3]
          exact hh
        try rw [e2]
        try rw [e3]
        exact lv_sub hl [1, 2, 3, 4, 0] rfl
      refine J40 (v 20 (ix (((nI (jc_place v (k - 1) 0)).toInt64 + delta.toInt64).toInt32))) _ (by simp [jc_go1, jc_aim, h18, h25]) ?_
      exact lv_sub hl [3, 4, 2, 0] rfl
    refine lv_bipush (v := -7) hx hb d_J_go_28 (by decide) ?_
    exact jx_iret (r := (-7)) hc hh hQ hlk hr rfl rfl ⟨by rw [hg]; simp [jc_go1, jc_aim, h18, h25], by rw [hg]; simp [jc_go1, jc_aim, h18, h25]⟩ d_J_go_30
  have e4 : nI ((jc_cu u 40).2) = (nI (jc_cu u 40).2) := by simp []
  refine J4 ((jc_cu u 40).1) ((jc_cu u 40).2) _ _ _ ⟨hne, jc_cu_le 40⟩ (jc_Sh_cu hS 40) rfl ?_ ?_
  ·
    try rw [e4]
    exact hh
  try rw [e4]
  exact lv_sub hl [0, 1] rfl
