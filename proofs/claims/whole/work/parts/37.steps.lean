set_option maxHeartbeats 4000000 in
set_option maxRecDepth 100000 in
theorem c_count (l : Launch) (D : va_G) (aK ad : Nat → Nat) (cA : Nat → ClassId) (u : js_S) (k : Int32) (hS : jc_Sh u) : jx_M l y_J_count b_J_count 2 (some .int) (jr 4) D (jc_tys cA) aK 158 ad (jc_cell ad aK cA) [.ref (ad 0), .int k] u (fun r : Int32 => some (.int r)) (fun r u' => r = jc_count u k ∧ u' = u) := by
  refine jx_enter "JointHistory" (by decide) rfl (by simp [lg_sl, vc_int, vc_ref, vc_long, jv_cat]) ?_
  intro p e s m args below meth c A Q H locs ls hQ hc hh hr hlk hl
  have hx := hc.1
  have hb := hc.2.1
  have hl : lv_has ls 2 [(0, .ref (ad 0)), (1, .int k)] := by simpa [lv_args, vc_int, vc_ref, vc_long, jv_cat] using hl
  refine lv_iload_n hx hb d_J_count_0 rfl (lv_at hl 1 rfl) ?_
  by_cases hk0 : k = 0
  ·
    refine lv_tableIn (off := 39) (tgt := 40) hx hb d_J_count_1 (by rw [hk0]; decide) (by rw [hk0]; decide) (by rw [hk0]; rfl) rfl ?_
    refine lv_aload_n hx hb d_J_count_40 rfl (lv_at hl 0 rfl) ?_
    refine jx_callV [] [] hc hh (c_shownNavigables l D aK ad cA u hS) wy_J_180 ⟨by decide, rfl, rfl⟩ (by decide) rfl hl.1 rfl (by decide) ⟨Nat.zero_le _, Nat.zero_le _⟩ d_J_count_41 (fun r u9 H locs hp hh _ _ => ?_)
    rw [hp.2] at hh
    refine W.eq (g2 := F0 m 44 ls [.int (nI (jc_cntS u (u 21 0) 40))]) (by rw [hp.1]; rfl) ?_
    exact jx_iret (r := (nI (jc_cntS u (u 21 0) 40))) hc hh hQ hlk hr rfl rfl ⟨by first | (simp [jc_count, hk0]; done) | (simp [jc_count, eq_true hk0]; done), rfl⟩ d_J_count_44
  by_cases hk1 : k = 1
  ·
    refine lv_tableIn (off := 44) (tgt := 45) hx hb d_J_count_1 (by rw [hk1]; decide) (by rw [hk1]; decide) (by rw [hk1]; rfl) rfl ?_
    refine lv_aload_n hx hb d_J_count_45 rfl (lv_at hl 0 rfl) ?_
    refine jx_callV [] [] hc hh (c_allNavigables l D aK ad cA u) wy_J_183 ⟨by decide, rfl, rfl⟩ (by decide) rfl hl.1 rfl (by decide) ⟨Nat.zero_le _, Nat.zero_le _⟩ d_J_count_46 (fun r u9 H locs hp hh _ _ => ?_)
    rw [hp.2] at hh
    refine W.eq (g2 := F0 m 49 ls [.int (nI (jc_cntN u 40))]) (by rw [hp.1]; rfl) ?_
    exact jx_iret (r := (nI (jc_cntN u 40))) hc hh hQ hlk hr rfl rfl ⟨by first | (simp [jc_count, hk0, hk1]; done) | (simp [jc_count, hk0, eq_true hk1]; done), rfl⟩ d_J_count_49
  by_cases hk2 : k = 2
  ·
    refine lv_tableIn (off := 49) (tgt := 50) hx hb d_J_count_1 (by rw [hk2]; decide) (by rw [hk2]; decide) (by rw [hk2]; rfl) rfl ?_
    refine lv_aload_n hx hb d_J_count_50 rfl (lv_at hl 0 rfl) ?_
    refine lv_ldc hx hb hc.2.2.2.1 (hc.2.2.2.2.1 _ wc_J_186) d_J_count_51 ?_
    refine jx_callV [.int 2147483647] [] hc hh (c_entriesUpTo l D aK ad cA u 2147483647) wy_J_187 ⟨by decide, rfl, rfl⟩ (by decide) rfl hl.1 rfl (by decide) ⟨Nat.zero_le _, Nat.zero_le _⟩ d_J_count_53 (fun r u9 H locs hp hh _ _ => ?_)
    rw [hp.2] at hh
    refine W.eq (g2 := F0 m 56 ls [.int (nI (jc_cntE u 2147483647 40))]) (by rw [hp.1]; rfl) ?_
    exact jx_iret (r := (nI (jc_cntE u 2147483647 40))) hc hh hQ hlk hr rfl rfl ⟨by first | (simp [jc_count, hk0, hk1, hk2]; done) | (simp [jc_count, hk0, hk1, eq_true hk2]; done), rfl⟩ d_J_count_56
  by_cases hk3 : k = 3
  ·
    refine lv_tableIn (off := 56) (tgt := 57) hx hb d_J_count_1 (by rw [hk3]; decide) (by rw [hk3]; decide) (by rw [hk3]; rfl) rfl ?_
    refine lv_aload_n hx hb d_J_count_57 rfl (lv_at hl 0 rfl) ?_
    refine jg_J hc hh 6 (by decide) rfl wf_J_190 d_J_count_58 ?_
    exact jx_iret (r := (u 22 0)) hc hh hQ hlk hr rfl rfl ⟨by first | (simp [jc_count, hk0, hk1, hk2, hk3]; done) | (simp [jc_count, hk0, hk1, hk2, eq_true hk3]; done), rfl⟩ d_J_count_61
  by_cases hk4 : k = 4
  ·
    refine lv_tableIn (off := 61) (tgt := 62) hx hb d_J_count_1 (by rw [hk4]; decide) (by rw [hk4]; decide) (by rw [hk4]; rfl) rfl ?_
    refine lv_aload_n hx hb d_J_count_62 rfl (lv_at hl 0 rfl) ?_
    refine jg_J hc hh 7 (by decide) rfl wf_J_117 d_J_count_63 ?_
    exact jx_iret (r := (u 23 0)) hc hh hQ hlk hr rfl rfl ⟨by first | (simp [jc_count, hk0, hk1, hk2, hk3, hk4]; done) | (simp [jc_count, hk0, hk1, hk2, hk3, eq_true hk4]; done), rfl⟩ d_J_count_66
  by_cases hk5 : k = 5
  ·
    refine lv_tableIn (off := 66) (tgt := 67) hx hb d_J_count_1 (by rw [hk5]; decide) (by rw [hk5]; decide) (by rw [hk5]; rfl) rfl ?_
    refine lv_aload_n hx hb d_J_count_67 rfl (lv_at hl 0 rfl) ?_
    refine jg_J hc hh 8 (by decide) rfl wf_J_193 d_J_count_68 ?_
    exact jx_iret (r := (u 24 0)) hc hh hQ hlk hr rfl rfl ⟨by first | (simp [jc_count, hk0, hk1, hk2, hk3, hk4, hk5]; done) | (simp [jc_count, hk0, hk1, hk2, hk3, hk4, eq_true hk5]; done), rfl⟩ d_J_count_71
  refine lv_tableOut (tgt := 72) hx hb d_J_count_1 (by have q0 := lv_neT (a := 0) hk0 rfl; have q1 := lv_neT (a := 1) hk1 rfl; have q2 := lv_neT (a := 2) hk2 rfl; have q3 := lv_neT (a := 3) hk3 rfl; have q4 := lv_neT (a := 4) hk4 rfl; have q5 := lv_neT (a := 5) hk5 rfl; omega) rfl ?_
  refine lv_bipush (v := -7) hx hb d_J_count_72 (by decide) ?_
  exact jx_iret (r := (-7)) hc hh hQ hlk hr rfl rfl ⟨by simp [jc_count, hk0, hk1, hk2, hk3, hk4, hk5], rfl⟩ d_J_count_74
set_option maxHeartbeats 4000000 in
set_option maxRecDepth 100000 in
theorem c_insertStep (l : Launch) (D : va_G) (aK ad : Nat → Nat) (cA : Nat → ClassId) (u : js_S) (st : Int32) (k : Nat) (hk : k < 40) : jx_M l y_J_insertStep b_J_insertStep 5 (some .int) (jr 1) D (jc_tys cA) aK 158 ad (jc_cell ad aK cA) [.ref (ad 0), .int st, .int (nI k)] u (fun r : Int32 => some (.int r)) (fun r u' => r = nI (jc_insN u st k) ∧ u' = (jc_insS u st k)) := by
  refine jx_enter "JointHistory" (by decide) rfl (by simp [lg_sl, vc_int, vc_ref, vc_long, jv_cat]) ?_
  intro p e s m args below meth c A Q H locs ls hQ hc hh hr hlk hl
  have hx := hc.1
  have hb := hc.2.1
  have hl : lv_has ls 5 [(0, .ref (ad 0)), (1, .int st), (2, .int (nI k))] := by simpa [lv_args, vc_int, vc_ref, vc_long, jv_cat] using hl
  refine lv_iload_n hx hb d_J_insertStep_0 rfl (lv_at hl 2 rfl) ?_
  refine lv_istore_n (i := 3) (lv' := [(3, .int (nI k)), (0, .ref (ad 0)), (1, .int st), (2, .int (nI k))]) hx hb d_J_insertStep_1 rfl hl (by decide) rfl (fun ls hl => ?_)
  have L2 : ∀ (n : Nat)  (ls : Array Slot), n ≤ k → (jc_at u st n = jc_at u st k) → lv_has ls 5 [(0, .ref (ad 0)), (1, .int st), (2, .int (nI k)), (3, .int (nI n))] → W p l e (jr 1) s m args below meth c H locs 0 0 Q (F0 m 2 ls []) := by
    intro n
    induction n with
    | zero =>
      intro  ls hm hf hl
      refine lv_iload_n hx hb d_J_insertStep_2 rfl (lv_at hl 3 rfl) ?_
      refine lv_if_le (tgt := 24) hx hb d_J_insertStep_3 rfl (fun h3 => ?_) (fun hq => absurd (by decide) hq)
      have J24 : ∀ (a : Nat) (ls : Array Slot), (a ≤ k) → (a = jc_at u st k) → lv_has ls 5 [(0, .ref (ad 0)), (1, .int st), (2, .int (nI k)), (3, .int (nI a))] → W p l e (jr 1) s m args below meth c H locs 0 0 Q (F0 m 24 ls []) := by
        intro a ls ha hf hl
        refine lv_iload_n hx hb d_J_insertStep_24 rfl (lv_at hl 3 rfl) ?_
        refine lv_if_le (tgt := 42) hx hb d_J_insertStep_25 rfl (fun h25 => ?_) (fun h25 => ?_)
        ·
          have J42 : ∀  (ls : Array Slot), (jc_insQ u st k = false) → lv_has ls 5 [(0, .ref (ad 0)), (1, .int st), (2, .int (nI k)), (3, .int (nI a))] → W p l e (jr 1) s m args below meth c H locs 0 0 Q (F0 m 42 ls []) := by
            intro  ls hq hl
            refine lv_iload_n hx hb d_J_insertStep_42 rfl (lv_at hl 2 rfl) ?_
            refine lv_istore (i := 4) (lv' := [(4, .int (nI k)), (0, .ref (ad 0)), (1, .int st), (2, .int (nI k)), (3, .int (nI a))]) hx hb d_J_insertStep_43 hl (by decide) rfl (fun ls hl => ?_)
            have L45 : ∀ (n : Nat) (v : js_S) (H : Heap) (locs : List Loc) (ls : Array Slot), n ≤ k → (jc_sh v a n = jc_sh u a k) → jx_H D 158 ad (jc_cell ad aK cA v) A s.heap H locs → lv_has ls 5 [(0, .ref (ad 0)), (1, .int st), (2, .int (nI k)), (3, .int (nI a)), (4, .int (nI n))] → W p l e (jr 1) s m args below meth c H locs 0 0 Q (F0 m 45 ls []) := by
              intro n
              induction n with
              | zero =>
                intro v H locs ls hm hs hh hl
                refine lv_iload hx hb d_J_insertStep_45 (lv_at hl 4 rfl) ?_
                refine lv_iload_n hx hb d_J_insertStep_47 rfl (lv_at hl 3 rfl) ?_
                refine lv_icmp_le (tgt := 73) hx hb d_J_insertStep_48 rfl (fun h48 => ?_) (fun hq => absurd (nI_le (Nat.zero_le _) (by omega)) hq)
                have J73 : ∀ (v : js_S) (H : Heap) (locs : List Loc) (ls : Array Slot), (v = jc_sh u a k) → jx_H D 158 ad (jc_cell ad aK cA v) A s.heap H locs → lv_has ls 5 [(0, .ref (ad 0)), (1, .int st), (2, .int (nI k)), (3, .int (nI a))] → W p l e (jr 1) s m args below meth c H locs 0 0 Q (F0 m 73 ls []) := by
                  intro v H locs ls hv hh hl
                  refine lv_aload_n hx hb d_J_insertStep_73 rfl (lv_at hl 0 rfl) ?_
                  refine jg_J hc hh 4 (by decide) rfl wf_J_33 d_J_insertStep_74 ?_
                  refine lv_iload_n hx hb d_J_insertStep_77 rfl (lv_at hl 3 rfl) ?_
                  refine lv_iload_n hx hb d_J_insertStep_78 rfl (lv_at hl 1 rfl) ?_
                  refine jp_U hc hh (by omega) d_J_insertStep_79 (fun H locs hh => ?_)
                  refine lv_iload_n hx hb d_J_insertStep_80 rfl (lv_at hl 2 rfl) ?_
                  refine lv_iconst (v := 1) hx hb d_J_insertStep_81 (by decide) ?_
                  refine lv_iadd hx hb d_J_insertStep_82 ?_
                  exact jx_iret (r := (nI k + 1)) hc hh hQ hlk hr rfl rfl ⟨by unfold jc_insN; rw [if_neg (by rw [hq]; decide)]; exact nI_1 k, by unfold jc_insS; rw [if_neg (by rw [hq]; decide), hv, hf]; rfl⟩ d_J_insertStep_83
                refine J73 v _ _ _ (by rw [← hs]; first | rfl | simp [jc_sh, js_ge48 (show n + 1 < 2 ^ 31 by omega) (show a < 2 ^ 31 by omega) h48]) ?_ ?_
                ·
                  exact hh
                exact lv_sub hl [0, 1, 2, 3] rfl
              | succ n ih =>
                intro v H locs ls hm hs hh hl
                refine lv_iload hx hb d_J_insertStep_45 (lv_at hl 4 rfl) ?_
                refine lv_iload_n hx hb d_J_insertStep_47 rfl (lv_at hl 3 rfl) ?_
                refine lv_icmp_le (tgt := 73) hx hb d_J_insertStep_48 rfl (fun h48 => ?_) (fun h48 => ?_)
                ·
                  have J73 : ∀ (v : js_S) (H : Heap) (locs : List Loc) (ls : Array Slot), (v = jc_sh u a k) → jx_H D 158 ad (jc_cell ad aK cA v) A s.heap H locs → lv_has ls 5 [(0, .ref (ad 0)), (1, .int st), (2, .int (nI k)), (3, .int (nI a))] → W p l e (jr 1) s m args below meth c H locs 0 0 Q (F0 m 73 ls []) := by
                    intro v H locs ls hv hh hl
                    refine lv_aload_n hx hb d_J_insertStep_73 rfl (lv_at hl 0 rfl) ?_
                    refine jg_J hc hh 4 (by decide) rfl wf_J_33 d_J_insertStep_74 ?_
                    refine lv_iload_n hx hb d_J_insertStep_77 rfl (lv_at hl 3 rfl) ?_
                    refine lv_iload_n hx hb d_J_insertStep_78 rfl (lv_at hl 1 rfl) ?_
                    refine jp_U hc hh (by omega) d_J_insertStep_79 (fun H locs hh => ?_)
                    refine lv_iload_n hx hb d_J_insertStep_80 rfl (lv_at hl 2 rfl) ?_
                    refine lv_iconst (v := 1) hx hb d_J_insertStep_81 (by decide) ?_
                    refine lv_iadd hx hb d_J_insertStep_82 ?_
                    exact jx_iret (r := (nI k + 1)) hc hh hQ hlk hr rfl rfl ⟨by unfold jc_insN; rw [if_neg (by rw [hq]; decide)]; exact nI_1 k, by unfold jc_insS; rw [if_neg (by rw [hq]; decide), hv, hf]; rfl⟩ d_J_insertStep_83
                  refine J73 v _ _ _ (by rw [← hs]; first | rfl | simp [jc_sh, js_ge48 (show n + 1 < 2 ^ 31 by omega) (show a < 2 ^ 31 by omega) h48]) ?_ ?_
                  ·
                    exact hh
                  exact lv_sub hl [0, 1, 2, 3] rfl
                refine lv_aload_n hx hb d_J_insertStep_51 rfl (lv_at hl 0 rfl) ?_
                refine jg_J hc hh 4 (by decide) rfl wf_J_33 d_J_insertStep_52 ?_
                refine lv_iload hx hb d_J_insertStep_55 (lv_at hl 4 rfl) ?_
                refine lv_aload_n hx hb d_J_insertStep_57 rfl (lv_at hl 0 rfl) ?_
                refine jg_J hc hh 4 (by decide) rfl wf_J_33 d_J_insertStep_58 ?_
                refine lv_iload hx hb d_J_insertStep_61 (lv_at hl 4 rfl) ?_
                refine lv_iconst (v := 1) hx hb d_J_insertStep_63 (by decide) ?_
                refine lv_isub hx hb d_J_insertStep_64 ?_
                rw [nI_pred]
                refine ja_U hc hh (by omega) d_J_insertStep_65 ?_
                refine jp_U hc hh (by omega) d_J_insertStep_66 (fun H locs hh => ?_)
                refine lv_iinc (k := 4) (v := nI n) (lv' := [(4, .int (nI n)), (0, .ref (ad 0)), (1, .int st), (2, .int (nI k)), (3, .int (nI a))]) hx hb d_J_insertStep_67 hl rfl (pk_m1 n) (by decide) rfl (fun ls hl => ?_)
                refine lv_goto (tgt := 45) hx hb d_J_insertStep_70 rfl ?_
                refine ih (js_up v 20 (n + 1) (v 20 n)) _ _ _ (by omega) (by rw [← hs]; simp [jc_sh, js_lt48 (show n + 1 < 2 ^ 31 by omega) (show a < 2 ^ 31 by omega) h48]) ?_ ?_
                ·
                  exact hh
                exact lv_sub hl [1, 2, 3, 4, 0] rfl
            refine L45 k u _ _ _ (by omega) rfl ?_ ?_
            ·
              exact hh
            exact lv_sub hl [1, 2, 3, 4, 0] rfl
          refine J42 _ (by unfold jc_insQ; rw [← hf]; first | simp [js_npos h25 (by omega)] | simp [h37]) ?_
          exact lv_sub hl [0, 1, 2, 3] rfl
        refine lv_aload_n hx hb d_J_insertStep_28 rfl (lv_at hl 0 rfl) ?_
        refine jg_J hc hh 4 (by decide) rfl wf_J_33 d_J_insertStep_29 ?_
        refine lv_iload_n hx hb d_J_insertStep_32 rfl (lv_at hl 3 rfl) ?_
        refine lv_iconst (v := 1) hx hb d_J_insertStep_33 (by decide) ?_
        refine lv_isub hx hb d_J_insertStep_34 ?_
        rw [js_pred (js_pos h25)]
        refine ja_U hc hh (by omega) d_J_insertStep_35 ?_
        refine lv_iload_n hx hb d_J_insertStep_36 rfl (lv_at hl 1 rfl) ?_
        refine lv_icmp_ne (tgt := 42) hx hb d_J_insertStep_37 rfl (fun h37 => ?_) (fun h37 => ?_)
        ·
          have J42 : ∀  (ls : Array Slot), (jc_insQ u st k = false) → lv_has ls 5 [(0, .ref (ad 0)), (1, .int st), (2, .int (nI k)), (3, .int (nI a))] → W p l e (jr 1) s m args below meth c H locs 0 0 Q (F0 m 42 ls []) := by
            intro  ls hq hl
            refine lv_iload_n hx hb d_J_insertStep_42 rfl (lv_at hl 2 rfl) ?_
            refine lv_istore (i := 4) (lv' := [(4, .int (nI k)), (0, .ref (ad 0)), (1, .int st), (2, .int (nI k)), (3, .int (nI a))]) hx hb d_J_insertStep_43 hl (by decide) rfl (fun ls hl => ?_)
            have L45 : ∀ (n : Nat) (v : js_S) (H : Heap) (locs : List Loc) (ls : Array Slot), n ≤ k → (jc_sh v a n = jc_sh u a k) → jx_H D 158 ad (jc_cell ad aK cA v) A s.heap H locs → lv_has ls 5 [(0, .ref (ad 0)), (1, .int st), (2, .int (nI k)), (3, .int (nI a)), (4, .int (nI n))] → W p l e (jr 1) s m args below meth c H locs 0 0 Q (F0 m 45 ls []) := by
              intro n
              induction n with
              | zero =>
                intro v H locs ls hm hs hh hl
                refine lv_iload hx hb d_J_insertStep_45 (lv_at hl 4 rfl) ?_
                refine lv_iload_n hx hb d_J_insertStep_47 rfl (lv_at hl 3 rfl) ?_
                refine lv_icmp_le (tgt := 73) hx hb d_J_insertStep_48 rfl (fun h48 => ?_) (fun hq => absurd (nI_le (Nat.zero_le _) (by omega)) hq)
                have J73 : ∀ (v : js_S) (H : Heap) (locs : List Loc) (ls : Array Slot), (v = jc_sh u a k) → jx_H D 158 ad (jc_cell ad aK cA v) A s.heap H locs → lv_has ls 5 [(0, .ref (ad 0)), (1, .int st), (2, .int (nI k)), (3, .int (nI a))] → W p l e (jr 1) s m args below meth c H locs 0 0 Q (F0 m 73 ls []) := by
                  intro v H locs ls hv hh hl
                  refine lv_aload_n hx hb d_J_insertStep_73 rfl (lv_at hl 0 rfl) ?_
                  refine jg_J hc hh 4 (by decide) rfl wf_J_33 d_J_insertStep_74 ?_
                  refine lv_iload_n hx hb d_J_insertStep_77 rfl (lv_at hl 3 rfl) ?_
                  refine lv_iload_n hx hb d_J_insertStep_78 rfl (lv_at hl 1 rfl) ?_
                  refine jp_U hc hh (by omega) d_J_insertStep_79 (fun H locs hh => ?_)
                  refine lv_iload_n hx hb d_J_insertStep_80 rfl (lv_at hl 2 rfl) ?_
                  refine lv_iconst (v := 1) hx hb d_J_insertStep_81 (by decide) ?_
                  refine lv_iadd hx hb d_J_insertStep_82 ?_
                  exact jx_iret (r := (nI k + 1)) hc hh hQ hlk hr rfl rfl ⟨by unfold jc_insN; rw [if_neg (by rw [hq]; decide)]; exact nI_1 k, by unfold jc_insS; rw [if_neg (by rw [hq]; decide), hv, hf]; rfl⟩ d_J_insertStep_83
                refine J73 v _ _ _ (by rw [← hs]; first | rfl | simp [jc_sh, js_ge48 (show n + 1 < 2 ^ 31 by omega) (show a < 2 ^ 31 by omega) h48]) ?_ ?_
                ·
                  exact hh
                exact lv_sub hl [0, 1, 2, 3] rfl
              | succ n ih =>
                intro v H locs ls hm hs hh hl
                refine lv_iload hx hb d_J_insertStep_45 (lv_at hl 4 rfl) ?_
                refine lv_iload_n hx hb d_J_insertStep_47 rfl (lv_at hl 3 rfl) ?_
                refine lv_icmp_le (tgt := 73) hx hb d_J_insertStep_48 rfl (fun h48 => ?_) (fun h48 => ?_)
                ·
                  have J73 : ∀ (v : js_S) (H : Heap) (locs : List Loc) (ls : Array Slot), (v = jc_sh u a k) → jx_H D 158 ad (jc_cell ad aK cA v) A s.heap H locs → lv_has ls 5 [(0, .ref (ad 0)), (1, .int st), (2, .int (nI k)), (3, .int (nI a))] → W p l e (jr 1) s m args below meth c H locs 0 0 Q (F0 m 73 ls []) := by
                    intro v H locs ls hv hh hl
                    refine lv_aload_n hx hb d_J_insertStep_73 rfl (lv_at hl 0 rfl) ?_
                    refine jg_J hc hh 4 (by decide) rfl wf_J_33 d_J_insertStep_74 ?_
                    refine lv_iload_n hx hb d_J_insertStep_77 rfl (lv_at hl 3 rfl) ?_
                    refine lv_iload_n hx hb d_J_insertStep_78 rfl (lv_at hl 1 rfl) ?_
                    refine jp_U hc hh (by omega) d_J_insertStep_79 (fun H locs hh => ?_)
                    refine lv_iload_n hx hb d_J_insertStep_80 rfl (lv_at hl 2 rfl) ?_
                    refine lv_iconst (v := 1) hx hb d_J_insertStep_81 (by decide) ?_
                    refine lv_iadd hx hb d_J_insertStep_82 ?_
                    exact jx_iret (r := (nI k + 1)) hc hh hQ hlk hr rfl rfl ⟨by unfold jc_insN; rw [if_neg (by rw [hq]; decide)]; exact nI_1 k, by unfold jc_insS; rw [if_neg (by rw [hq]; decide), hv, hf]; rfl⟩ d_J_insertStep_83
                  refine J73 v _ _ _ (by rw [← hs]; first | rfl | simp [jc_sh, js_ge48 (show n + 1 < 2 ^ 31 by omega) (show a < 2 ^ 31 by omega) h48]) ?_ ?_
                  ·
                    exact hh
                  exact lv_sub hl [0, 1, 2, 3] rfl
                refine lv_aload_n hx hb d_J_insertStep_51 rfl (lv_at hl 0 rfl) ?_
                refine jg_J hc hh 4 (by decide) rfl wf_J_33 d_J_insertStep_52 ?_
                refine lv_iload hx hb d_J_insertStep_55 (lv_at hl 4 rfl) ?_
                refine lv_aload_n hx hb d_J_insertStep_57 rfl (lv_at hl 0 rfl) ?_
                refine jg_J hc hh 4 (by decide) rfl wf_J_33 d_J_insertStep_58 ?_
                refine lv_iload hx hb d_J_insertStep_61 (lv_at hl 4 rfl) ?_
                refine lv_iconst (v := 1) hx hb d_J_insertStep_63 (by decide) ?_
                refine lv_isub hx hb d_J_insertStep_64 ?_
                rw [nI_pred]
                refine ja_U hc hh (by omega) d_J_insertStep_65 ?_
                refine jp_U hc hh (by omega) d_J_insertStep_66 (fun H locs hh => ?_)
                refine lv_iinc (k := 4) (v := nI n) (lv' := [(4, .int (nI n)), (0, .ref (ad 0)), (1, .int st), (2, .int (nI k)), (3, .int (nI a))]) hx hb d_J_insertStep_67 hl rfl (pk_m1 n) (by decide) rfl (fun ls hl => ?_)
                refine lv_goto (tgt := 45) hx hb d_J_insertStep_70 rfl ?_
                refine ih (js_up v 20 (n + 1) (v 20 n)) _ _ _ (by omega) (by rw [← hs]; simp [jc_sh, js_lt48 (show n + 1 < 2 ^ 31 by omega) (show a < 2 ^ 31 by omega) h48]) ?_ ?_
                ·
                  exact hh
                exact lv_sub hl [1, 2, 3, 4, 0] rfl
            refine L45 k u _ _ _ (by omega) rfl ?_ ?_
            ·
              exact hh
            exact lv_sub hl [1, 2, 3, 4, 0] rfl
          refine J42 _ (by unfold jc_insQ; rw [← hf]; first | simp [js_npos h25 (by omega)] | simp [h37]) ?_
          exact lv_sub hl [0, 1, 2, 3] rfl
        refine lv_iload_n hx hb d_J_insertStep_40 rfl (lv_at hl 2 rfl) ?_
        exact jx_iret (r := nI k) hc hh hQ hlk hr rfl rfl ⟨by unfold jc_insN; rw [if_pos (jc_insQ_t hf (js_pos h25) h37)], by unfold jc_insS; rw [if_pos (jc_insQ_t hf (js_pos h25) h37)]⟩ d_J_insertStep_41
      refine J24 0 _ (by omega) (by rw [← hf]; first | rfl | simp [jc_at, h15]) ?_
      exact lv_sub hl [0, 1, 2, 3] rfl
    | succ n ih =>
      intro  ls hm hf hl
      refine lv_iload_n hx hb d_J_insertStep_2 rfl (lv_at hl 3 rfl) ?_
      refine lv_if_le (tgt := 24) hx hb d_J_insertStep_3 rfl (fun hq => absurd hq (nI_nle (by omega) (by omega))) (fun h3 => ?_)
      refine lv_aload_n hx hb d_J_insertStep_6 rfl (lv_at hl 0 rfl) ?_
      refine jg_J hc hh 4 (by decide) rfl wf_J_33 d_J_insertStep_7 ?_
      refine lv_iload_n hx hb d_J_insertStep_10 rfl (lv_at hl 3 rfl) ?_
      refine lv_iconst (v := 1) hx hb d_J_insertStep_11 (by decide) ?_
      refine lv_isub hx hb d_J_insertStep_12 ?_
      rw [nI_pred]
      refine ja_U hc hh (by omega) d_J_insertStep_13 ?_
      refine lv_iload_n hx hb d_J_insertStep_14 rfl (lv_at hl 1 rfl) ?_
      refine lv_icmp_le (tgt := 24) hx hb d_J_insertStep_15 rfl (fun h15 => ?_) (fun h15 => ?_)
      ·
        have J24 : ∀ (a : Nat) (ls : Array Slot), (a ≤ k) → (a = jc_at u st k) → lv_has ls 5 [(0, .ref (ad 0)), (1, .int st), (2, .int (nI k)), (3, .int (nI a))] → W p l e (jr 1) s m args below meth c H locs 0 0 Q (F0 m 24 ls []) := by
          intro a ls ha hf hl
          refine lv_iload_n hx hb d_J_insertStep_24 rfl (lv_at hl 3 rfl) ?_
          refine lv_if_le (tgt := 42) hx hb d_J_insertStep_25 rfl (fun h25 => ?_) (fun h25 => ?_)
          ·
            have J42 : ∀  (ls : Array Slot), (jc_insQ u st k = false) → lv_has ls 5 [(0, .ref (ad 0)), (1, .int st), (2, .int (nI k)), (3, .int (nI a))] → W p l e (jr 1) s m args below meth c H locs 0 0 Q (F0 m 42 ls []) := by
              intro  ls hq hl
              refine lv_iload_n hx hb d_J_insertStep_42 rfl (lv_at hl 2 rfl) ?_
              refine lv_istore (i := 4) (lv' := [(4, .int (nI k)), (0, .ref (ad 0)), (1, .int st), (2, .int (nI k)), (3, .int (nI a))]) hx hb d_J_insertStep_43 hl (by decide) rfl (fun ls hl => ?_)
              have L45 : ∀ (n : Nat) (v : js_S) (H : Heap) (locs : List Loc) (ls : Array Slot), n ≤ k → (jc_sh v a n = jc_sh u a k) → jx_H D 158 ad (jc_cell ad aK cA v) A s.heap H locs → lv_has ls 5 [(0, .ref (ad 0)), (1, .int st), (2, .int (nI k)), (3, .int (nI a)), (4, .int (nI n))] → W p l e (jr 1) s m args below meth c H locs 0 0 Q (F0 m 45 ls []) := by
                intro n
                induction n with
                | zero =>
                  intro v H locs ls hm hs hh hl
                  refine lv_iload hx hb d_J_insertStep_45 (lv_at hl 4 rfl) ?_
                  refine lv_iload_n hx hb d_J_insertStep_47 rfl (lv_at hl 3 rfl) ?_
                  refine lv_icmp_le (tgt := 73) hx hb d_J_insertStep_48 rfl (fun h48 => ?_) (fun hq => absurd (nI_le (Nat.zero_le _) (by omega)) hq)
                  have J73 : ∀ (v : js_S) (H : Heap) (locs : List Loc) (ls : Array Slot), (v = jc_sh u a k) → jx_H D 158 ad (jc_cell ad aK cA v) A s.heap H locs → lv_has ls 5 [(0, .ref (ad 0)), (1, .int st), (2, .int (nI k)), (3, .int (nI a))] → W p l e (jr 1) s m args below meth c H locs 0 0 Q (F0 m 73 ls []) := by
                    intro v H locs ls hv hh hl
                    refine lv_aload_n hx hb d_J_insertStep_73 rfl (lv_at hl 0 rfl) ?_
                    refine jg_J hc hh 4 (by decide) rfl wf_J_33 d_J_insertStep_74 ?_
                    refine lv_iload_n hx hb d_J_insertStep_77 rfl (lv_at hl 3 rfl) ?_
                    refine lv_iload_n hx hb d_J_insertStep_78 rfl (lv_at hl 1 rfl) ?_
                    refine jp_U hc hh (by omega) d_J_insertStep_79 (fun H locs hh => ?_)
                    refine lv_iload_n hx hb d_J_insertStep_80 rfl (lv_at hl 2 rfl) ?_
                    refine lv_iconst (v := 1) hx hb d_J_insertStep_81 (by decide) ?_
                    refine lv_iadd hx hb d_J_insertStep_82 ?_
                    exact jx_iret (r := (nI k + 1)) hc hh hQ hlk hr rfl rfl ⟨by unfold jc_insN; rw [if_neg (by rw [hq]; decide)]; exact nI_1 k, by unfold jc_insS; rw [if_neg (by rw [hq]; decide), hv, hf]; rfl⟩ d_J_insertStep_83
                  refine J73 v _ _ _ (by rw [← hs]; first | rfl | simp [jc_sh, js_ge48 (show n + 1 < 2 ^ 31 by omega) (show a < 2 ^ 31 by omega) h48]) ?_ ?_
                  ·
                    exact hh
                  exact lv_sub hl [0, 1, 2, 3] rfl
                | succ n ih =>
                  intro v H locs ls hm hs hh hl
                  refine lv_iload hx hb d_J_insertStep_45 (lv_at hl 4 rfl) ?_
                  refine lv_iload_n hx hb d_J_insertStep_47 rfl (lv_at hl 3 rfl) ?_
                  refine lv_icmp_le (tgt := 73) hx hb d_J_insertStep_48 rfl (fun h48 => ?_) (fun h48 => ?_)
                  ·
                    have J73 : ∀ (v : js_S) (H : Heap) (locs : List Loc) (ls : Array Slot), (v = jc_sh u a k) → jx_H D 158 ad (jc_cell ad aK cA v) A s.heap H locs → lv_has ls 5 [(0, .ref (ad 0)), (1, .int st), (2, .int (nI k)), (3, .int (nI a))] → W p l e (jr 1) s m args below meth c H locs 0 0 Q (F0 m 73 ls []) := by
                      intro v H locs ls hv hh hl
                      refine lv_aload_n hx hb d_J_insertStep_73 rfl (lv_at hl 0 rfl) ?_
                      refine jg_J hc hh 4 (by decide) rfl wf_J_33 d_J_insertStep_74 ?_
                      refine lv_iload_n hx hb d_J_insertStep_77 rfl (lv_at hl 3 rfl) ?_
                      refine lv_iload_n hx hb d_J_insertStep_78 rfl (lv_at hl 1 rfl) ?_
                      refine jp_U hc hh (by omega) d_J_insertStep_79 (fun H locs hh => ?_)
                      refine lv_iload_n hx hb d_J_insertStep_80 rfl (lv_at hl 2 rfl) ?_
                      refine lv_iconst (v := 1) hx hb d_J_insertStep_81 (by decide) ?_
                      refine lv_iadd hx hb d_J_insertStep_82 ?_
                      exact jx_iret (r := (nI k + 1)) hc hh hQ hlk hr rfl rfl ⟨by unfold jc_insN; rw [if_neg (by rw [hq]; decide)]; exact nI_1 k, by unfold jc_insS; rw [if_neg (by rw [hq]; decide), hv, hf]; rfl⟩ d_J_insertStep_83
                    refine J73 v _ _ _ (by rw [← hs]; first | rfl | simp [jc_sh, js_ge48 (show n + 1 < 2 ^ 31 by omega) (show a < 2 ^ 31 by omega) h48]) ?_ ?_
                    ·
                      exact hh
                    exact lv_sub hl [0, 1, 2, 3] rfl
                  refine lv_aload_n hx hb d_J_insertStep_51 rfl (lv_at hl 0 rfl) ?_
                  refine jg_J hc hh 4 (by decide) rfl wf_J_33 d_J_insertStep_52 ?_
                  refine lv_iload hx hb d_J_insertStep_55 (lv_at hl 4 rfl) ?_
                  refine lv_aload_n hx hb d_J_insertStep_57 rfl (lv_at hl 0 rfl) ?_
                  refine jg_J hc hh 4 (by decide) rfl wf_J_33 d_J_insertStep_58 ?_
                  refine lv_iload hx hb d_J_insertStep_61 (lv_at hl 4 rfl) ?_
                  refine lv_iconst (v := 1) hx hb d_J_insertStep_63 (by decide) ?_
                  refine lv_isub hx hb d_J_insertStep_64 ?_
                  rw [nI_pred]
                  refine ja_U hc hh (by omega) d_J_insertStep_65 ?_
                  refine jp_U hc hh (by omega) d_J_insertStep_66 (fun H locs hh => ?_)
                  refine lv_iinc (k := 4) (v := nI n) (lv' := [(4, .int (nI n)), (0, .ref (ad 0)), (1, .int st), (2, .int (nI k)), (3, .int (nI a))]) hx hb d_J_insertStep_67 hl rfl (pk_m1 n) (by decide) rfl (fun ls hl => ?_)
                  refine lv_goto (tgt := 45) hx hb d_J_insertStep_70 rfl ?_
                  refine ih (js_up v 20 (n + 1) (v 20 n)) _ _ _ (by omega) (by rw [← hs]; simp [jc_sh, js_lt48 (show n + 1 < 2 ^ 31 by omega) (show a < 2 ^ 31 by omega) h48]) ?_ ?_
                  ·
                    exact hh
                  exact lv_sub hl [1, 2, 3, 4, 0] rfl
              refine L45 k u _ _ _ (by omega) rfl ?_ ?_
              ·
                exact hh
              exact lv_sub hl [1, 2, 3, 4, 0] rfl
            refine J42 _ (by unfold jc_insQ; rw [← hf]; first | simp [js_npos h25 (by omega)] | simp [h37]) ?_
            exact lv_sub hl [0, 1, 2, 3] rfl
          refine lv_aload_n hx hb d_J_insertStep_28 rfl (lv_at hl 0 rfl) ?_
          refine jg_J hc hh 4 (by decide) rfl wf_J_33 d_J_insertStep_29 ?_
          refine lv_iload_n hx hb d_J_insertStep_32 rfl (lv_at hl 3 rfl) ?_
          refine lv_iconst (v := 1) hx hb d_J_insertStep_33 (by decide) ?_
          refine lv_isub hx hb d_J_insertStep_34 ?_
          rw [js_pred (js_pos h25)]
          refine ja_U hc hh (by omega) d_J_insertStep_35 ?_
          refine lv_iload_n hx hb d_J_insertStep_36 rfl (lv_at hl 1 rfl) ?_
          refine lv_icmp_ne (tgt := 42) hx hb d_J_insertStep_37 rfl (fun h37 => ?_) (fun h37 => ?_)
          ·
            have J42 : ∀  (ls : Array Slot), (jc_insQ u st k = false) → lv_has ls 5 [(0, .ref (ad 0)), (1, .int st), (2, .int (nI k)), (3, .int (nI a))] → W p l e (jr 1) s m args below meth c H locs 0 0 Q (F0 m 42 ls []) := by
              intro  ls hq hl
              refine lv_iload_n hx hb d_J_insertStep_42 rfl (lv_at hl 2 rfl) ?_
              refine lv_istore (i := 4) (lv' := [(4, .int (nI k)), (0, .ref (ad 0)), (1, .int st), (2, .int (nI k)), (3, .int (nI a))]) hx hb d_J_insertStep_43 hl (by decide) rfl (fun ls hl => ?_)
              have L45 : ∀ (n : Nat) (v : js_S) (H : Heap) (locs : List Loc) (ls : Array Slot), n ≤ k → (jc_sh v a n = jc_sh u a k) → jx_H D 158 ad (jc_cell ad aK cA v) A s.heap H locs → lv_has ls 5 [(0, .ref (ad 0)), (1, .int st), (2, .int (nI k)), (3, .int (nI a)), (4, .int (nI n))] → W p l e (jr 1) s m args below meth c H locs 0 0 Q (F0 m 45 ls []) := by
                intro n
                induction n with
                | zero =>
                  intro v H locs ls hm hs hh hl
                  refine lv_iload hx hb d_J_insertStep_45 (lv_at hl 4 rfl) ?_
                  refine lv_iload_n hx hb d_J_insertStep_47 rfl (lv_at hl 3 rfl) ?_
                  refine lv_icmp_le (tgt := 73) hx hb d_J_insertStep_48 rfl (fun h48 => ?_) (fun hq => absurd (nI_le (Nat.zero_le _) (by omega)) hq)
                  have J73 : ∀ (v : js_S) (H : Heap) (locs : List Loc) (ls : Array Slot), (v = jc_sh u a k) → jx_H D 158 ad (jc_cell ad aK cA v) A s.heap H locs → lv_has ls 5 [(0, .ref (ad 0)), (1, .int st), (2, .int (nI k)), (3, .int (nI a))] → W p l e (jr 1) s m args below meth c H locs 0 0 Q (F0 m 73 ls []) := by
                    intro v H locs ls hv hh hl
                    refine lv_aload_n hx hb d_J_insertStep_73 rfl (lv_at hl 0 rfl) ?_
                    refine jg_J hc hh 4 (by decide) rfl wf_J_33 d_J_insertStep_74 ?_
                    refine lv_iload_n hx hb d_J_insertStep_77 rfl (lv_at hl 3 rfl) ?_
                    refine lv_iload_n hx hb d_J_insertStep_78 rfl (lv_at hl 1 rfl) ?_
                    refine jp_U hc hh (by omega) d_J_insertStep_79 (fun H locs hh => ?_)
                    refine lv_iload_n hx hb d_J_insertStep_80 rfl (lv_at hl 2 rfl) ?_
                    refine lv_iconst (v := 1) hx hb d_J_insertStep_81 (by decide) ?_
                    refine lv_iadd hx hb d_J_insertStep_82 ?_
                    exact jx_iret (r := (nI k + 1)) hc hh hQ hlk hr rfl rfl ⟨by unfold jc_insN; rw [if_neg (by rw [hq]; decide)]; exact nI_1 k, by unfold jc_insS; rw [if_neg (by rw [hq]; decide), hv, hf]; rfl⟩ d_J_insertStep_83
                  refine J73 v _ _ _ (by rw [← hs]; first | rfl | simp [jc_sh, js_ge48 (show n + 1 < 2 ^ 31 by omega) (show a < 2 ^ 31 by omega) h48]) ?_ ?_
                  ·
                    exact hh
                  exact lv_sub hl [0, 1, 2, 3] rfl
                | succ n ih =>
                  intro v H locs ls hm hs hh hl
                  refine lv_iload hx hb d_J_insertStep_45 (lv_at hl 4 rfl) ?_
                  refine lv_iload_n hx hb d_J_insertStep_47 rfl (lv_at hl 3 rfl) ?_
                  refine lv_icmp_le (tgt := 73) hx hb d_J_insertStep_48 rfl (fun h48 => ?_) (fun h48 => ?_)
                  ·
                    have J73 : ∀ (v : js_S) (H : Heap) (locs : List Loc) (ls : Array Slot), (v = jc_sh u a k) → jx_H D 158 ad (jc_cell ad aK cA v) A s.heap H locs → lv_has ls 5 [(0, .ref (ad 0)), (1, .int st), (2, .int (nI k)), (3, .int (nI a))] → W p l e (jr 1) s m args below meth c H locs 0 0 Q (F0 m 73 ls []) := by
                      intro v H locs ls hv hh hl
                      refine lv_aload_n hx hb d_J_insertStep_73 rfl (lv_at hl 0 rfl) ?_
                      refine jg_J hc hh 4 (by decide) rfl wf_J_33 d_J_insertStep_74 ?_
                      refine lv_iload_n hx hb d_J_insertStep_77 rfl (lv_at hl 3 rfl) ?_
                      refine lv_iload_n hx hb d_J_insertStep_78 rfl (lv_at hl 1 rfl) ?_
                      refine jp_U hc hh (by omega) d_J_insertStep_79 (fun H locs hh => ?_)
                      refine lv_iload_n hx hb d_J_insertStep_80 rfl (lv_at hl 2 rfl) ?_
                      refine lv_iconst (v := 1) hx hb d_J_insertStep_81 (by decide) ?_
                      refine lv_iadd hx hb d_J_insertStep_82 ?_
                      exact jx_iret (r := (nI k + 1)) hc hh hQ hlk hr rfl rfl ⟨by unfold jc_insN; rw [if_neg (by rw [hq]; decide)]; exact nI_1 k, by unfold jc_insS; rw [if_neg (by rw [hq]; decide), hv, hf]; rfl⟩ d_J_insertStep_83
                    refine J73 v _ _ _ (by rw [← hs]; first | rfl | simp [jc_sh, js_ge48 (show n + 1 < 2 ^ 31 by omega) (show a < 2 ^ 31 by omega) h48]) ?_ ?_
                    ·
                      exact hh
                    exact lv_sub hl [0, 1, 2, 3] rfl
                  refine lv_aload_n hx hb d_J_insertStep_51 rfl (lv_at hl 0 rfl) ?_
                  refine jg_J hc hh 4 (by decide) rfl wf_J_33 d_J_insertStep_52 ?_
                  refine lv_iload hx hb d_J_insertStep_55 (lv_at hl 4 rfl) ?_
                  refine lv_aload_n hx hb d_J_insertStep_57 rfl (lv_at hl 0 rfl) ?_
                  refine jg_J hc hh 4 (by decide) rfl wf_J_33 d_J_insertStep_58 ?_
                  refine lv_iload hx hb d_J_insertStep_61 (lv_at hl 4 rfl) ?_
                  refine lv_iconst (v := 1) hx hb d_J_insertStep_63 (by decide) ?_
                  refine lv_isub hx hb d_J_insertStep_64 ?_
                  rw [nI_pred]
                  refine ja_U hc hh (by omega) d_J_insertStep_65 ?_
                  refine jp_U hc hh (by omega) d_J_insertStep_66 (fun H locs hh => ?_)
                  refine lv_iinc (k := 4) (v := nI n) (lv' := [(4, .int (nI n)), (0, .ref (ad 0)), (1, .int st), (2, .int (nI k)), (3, .int (nI a))]) hx hb d_J_insertStep_67 hl rfl (pk_m1 n) (by decide) rfl (fun ls hl => ?_)
                  refine lv_goto (tgt := 45) hx hb d_J_insertStep_70 rfl ?_
                  refine ih (js_up v 20 (n + 1) (v 20 n)) _ _ _ (by omega) (by rw [← hs]; simp [jc_sh, js_lt48 (show n + 1 < 2 ^ 31 by omega) (show a < 2 ^ 31 by omega) h48]) ?_ ?_
                  ·
                    exact hh
                  exact lv_sub hl [1, 2, 3, 4, 0] rfl
              refine L45 k u _ _ _ (by omega) rfl ?_ ?_
              ·
                exact hh
              exact lv_sub hl [1, 2, 3, 4, 0] rfl
            refine J42 _ (by unfold jc_insQ; rw [← hf]; first | simp [js_npos h25 (by omega)] | simp [h37]) ?_
            exact lv_sub hl [0, 1, 2, 3] rfl
          refine lv_iload_n hx hb d_J_insertStep_40 rfl (lv_at hl 2 rfl) ?_
          exact jx_iret (r := nI k) hc hh hQ hlk hr rfl rfl ⟨by unfold jc_insN; rw [if_pos (jc_insQ_t hf (js_pos h25) h37)], by unfold jc_insS; rw [if_pos (jc_insQ_t hf (js_pos h25) h37)]⟩ d_J_insertStep_41
        refine J24 (n + 1) _ (by omega) (by rw [← hf]; first | rfl | simp [jc_at, h15]) ?_
        exact lv_sub hl [0, 1, 2, 3] rfl
      refine lv_iinc (k := 3) (v := nI n) (lv' := [(3, .int (nI n)), (0, .ref (ad 0)), (1, .int st), (2, .int (nI k))]) hx hb d_J_insertStep_18 hl rfl (pk_m1 n) (by decide) rfl (fun ls hl => ?_)
      refine lv_goto (tgt := 2) hx hb d_J_insertStep_21 rfl ?_
      refine ih _ (by omega) (by rw [← hf]; simp [jc_at, h15]) ?_
      exact lv_sub hl [1, 2, 3, 0] rfl
  refine L2 k _ (by omega) rfl ?_
  exact lv_sub hl [1, 2, 3, 0] rfl
set_option maxHeartbeats 4000000 in
set_option maxRecDepth 100000 in
theorem c_collectUsedSteps (l : Launch) (D : va_G) (aK ad : Nat → Nat) (cA : Nat → ClassId) (u : js_S) : jx_M l y_J_collectUsedSteps b_J_collectUsedSteps 6 (some .int) (jr 2) D (jc_tys cA) aK 158 ad (jc_cell ad aK cA) [.ref (ad 0)] u (fun r : Int32 => some (.int r)) (fun r u' => r = nI (jc_cu u 40).2 ∧ u' = (jc_cu u 40).1) := by
  refine jx_enter "JointHistory" (by decide) rfl (by simp [lg_sl, vc_int, vc_ref, vc_long, jv_cat]) ?_
  intro p e s m args below meth c A Q H locs ls hQ hc hh hr hlk hl
  have hx := hc.1
  have hb := hc.2.1
  have hl : lv_has ls 6 [(0, .ref (ad 0))] := by simpa [lv_args, vc_int, vc_ref, vc_long, jv_cat] using hl
  refine lv_iconst (v := 0) hx hb d_J_collectUsedSteps_0 (by decide) ?_
  refine lv_istore_n (i := 1) (lv' := [(1, .int 0), (0, .ref (ad 0))]) hx hb d_J_collectUsedSteps_1 rfl hl (by decide) rfl (fun ls hl => ?_)
  refine lv_aload_n hx hb d_J_collectUsedSteps_2 rfl (lv_at hl 1 rfl) ?_
  refine jg_J hc hh 3 (by decide) rfl wf_J_29 d_J_collectUsedSteps_3 ?_
  refine lv_astore_n (i := 2) (lv' := [(2, .ref (ad 4)), (1, .int 0), (0, .ref (ad 0))]) hx hb d_J_collectUsedSteps_6 rfl hl (by decide) rfl (fun ls hl => ?_)
  refine lv_aload_n hx hb d_J_collectUsedSteps_7 rfl (lv_at hl 0 rfl) ?_
  refine jl_E hc hh d_J_collectUsedSteps_8 ?_
  refine lv_istore_n (i := 3) (lv' := [(3, .int (nI 40)), (2, .ref (ad 4)), (1, .int 0), (0, .ref (ad 0))]) hx hb d_J_collectUsedSteps_9 rfl hl (by decide) rfl (fun ls hl => ?_)
  refine lv_iconst (v := 0) hx hb d_J_collectUsedSteps_10 (by decide) ?_
  refine lv_istore (i := 4) (lv' := [(4, .int 0), (3, .int (nI 40)), (2, .ref (ad 4)), (1, .int 0), (0, .ref (ad 0))]) hx hb d_J_collectUsedSteps_11 hl (by decide) rfl (fun ls hl => ?_)
  have L13 : ∀ (n : Nat) (i : Nat) (H : Heap) (locs : List Loc) (ls : Array Slot), i + n = 40 → jx_H D 158 ad (jc_cell ad aK cA ((jc_cu u i).1)) A s.heap H locs → lv_has ls 6 [(0, .ref (ad 0)), (1, .int (nI (jc_cu u i).2)), (2, .ref (ad 4)), (3, .int (nI 40)), (4, .int (nI i))] → W p l e (jr 2) s m args below meth c H locs 0 0 Q (F0 m 13 ls []) := by
    intro n
    induction n with
    | zero =>
      intro i H locs ls hm hh hl
      have hi : i = 40 := by omega
      refine lv_iload hx hb d_J_collectUsedSteps_13 (lv_at hl 4 rfl) ?_
      refine lv_iload_n hx hb d_J_collectUsedSteps_15 rfl (lv_at hl 3 rfl) ?_
      refine lv_icmp_ge (tgt := 50) hx hb d_J_collectUsedSteps_16 rfl (fun h16 => ?_) (fun hq => absurd (nI_le (show 40 ≤ i by omega) (show i < 2 ^ 31 by omega)) hq)
      refine lv_iload_n hx hb d_J_collectUsedSteps_50 rfl (lv_at hl 1 rfl) ?_
      exact jx_iret (r := nI (jc_cu u i).2) hc hh hQ hlk hr rfl rfl ⟨by first | (rw [hi]; done) | (rw [hi]; rfl) | (rw [hi]; simp []; done), by first | (rw [hi]; done) | (rw [hi]; rfl) | (rw [hi]; simp []; done)⟩ d_J_collectUsedSteps_51
    | succ n ih =>
      intro i H locs ls hm hh hl
      have hi : i < 40 := by omega
      refine lv_iload hx hb d_J_collectUsedSteps_13 (lv_at hl 4 rfl) ?_
      refine lv_iload_n hx hb d_J_collectUsedSteps_15 rfl (lv_at hl 3 rfl) ?_
      refine lv_icmp_ge (tgt := 50) hx hb d_J_collectUsedSteps_16 rfl (fun hq => absurd hq (nI_ge hi (by decide))) (fun h16 => ?_)
      refine lv_aload_n hx hb d_J_collectUsedSteps_19 rfl (lv_at hl 2 rfl) ?_
      refine lv_iload hx hb d_J_collectUsedSteps_20 (lv_at hl 4 rfl) ?_
      refine ja_E hc hh hi d_J_collectUsedSteps_22 ?_
      refine jv_astore (i := 5) (lv' := [(5, jv ad 118 (nI i)), (0, .ref (ad 0)), (1, .int (nI (jc_cu u i).2)), (2, .ref (ad 4)), (3, .int (nI 40)), (4, .int (nI i))]) hx hb d_J_collectUsedSteps_23 hl (by decide) rfl (fun ls hl => ?_)
      refine jv_aload hx hb d_J_collectUsedSteps_25 (lv_at hl 0 rfl) ?_
      refine jg_E hc hh hi 0 (by decide) rfl wf_J_179 d_J_collectUsedSteps_27 ?_
      refine lv_if_eq (tgt := 44) hx hb d_J_collectUsedSteps_30 rfl (fun h30 => ?_) (fun h30 => ?_)
      ·
        refine lv_iinc (k := 5) (v := nI (i + 1)) (lv' := [(4, .int (nI (i + 1))), (5, jv ad 118 (nI i)), (0, .ref (ad 0)), (1, .int (nI (jc_cu u i).2)), (2, .ref (ad 4)), (3, .int (nI 40))]) hx hb d_J_collectUsedSteps_44 hl rfl (nI_1 i) (by decide) rfl (fun ls hl => ?_)
        refine lv_goto (tgt := 13) hx hb d_J_collectUsedSteps_47 rfl ?_
        have e1 : nI (jc_cu u (i + 1)).2 = nI (jc_cu u i).2 := by first | (simp [nI_0, jc_cu, h30]; done) | (simp [nI_0, jc_cu, eq_true h30]; done)
        have e2 : (jc_cu u (i + 1)).1 = (jc_cu u i).1 := by first | (simp [nI_0, jc_cu, h30]; done) | (simp [nI_0, jc_cu, eq_true h30]; done)
        refine ih (i + 1) _ _ _ (by omega) ?_ ?_
        ·
          try rw [e1]
          try rw [e2]
          exact hh
        try rw [e1]
        try rw [e2]
        exact lv_sub hl [2, 3, 4, 5, 0] rfl
      refine lv_aload_n hx hb d_J_collectUsedSteps_33 rfl (lv_at hl 1 rfl) ?_
      refine jv_aload hx hb d_J_collectUsedSteps_34 (lv_at hl 0 rfl) ?_
      refine jg_E hc hh hi 2 (by decide) rfl wf_J_128 d_J_collectUsedSteps_36 ?_
      refine lv_iload_n hx hb d_J_collectUsedSteps_39 rfl (lv_at hl 2 rfl) ?_
      refine jx_callV [.int ((jc_cu u i).1 16 i), .int (nI (jc_cu u i).2)] [] hc hh (c_insertStep l D aK ad cA ((jc_cu u i).1) ((jc_cu u i).1 16 i) ((jc_cu u i).2) (Nat.lt_of_le_of_lt (jc_cu_le i) hi)) wy_J_254 ⟨by decide, rfl, rfl⟩ (by decide) rfl hl.1 rfl (by decide) ⟨Nat.zero_le _, Nat.zero_le _⟩ d_J_collectUsedSteps_40 (fun r u9 H locs hp hh _ _ => ?_)
      rw [hp.2] at hh
      refine W.eq (g2 := F0 m 43 ls [.int (nI (jc_insN ((jc_cu u i).1) ((jc_cu u i).1 16 i) ((jc_cu u i).2)))]) (by rw [hp.1]; rfl) ?_
      refine lv_istore_n (i := 1) (lv' := [(1, .int (nI (jc_insN ((jc_cu u i).1) ((jc_cu u i).1 16 i) ((jc_cu u i).2)))), (5, jv ad 118 (nI i)), (0, .ref (ad 0)), (2, .ref (ad 4)), (3, .int (nI 40)), (4, .int (nI i))]) hx hb d_J_collectUsedSteps_43 rfl hl (by decide) rfl (fun ls hl => ?_)
      refine lv_iinc (k := 5) (v := nI (i + 1)) (lv' := [(4, .int (nI (i + 1))), (1, .int (nI (jc_insN ((jc_cu u i).1) ((jc_cu u i).1 16 i) ((jc_cu u i).2)))), (5, jv ad 118 (nI i)), (0, .ref (ad 0)), (2, .ref (ad 4)), (3, .int (nI 40))]) hx hb d_J_collectUsedSteps_44 hl rfl (nI_1 i) (by decide) rfl (fun ls hl => ?_)
      refine lv_goto (tgt := 13) hx hb d_J_collectUsedSteps_47 rfl ?_
      have e3 : nI (jc_cu u (i + 1)).2 = (nI (jc_insN ((jc_cu u i).1) ((jc_cu u i).1 16 i) ((jc_cu u i).2))) := by simp [nI_0, jc_cu, h30]
      have e4 : (jc_cu u (i + 1)).1 = (jc_insS ((jc_cu u i).1) ((jc_cu u i).1 16 i) ((jc_cu u i).2)) := by simp [nI_0, jc_cu, h30]
      refine ih (i + 1) _ _ _ (by omega) ?_ ?_
      ·
        try rw [e3]
        try rw [e4]
        exact hh
      try rw [e3]
      try rw [e4]
      exact lv_sub hl [3, 1, 4, 5, 0] rfl
  have e5 : nI (jc_cu u 0).2 = 0 := by simp [nI_0, jc_cu]
  have e6 : nI 0 = 0 := rfl
  have e7 : (jc_cu u 0).1 = u := by simp [nI_0, jc_cu]
  refine L13 40 0 _ _ _ (by omega) ?_ ?_
  ·
    try rw [e5]
    try rw [e6]
    try rw [e7]
    exact hh
  try rw [e5]
  try rw [e6]
  try rw [e7]
  exact lv_sub hl [4, 3, 2, 1, 0] rfl
set_option maxHeartbeats 4000000 in
set_option maxRecDepth 100000 in
theorem c_placeOfPresent (l : Launch) (D : va_G) (aK ad : Nat → Nat) (cA : Nat → ClassId) (u : js_S) (k : Nat) (hk : 0 < k ∧ k ≤ 40) : jx_M l y_J_placeOfPresent b_J_placeOfPresent 3 (some .int) (jr 1) D (jc_tys cA) aK 158 ad (jc_cell ad aK cA) [.ref (ad 0), .int (nI k)] u (fun r : Int32 => some (.int r)) (fun r u' => r = nI (jc_place u (k - 1) 0) ∧ u' = u) := by
  refine jx_enter "JointHistory" (by decide) rfl (by simp [lg_sl, vc_int, vc_ref, vc_long, jv_cat]) ?_
  intro p e s m args below meth c A Q H locs ls hQ hc hh hr hlk hl
  have hx := hc.1
  have hb := hc.2.1
  have hl : lv_has ls 3 [(0, .ref (ad 0)), (1, .int (nI k))] := by simpa [lv_args, vc_int, vc_ref, vc_long, jv_cat] using hl
  refine lv_iconst (v := 0) hx hb d_J_placeOfPresent_0 (by decide) ?_
  refine lv_istore_n (i := 2) (lv' := [(2, .int 0), (0, .ref (ad 0)), (1, .int (nI k))]) hx hb d_J_placeOfPresent_1 rfl hl (by decide) rfl (fun ls hl => ?_)
  have L2 : ∀ (n : Nat) (i : Nat) (ls : Array Slot), i + n = k - 1 → (jc_place u n i = jc_place u (k - 1) 0) → lv_has ls 3 [(0, .ref (ad 0)), (1, .int (nI k)), (2, .int (nI i))] → W p l e (jr 1) s m args below meth c H locs 0 0 Q (F0 m 2 ls []) := by
    intro n
    induction n with
    | zero =>
      intro i ls hm hf hl
      have hi : i < 40 := by omega
      refine lv_iload_n hx hb d_J_placeOfPresent_2 rfl (lv_at hl 2 rfl) ?_
      refine lv_iload_n hx hb d_J_placeOfPresent_3 rfl (lv_at hl 1 rfl) ?_
      refine lv_iconst (v := 1) hx hb d_J_placeOfPresent_4 (by decide) ?_
      refine lv_isub hx hb d_J_placeOfPresent_5 ?_
      rw [js_pred hk.1]
      refine lv_icmp_ge (tgt := 28) hx hb d_J_placeOfPresent_6 rfl (fun h6 => ?_) (fun hq => absurd (nI_le (show k - 1 ≤ i by omega) (show i < 2 ^ 31 by omega)) hq)
      refine lv_iload_n hx hb d_J_placeOfPresent_28 rfl (lv_at hl 2 rfl) ?_
      exact jx_iret (r := nI i) hc hh hQ hlk hr rfl rfl ⟨by rw [← hf]; first | rfl | simp [jc_place, h19], rfl⟩ d_J_placeOfPresent_29
    | succ n ih =>
      intro i ls hm hf hl
      have hi : i < 40 := by omega
      refine lv_iload_n hx hb d_J_placeOfPresent_2 rfl (lv_at hl 2 rfl) ?_
      refine lv_iload_n hx hb d_J_placeOfPresent_3 rfl (lv_at hl 1 rfl) ?_
      refine lv_iconst (v := 1) hx hb d_J_placeOfPresent_4 (by decide) ?_
      refine lv_isub hx hb d_J_placeOfPresent_5 ?_
      rw [js_pred hk.1]
      refine lv_icmp_ge (tgt := 28) hx hb d_J_placeOfPresent_6 rfl (fun hq => absurd hq (nI_ge (show i < k - 1 by omega) (by omega))) (fun h6 => ?_)
      refine lv_aload_n hx hb d_J_placeOfPresent_9 rfl (lv_at hl 0 rfl) ?_
      refine jg_J hc hh 4 (by decide) rfl wf_J_33 d_J_placeOfPresent_10 ?_
      refine lv_iload_n hx hb d_J_placeOfPresent_13 rfl (lv_at hl 2 rfl) ?_
      refine ja_U hc hh hi d_J_placeOfPresent_14 ?_
      refine lv_aload_n hx hb d_J_placeOfPresent_15 rfl (lv_at hl 0 rfl) ?_
      refine jg_J hc hh 5 (by decide) rfl wf_J_96 d_J_placeOfPresent_16 ?_
      refine lv_icmp_ge (tgt := 28) hx hb d_J_placeOfPresent_19 rfl (fun h19 => ?_) (fun h19 => ?_)
      ·
        refine lv_iload_n hx hb d_J_placeOfPresent_28 rfl (lv_at hl 2 rfl) ?_
        exact jx_iret (r := nI i) hc hh hQ hlk hr rfl rfl ⟨by rw [← hf]; first | rfl | simp [jc_place, h19], rfl⟩ d_J_placeOfPresent_29
      refine lv_iinc (k := 2) (v := nI (i + 1)) (lv' := [(2, .int (nI (i + 1))), (0, .ref (ad 0)), (1, .int (nI k))]) hx hb d_J_placeOfPresent_22 hl rfl (nI_1 i) (by decide) rfl (fun ls hl => ?_)
      refine lv_goto (tgt := 2) hx hb d_J_placeOfPresent_25 rfl ?_
      refine ih (i + 1) _ (by omega) (by rw [← hf]; simp [jc_place, h19]) ?_
      exact lv_sub hl [1, 2, 0] rfl
  have e1 : nI 0 = 0 := rfl
  refine L2 (k - 1) 0 _ (by omega) rfl ?_
  try rw [e1]
  exact lv_sub hl [1, 2, 0] rfl
set_option maxHeartbeats 4000000 in
set_option maxRecDepth 100000 in
theorem c_length (l : Launch) (D : va_G) (aK ad : Nat → Nat) (cA : Nat → ClassId) (u : js_S) : jx_M l y_J_length b_J_length 1 (some .int) (jr 3) D (jc_tys cA) aK 158 ad (jc_cell ad aK cA) [.ref (ad 0)] u (fun r : Int32 => some (.int r)) (fun r u' => r = nI (jc_cu u 40).2 ∧ u' = (jc_cu u 40).1) := by
  refine jx_enter "JointHistory" (by decide) rfl (by simp [lg_sl, vc_int, vc_ref, vc_long, jv_cat]) ?_
  intro p e s m args below meth c A Q H locs ls hQ hc hh hr hlk hl
  have hx := hc.1
  have hb := hc.2.1
  have hl : lv_has ls 1 [(0, .ref (ad 0))] := by simpa [lv_args, vc_int, vc_ref, vc_long, jv_cat] using hl
  refine lv_aload_n hx hb d_J_length_0 rfl (lv_at hl 0 rfl) ?_
  refine jx_callV [] [] hc hh (c_collectUsedSteps l D aK ad cA u) wy_J_142 ⟨by decide, rfl, rfl⟩ (by decide) rfl hl.1 rfl (by decide) ⟨Nat.zero_le _, Nat.zero_le _⟩ d_J_length_1 (fun r u9 H locs hp hh _ _ => ?_)
  rw [hp.2] at hh
  refine W.eq (g2 := F0 m 4 ls [.int (nI (jc_cu u 40).2)]) (by rw [hp.1]; rfl) ?_
  exact jx_iret (r := (nI (jc_cu u 40).2)) hc hh hQ hlk hr rfl rfl ⟨rfl, rfl⟩ d_J_length_4
