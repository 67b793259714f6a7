set_option maxHeartbeats 4000000 in
set_option maxRecDepth 100000 in
theorem c_isPage (l : Launch) (D : va_G) (aK ad : Nat → Nat) (cA : Nat → ClassId) (u : js_S) (x : Int32) : jx_M l y_J_isPage b_J_isPage 1 (some .boolean) (jr 1) D (jc_tys cA) aK 158 ad (jc_cell ad aK cA) [.int x] u (fun r : Int32 => some (.int r)) (fun r u' => r = jc_isPage x ∧ u' = u) := by
  refine jx_enter "JointHistory" (by decide) rfl (by simp [lg_sl, vc_int, vc_ref, vc_long, jv_cat]) ?_
  intro p e s m args below meth c A Q H locs ls hQ hc hh hr hlk hl
  have hx := hc.1
  have hb := hc.2.1
  have hl : lv_has ls 1 [(0, .int x)] := by simpa [lv_args, vc_int, vc_ref, vc_long, jv_cat] using hl
  refine lv_iload_n hx hb d_J_isPage_0 rfl (lv_at hl 0 rfl) ?_
  refine lv_if_lt (tgt := 14) hx hb d_J_isPage_1 rfl (fun h1 => ?_) (fun h1 => ?_)
  ·
    refine lv_iconst (v := 0) hx hb d_J_isPage_14 (by decide) ?_
    exact jx_iret (r := 0) hc hh hQ hlk hr (by decide) rfl ⟨by simp [jc_isPage, h1], rfl⟩ d_J_isPage_15
  refine lv_iload_n hx hb d_J_isPage_4 rfl (lv_at hl 0 rfl) ?_
  refine lv_bipush (v := 32) hx hb d_J_isPage_5 (by decide) ?_
  refine lv_icmp_ge (tgt := 14) hx hb d_J_isPage_7 rfl (fun h7 => ?_) (fun h7 => ?_)
  ·
    refine lv_iconst (v := 0) hx hb d_J_isPage_14 (by decide) ?_
    exact jx_iret (r := 0) hc hh hQ hlk hr (by decide) rfl ⟨by simp [jc_isPage, h1, h7], rfl⟩ d_J_isPage_15
  refine lv_iconst (v := 1) hx hb d_J_isPage_10 (by decide) ?_
  refine lv_goto (tgt := 15) hx hb d_J_isPage_11 rfl ?_
  exact jx_iret (r := 1) hc hh hQ hlk hr (by decide) rfl ⟨by simp [jc_isPage, h1, h7], rfl⟩ d_J_isPage_15
set_option maxHeartbeats 4000000 in
set_option maxRecDepth 100000 in
theorem c_isUrl (l : Launch) (D : va_G) (aK ad : Nat → Nat) (cA : Nat → ClassId) (u : js_S) (x : Int32) : jx_M l y_J_isUrl b_J_isUrl 1 (some .boolean) (jr 1) D (jc_tys cA) aK 158 ad (jc_cell ad aK cA) [.int x] u (fun r : Int32 => some (.int r)) (fun r u' => r = jc_isUrl x ∧ u' = u) := by
  refine jx_enter "JointHistory" (by decide) rfl (by simp [lg_sl, vc_int, vc_ref, vc_long, jv_cat]) ?_
  intro p e s m args below meth c A Q H locs ls hQ hc hh hr hlk hl
  have hx := hc.1
  have hb := hc.2.1
  have hl : lv_has ls 1 [(0, .int x)] := by simpa [lv_args, vc_int, vc_ref, vc_long, jv_cat] using hl
  refine lv_iload_n hx hb d_J_isUrl_0 rfl (lv_at hl 0 rfl) ?_
  refine lv_if_lt (tgt := 15) hx hb d_J_isUrl_1 rfl (fun h1 => ?_) (fun h1 => ?_)
  ·
    refine lv_iconst (v := 0) hx hb d_J_isUrl_15 (by decide) ?_
    exact jx_iret (r := 0) hc hh hQ hlk hr (by decide) rfl ⟨by simp [jc_isUrl, h1], rfl⟩ d_J_isUrl_16
  refine lv_iload_n hx hb d_J_isUrl_4 rfl (lv_at hl 0 rfl) ?_
  refine lv_sipush (v := 256) hx hb d_J_isUrl_5 (by decide) ?_
  refine lv_icmp_ge (tgt := 15) hx hb d_J_isUrl_8 rfl (fun h8 => ?_) (fun h8 => ?_)
  ·
    refine lv_iconst (v := 0) hx hb d_J_isUrl_15 (by decide) ?_
    exact jx_iret (r := 0) hc hh hQ hlk hr (by decide) rfl ⟨by simp [jc_isUrl, h1, h8], rfl⟩ d_J_isUrl_16
  refine lv_iconst (v := 1) hx hb d_J_isUrl_11 (by decide) ?_
  refine lv_goto (tgt := 16) hx hb d_J_isUrl_12 rfl ?_
  exact jx_iret (r := 1) hc hh hQ hlk hr (by decide) rfl ⟨by simp [jc_isUrl, h1, h8], rfl⟩ d_J_isUrl_16
set_option maxHeartbeats 4000000 in
set_option maxRecDepth 100000 in
theorem c_isUrlOrBlank (l : Launch) (D : va_G) (aK ad : Nat → Nat) (cA : Nat → ClassId) (u : js_S) (x : Int32) : jx_M l y_J_isUrlOrBlank b_J_isUrlOrBlank 1 (some .boolean) (jr 2) D (jc_tys cA) aK 158 ad (jc_cell ad aK cA) [.int x] u (fun r : Int32 => some (.int r)) (fun r u' => r = jc_isUB x ∧ u' = u) := by
  refine jx_enter "JointHistory" (by decide) rfl (by simp [lg_sl, vc_int, vc_ref, vc_long, jv_cat]) ?_
  intro p e s m args below meth c A Q H locs ls hQ hc hh hr hlk hl
  have hx := hc.1
  have hb := hc.2.1
  have hl : lv_has ls 1 [(0, .int x)] := by simpa [lv_args, vc_int, vc_ref, vc_long, jv_cat] using hl
  refine lv_iload_n hx hb d_J_isUrlOrBlank_0 rfl (lv_at hl 0 rfl) ?_
  refine lv_iconst (v := -1) hx hb d_J_isUrlOrBlank_1 (by decide) ?_
  refine lv_icmp_eq (tgt := 12) hx hb d_J_isUrlOrBlank_2 rfl (fun h2 => ?_) (fun h2 => ?_)
  ·
    refine lv_iconst (v := 1) hx hb d_J_isUrlOrBlank_12 (by decide) ?_
    refine lv_goto (tgt := 17) hx hb d_J_isUrlOrBlank_13 rfl ?_
    exact jx_iret (r := 1) hc hh hQ hlk hr (by decide) rfl ⟨by first | (simp [jc_isUB, h2]; done) | (simp [jc_isUB, eq_true h2]; done), rfl⟩ d_J_isUrlOrBlank_17
  refine lv_iload_n hx hb d_J_isUrlOrBlank_5 rfl (lv_at hl 0 rfl) ?_
  refine jx_callS [.int x] [] hc hh (c_isUrl l D aK ad cA u x) wy_J_81 (by decide) rfl hl.1 rfl (by decide) ⟨Nat.zero_le _, Nat.zero_le _⟩ d_J_isUrlOrBlank_6 (fun r u9 H locs hp hh _ _ => ?_)
  rw [hp.2] at hh
  refine W.eq (g2 := F0 m 9 ls [.int (jc_isUrl x)]) (by first | rfl | (rw [hp.1]; rfl)) ?_
  refine lv_if_eq (tgt := 16) hx hb d_J_isUrlOrBlank_9 rfl (fun h9 => ?_) (fun h9 => ?_)
  ·
    refine lv_iconst (v := 0) hx hb d_J_isUrlOrBlank_16 (by decide) ?_
    exact jx_iret (r := 0) hc hh hQ hlk hr (by decide) rfl ⟨by first | (simp [jc_isUB, h2, h9]; done) | (simp [jc_isUB, h2, eq_true h9]; done), rfl⟩ d_J_isUrlOrBlank_17
  refine lv_iconst (v := 1) hx hb d_J_isUrlOrBlank_12 (by decide) ?_
  refine lv_goto (tgt := 17) hx hb d_J_isUrlOrBlank_13 rfl ?_
  exact jx_iret (r := 1) hc hh hQ hlk hr (by decide) rfl ⟨by simp [jc_isUB, h2, h9], rfl⟩ d_J_isUrlOrBlank_17
set_option maxHeartbeats 4000000 in
set_option maxRecDepth 100000 in
theorem c_isFrameChoice (l : Launch) (D : va_G) (aK ad : Nat → Nat) (cA : Nat → ClassId) (u : js_S) (x : Int32) : jx_M l y_J_isFrameChoice b_J_isFrameChoice 1 (some .boolean) (jr 3) D (jc_tys cA) aK 158 ad (jc_cell ad aK cA) [.int x] u (fun r : Int32 => some (.int r)) (fun r u' => r = jc_isFC x ∧ u' = u) := by
  refine jx_enter "JointHistory" (by decide) rfl (by simp [lg_sl, vc_int, vc_ref, vc_long, jv_cat]) ?_
  intro p e s m args below meth c A Q H locs ls hQ hc hh hr hlk hl
  have hx := hc.1
  have hb := hc.2.1
  have hl : lv_has ls 1 [(0, .int x)] := by simpa [lv_args, vc_int, vc_ref, vc_long, jv_cat] using hl
  refine lv_iload_n hx hb d_J_isFrameChoice_0 rfl (lv_at hl 0 rfl) ?_
  refine lv_bipush (v := -2) hx hb d_J_isFrameChoice_1 (by decide) ?_
  refine lv_icmp_eq (tgt := 13) hx hb d_J_isFrameChoice_3 rfl (fun h3 => ?_) (fun h3 => ?_)
  ·
    refine lv_iconst (v := 1) hx hb d_J_isFrameChoice_13 (by decide) ?_
    refine lv_goto (tgt := 18) hx hb d_J_isFrameChoice_14 rfl ?_
    exact jx_iret (r := 1) hc hh hQ hlk hr (by decide) rfl ⟨by first | (simp [jc_isFC, h3]; done) | (simp [jc_isFC, eq_true h3]; done), rfl⟩ d_J_isFrameChoice_18
  refine lv_iload_n hx hb d_J_isFrameChoice_6 rfl (lv_at hl 0 rfl) ?_
  refine jx_callS [.int x] [] hc hh (c_isUrlOrBlank l D aK ad cA u x) wy_J_93 (by decide) rfl hl.1 rfl (by decide) ⟨Nat.zero_le _, Nat.zero_le _⟩ d_J_isFrameChoice_7 (fun r u9 H locs hp hh _ _ => ?_)
  rw [hp.2] at hh
  refine W.eq (g2 := F0 m 10 ls [.int (jc_isUB x)]) (by first | rfl | (rw [hp.1]; rfl)) ?_
  refine lv_if_eq (tgt := 17) hx hb d_J_isFrameChoice_10 rfl (fun h10 => ?_) (fun h10 => ?_)
  ·
    refine lv_iconst (v := 0) hx hb d_J_isFrameChoice_17 (by decide) ?_
    exact jx_iret (r := 0) hc hh hQ hlk hr (by decide) rfl ⟨by first | (simp [jc_isFC, h3, h10]; done) | (simp [jc_isFC, h3, eq_true h10]; done), rfl⟩ d_J_isFrameChoice_18
  refine lv_iconst (v := 1) hx hb d_J_isFrameChoice_13 (by decide) ?_
  refine lv_goto (tgt := 18) hx hb d_J_isFrameChoice_14 rfl ?_
  exact jx_iret (r := 1) hc hh hQ hlk hr (by decide) rfl ⟨by simp [jc_isFC, h3, h10], rfl⟩ d_J_isFrameChoice_18
set_option maxHeartbeats 4000000 in
set_option maxRecDepth 100000 in
theorem c_hostOf (l : Launch) (D : va_G) (aK ad : Nat → Nat) (cA : Nat → ClassId) (u : js_S) (x : Int32) : jx_M l y_J_hostOf b_J_hostOf 1 (some .int) (jr 1) D (jc_tys cA) aK 158 ad (jc_cell ad aK cA) [.int x] u (fun r : Int32 => some (.int r)) (fun r u' => r = x / 64 ∧ u' = u) := by
  refine jx_enter "JointHistory" (by decide) rfl (by simp [lg_sl, vc_int, vc_ref, vc_long, jv_cat]) ?_
  intro p e s m args below meth c A Q H locs ls hQ hc hh hr hlk hl
  have hx := hc.1
  have hb := hc.2.1
  have hl : lv_has ls 1 [(0, .int x)] := by simpa [lv_args, vc_int, vc_ref, vc_long, jv_cat] using hl
  refine lv_iload_n hx hb d_J_hostOf_0 rfl (lv_at hl 0 rfl) ?_
  refine lv_bipush (v := 64) hx hb d_J_hostOf_1 (by decide) ?_
  refine lv_idiv hx hb d_J_hostOf_3 (by decide) ?_
  exact jx_iret (r := (x / 64)) hc hh hQ hlk hr rfl rfl ⟨rfl, rfl⟩ d_J_hostOf_4
set_option maxHeartbeats 4000000 in
set_option maxRecDepth 100000 in
theorem c_pageOf (l : Launch) (D : va_G) (aK ad : Nat → Nat) (cA : Nat → ClassId) (u : js_S) (x : Int32) : jx_M l y_J_pageOf b_J_pageOf 1 (some .int) (jr 1) D (jc_tys cA) aK 158 ad (jc_cell ad aK cA) [.int x] u (fun r : Int32 => some (.int r)) (fun r u' => r = x / 8 ∧ u' = u) := by
  refine jx_enter "JointHistory" (by decide) rfl (by simp [lg_sl, vc_int, vc_ref, vc_long, jv_cat]) ?_
  intro p e s m args below meth c A Q H locs ls hQ hc hh hr hlk hl
  have hx := hc.1
  have hb := hc.2.1
  have hl : lv_has ls 1 [(0, .int x)] := by simpa [lv_args, vc_int, vc_ref, vc_long, jv_cat] using hl
  refine lv_iload_n hx hb d_J_pageOf_0 rfl (lv_at hl 0 rfl) ?_
  refine lv_bipush (v := 8) hx hb d_J_pageOf_1 (by decide) ?_
  refine lv_idiv hx hb d_J_pageOf_3 (by decide) ?_
  exact jx_iret (r := (x / 8)) hc hh hQ hlk hr rfl rfl ⟨rfl, rfl⟩ d_J_pageOf_4
set_option maxHeartbeats 4000000 in
set_option maxRecDepth 100000 in
theorem c_fragmentOf (l : Launch) (D : va_G) (aK ad : Nat → Nat) (cA : Nat → ClassId) (u : js_S) (x : Int32) : jx_M l y_J_fragmentOf b_J_fragmentOf 1 (some .int) (jr 1) D (jc_tys cA) aK 158 ad (jc_cell ad aK cA) [.int x] u (fun r : Int32 => some (.int r)) (fun r u' => r = jc_frag x ∧ u' = u) := by
  refine jx_enter "JointHistory" (by decide) rfl (by simp [lg_sl, vc_int, vc_ref, vc_long, jv_cat]) ?_
  intro p e s m args below meth c A Q H locs ls hQ hc hh hr hlk hl
  have hx := hc.1
  have hb := hc.2.1
  have hl : lv_has ls 1 [(0, .int x)] := by simpa [lv_args, vc_int, vc_ref, vc_long, jv_cat] using hl
  refine lv_iload_n hx hb d_J_fragmentOf_0 rfl (lv_at hl 0 rfl) ?_
  refine lv_iconst (v := -1) hx hb d_J_fragmentOf_1 (by decide) ?_
  refine lv_icmp_ne (tgt := 9) hx hb d_J_fragmentOf_2 rfl (fun h2 => ?_) (fun h2 => ?_)
  ·
    refine lv_iload_n hx hb d_J_fragmentOf_9 rfl (lv_at hl 0 rfl) ?_
    refine lv_bipush (v := 8) hx hb d_J_fragmentOf_10 (by decide) ?_
    refine lv_irem hx hb d_J_fragmentOf_12 (by decide) ?_
    exact jx_iret (r := (x - x / 8 * 8)) hc hh hQ hlk hr rfl rfl ⟨by simp [jc_frag, h2], rfl⟩ d_J_fragmentOf_13
  refine lv_iconst (v := 0) hx hb d_J_fragmentOf_5 (by decide) ?_
  refine lv_goto (tgt := 13) hx hb d_J_fragmentOf_6 rfl ?_
  exact jx_iret (r := 0) hc hh hQ hlk hr rfl rfl ⟨by first | (simp [jc_frag, h2]; done) | (simp [jc_frag, eq_true h2]; done), rfl⟩ d_J_fragmentOf_13
set_option maxHeartbeats 4000000 in
set_option maxRecDepth 100000 in
theorem c_isFragmentMove (l : Launch) (D : va_G) (aK ad : Nat → Nat) (cA : Nat → ClassId) (u : js_S) (x : Int32) (y : Int32) : jx_M l y_J_isFragmentMove b_J_isFragmentMove 2 (some .boolean) (jr 2) D (jc_tys cA) aK 158 ad (jc_cell ad aK cA) [.int x, .int y] u (fun r : Int32 => some (.int r)) (fun r u' => r = jc_isFM x y ∧ u' = u) := by
  refine jx_enter "JointHistory" (by decide) rfl (by simp [lg_sl, vc_int, vc_ref, vc_long, jv_cat]) ?_
  intro p e s m args below meth c A Q H locs ls hQ hc hh hr hlk hl
  have hx := hc.1
  have hb := hc.2.1
  have hl : lv_has ls 2 [(0, .int x), (1, .int y)] := by simpa [lv_args, vc_int, vc_ref, vc_long, jv_cat] using hl
  refine lv_iload_n hx hb d_J_isFragmentMove_0 rfl (lv_at hl 0 rfl) ?_
  refine lv_iconst (v := -1) hx hb d_J_isFragmentMove_1 (by decide) ?_
  refine lv_icmp_eq (tgt := 32) hx hb d_J_isFragmentMove_2 rfl (fun h2 => ?_) (fun h2 => ?_)
  ·
    refine lv_iconst (v := 0) hx hb d_J_isFragmentMove_32 (by decide) ?_
    exact jx_iret (r := 0) hc hh hQ hlk hr (by decide) rfl ⟨by first | (simp [jc_isFM, h2]; done) | (simp [jc_isFM, eq_true h2]; done), rfl⟩ d_J_isFragmentMove_33
  refine lv_iload_n hx hb d_J_isFragmentMove_5 rfl (lv_at hl 1 rfl) ?_
  refine lv_iconst (v := -1) hx hb d_J_isFragmentMove_6 (by decide) ?_
  refine lv_icmp_eq (tgt := 32) hx hb d_J_isFragmentMove_7 rfl (fun h7 => ?_) (fun h7 => ?_)
  ·
    refine lv_iconst (v := 0) hx hb d_J_isFragmentMove_32 (by decide) ?_
    exact jx_iret (r := 0) hc hh hQ hlk hr (by decide) rfl ⟨by first | (simp [jc_isFM, h2, h7]; done) | (simp [jc_isFM, h2, eq_true h7]; done), rfl⟩ d_J_isFragmentMove_33
  refine lv_iload_n hx hb d_J_isFragmentMove_10 rfl (lv_at hl 1 rfl) ?_
  refine jx_callS [.int y] [] hc hh (c_fragmentOf l D aK ad cA u y) wy_J_199 (by decide) rfl hl.1 rfl (by decide) ⟨Nat.zero_le _, Nat.zero_le _⟩ d_J_isFragmentMove_11 (fun r u9 H locs hp hh _ _ => ?_)
  rw [hp.2] at hh
  refine W.eq (g2 := F0 m 14 ls [.int (jc_frag y)]) (by first | rfl | (rw [hp.1]; rfl)) ?_
  refine lv_if_eq (tgt := 32) hx hb d_J_isFragmentMove_14 rfl (fun h14 => ?_) (fun h14 => ?_)
  ·
    refine lv_iconst (v := 0) hx hb d_J_isFragmentMove_32 (by decide) ?_
    exact jx_iret (r := 0) hc hh hQ hlk hr (by decide) rfl ⟨by first | (simp [jc_isFM, h2, h7, h14]; done) | (simp [jc_isFM, h2, h7, eq_true h14]; done), rfl⟩ d_J_isFragmentMove_33
  refine lv_iload_n hx hb d_J_isFragmentMove_17 rfl (lv_at hl 0 rfl) ?_
  refine jx_callS [.int x] [] hc hh (c_pageOf l D aK ad cA u x) wy_J_202 (by decide) rfl hl.1 rfl (by decide) ⟨Nat.zero_le _, Nat.zero_le _⟩ d_J_isFragmentMove_18 (fun r u9 H locs hp hh _ _ => ?_)
  rw [hp.2] at hh
  refine W.eq (g2 := F0 m 21 ls [.int (x / 8)]) (by first | rfl | (rw [hp.1]; rfl)) ?_
  refine lv_iload_n hx hb d_J_isFragmentMove_21 rfl (lv_at hl 1 rfl) ?_
  refine jx_callS [.int y] [.int (x / 8)] hc hh (c_pageOf l D aK ad cA u y) wy_J_202 (by decide) rfl hl.1 rfl (by simp [vc_int, vc_ref, vc_long, jv_cat]) ⟨Nat.zero_le _, Nat.zero_le _⟩ d_J_isFragmentMove_22 (fun r u9 H locs hp hh _ _ => ?_)
  rw [hp.2] at hh
  refine W.eq (g2 := F0 m 25 ls [.int (y / 8), .int (x / 8)]) (by first | rfl | (rw [hp.1]; rfl)) ?_
  refine lv_icmp_ne (tgt := 32) hx hb d_J_isFragmentMove_25 rfl (fun h25 => ?_) (fun h25 => ?_)
  ·
    refine lv_iconst (v := 0) hx hb d_J_isFragmentMove_32 (by decide) ?_
    exact jx_iret (r := 0) hc hh hQ hlk hr (by decide) rfl ⟨by simp [jc_isFM, h2, h7, h14, h25], rfl⟩ d_J_isFragmentMove_33
  refine lv_iconst (v := 1) hx hb d_J_isFragmentMove_28 (by decide) ?_
  refine lv_goto (tgt := 33) hx hb d_J_isFragmentMove_29 rfl ?_
  exact jx_iret (r := 1) hc hh hQ hlk hr (by decide) rfl ⟨by first | (simp [jc_isFM, h2, h7, h14, h25]; done) | (simp [jc_isFM, h2, h7, h14, eq_true h25]; done), rfl⟩ d_J_isFragmentMove_33
set_option maxHeartbeats 4000000 in
set_option maxRecDepth 100000 in
theorem c_mayRewrite (l : Launch) (D : va_G) (aK ad : Nat → Nat) (cA : Nat → ClassId) (u : js_S) (x : Int32) (y : Int32) : jx_M l y_J_mayRewrite b_J_mayRewrite 2 (some .boolean) (jr 2) D (jc_tys cA) aK 158 ad (jc_cell ad aK cA) [.int x, .int y] u (fun r : Int32 => some (.int r)) (fun r u' => r = jc_mayR x y ∧ u' = u) := by
  refine jx_enter "JointHistory" (by decide) rfl (by simp [lg_sl, vc_int, vc_ref, vc_long, jv_cat]) ?_
  intro p e s m args below meth c A Q H locs ls hQ hc hh hr hlk hl
  have hx := hc.1
  have hb := hc.2.1
  have hl : lv_has ls 2 [(0, .int x), (1, .int y)] := by simpa [lv_args, vc_int, vc_ref, vc_long, jv_cat] using hl
  refine lv_iload_n hx hb d_J_mayRewrite_0 rfl (lv_at hl 0 rfl) ?_
  refine lv_iconst (v := -1) hx hb d_J_mayRewrite_1 (by decide) ?_
  refine lv_icmp_eq (tgt := 16) hx hb d_J_mayRewrite_2 rfl (fun h2 => ?_) (fun h2 => ?_)
  ·
    refine lv_iconst (v := 0) hx hb d_J_mayRewrite_16 (by decide) ?_
    exact jx_iret (r := 0) hc hh hQ hlk hr (by decide) rfl ⟨by first | (simp [jc_mayR, h2]; done) | (simp [jc_mayR, eq_true h2]; done), rfl⟩ d_J_mayRewrite_17
  refine lv_iload_n hx hb d_J_mayRewrite_5 rfl (lv_at hl 0 rfl) ?_
  refine jx_callS [.int x] [] hc hh (c_hostOf l D aK ad cA u x) wy_J_205 (by decide) rfl hl.1 rfl (by decide) ⟨Nat.zero_le _, Nat.zero_le _⟩ d_J_mayRewrite_6 (fun r u9 H locs hp hh _ _ => ?_)
  rw [hp.2] at hh
  refine W.eq (g2 := F0 m 9 ls [.int (x / 64)]) (by first | rfl | (rw [hp.1]; rfl)) ?_
  refine lv_iload_n hx hb d_J_mayRewrite_9 rfl (lv_at hl 1 rfl) ?_
  refine jx_callS [.int y] [.int (x / 64)] hc hh (c_hostOf l D aK ad cA u y) wy_J_205 (by decide) rfl hl.1 rfl (by simp [vc_int, vc_ref, vc_long, jv_cat]) ⟨Nat.zero_le _, Nat.zero_le _⟩ d_J_mayRewrite_10 (fun r u9 H locs hp hh _ _ => ?_)
  rw [hp.2] at hh
  refine W.eq (g2 := F0 m 13 ls [.int (y / 64), .int (x / 64)]) (by first | rfl | (rw [hp.1]; rfl)) ?_
  refine lv_icmp_eq (tgt := 18) hx hb d_J_mayRewrite_13 rfl (fun h13 => ?_) (fun h13 => ?_)
  ·
    refine lv_iload_n hx hb d_J_mayRewrite_18 rfl (lv_at hl 0 rfl) ?_
    refine jx_callS [.int x] [] hc hh (c_hostOf l D aK ad cA u x) wy_J_205 (by decide) rfl hl.1 rfl (by decide) ⟨Nat.zero_le _, Nat.zero_le _⟩ d_J_mayRewrite_19 (fun r u9 H locs hp hh _ _ => ?_)
    rw [hp.2] at hh
    refine W.eq (g2 := F0 m 22 ls [.int (x / 64)]) (by first | rfl | (rw [hp.1]; rfl)) ?_
    refine lv_iconst (v := 3) hx hb d_J_mayRewrite_22 (by decide) ?_
    refine lv_icmp_ne (tgt := 37) hx hb d_J_mayRewrite_23 rfl (fun h23 => ?_) (fun h23 => ?_)
    ·
      refine lv_iconst (v := 1) hx hb d_J_mayRewrite_37 (by decide) ?_
      refine lv_goto (tgt := 42) hx hb d_J_mayRewrite_38 rfl ?_
      exact jx_iret (r := 1) hc hh hQ hlk hr (by decide) rfl ⟨by first | (simp [jc_mayR, h2, h13, h23]; done) | (simp [jc_mayR, h2, eq_true h13, h23]; done), rfl⟩ d_J_mayRewrite_42
    refine lv_iload_n hx hb d_J_mayRewrite_26 rfl (lv_at hl 0 rfl) ?_
    refine jx_callS [.int x] [] hc hh (c_pageOf l D aK ad cA u x) wy_J_202 (by decide) rfl hl.1 rfl (by decide) ⟨Nat.zero_le _, Nat.zero_le _⟩ d_J_mayRewrite_27 (fun r u9 H locs hp hh _ _ => ?_)
    rw [hp.2] at hh
    refine W.eq (g2 := F0 m 30 ls [.int (x / 8)]) (by first | rfl | (rw [hp.1]; rfl)) ?_
    refine lv_iload_n hx hb d_J_mayRewrite_30 rfl (lv_at hl 1 rfl) ?_
    refine jx_callS [.int y] [.int (x / 8)] hc hh (c_pageOf l D aK ad cA u y) wy_J_202 (by decide) rfl hl.1 rfl (by simp [vc_int, vc_ref, vc_long, jv_cat]) ⟨Nat.zero_le _, Nat.zero_le _⟩ d_J_mayRewrite_31 (fun r u9 H locs hp hh _ _ => ?_)
    rw [hp.2] at hh
    refine W.eq (g2 := F0 m 34 ls [.int (y / 8), .int (x / 8)]) (by first | rfl | (rw [hp.1]; rfl)) ?_
    refine lv_icmp_ne (tgt := 41) hx hb d_J_mayRewrite_34 rfl (fun h34 => ?_) (fun h34 => ?_)
    ·
      refine lv_iconst (v := 0) hx hb d_J_mayRewrite_41 (by decide) ?_
      exact jx_iret (r := 0) hc hh hQ hlk hr (by decide) rfl ⟨by first | (simp [jc_mayR, h2, h13, h23, h34]; done) | (simp [jc_mayR, h2, eq_true h13, eq_true h23, h34]; done), rfl⟩ d_J_mayRewrite_42
    refine lv_iconst (v := 1) hx hb d_J_mayRewrite_37 (by decide) ?_
    refine lv_goto (tgt := 42) hx hb d_J_mayRewrite_38 rfl ?_
    exact jx_iret (r := 1) hc hh hQ hlk hr (by decide) rfl ⟨by first | (simp [jc_mayR, h2, h13, h23, h34]; done) | (simp [jc_mayR, h2, eq_true h13, eq_true h23, eq_true h34]; done), rfl⟩ d_J_mayRewrite_42
  refine lv_iconst (v := 0) hx hb d_J_mayRewrite_16 (by decide) ?_
  exact jx_iret (r := 0) hc hh hQ hlk hr (by decide) rfl ⟨by simp [jc_mayR, h2, h13], rfl⟩ d_J_mayRewrite_17
set_option maxHeartbeats 4000000 in
set_option maxRecDepth 100000 in
theorem c_numberOf (l : Launch) (D : va_G) (aK ad : Nat → Nat) (cA : Nat → ClassId) (u : js_S) (x : Int32) (q_x : jq 40 x) : jx_M l y_J_numberOf b_J_numberOf 1 (some .int) (jr 1) D (jc_tys cA) aK 158 ad (jc_cell ad aK cA) [jv ad 38 x] u (fun r : Int32 => some (.int r)) (fun r u' => r = jc_numOf x ∧ u' = u) := by
  refine jx_enter "JointHistory" (by decide) rfl (by simp [lg_sl, vc_int, vc_ref, vc_long, jv_cat]) ?_
  intro p e s m args below meth c A Q H locs ls hQ hc hh hr hlk hl
  have hx := hc.1
  have hb := hc.2.1
  have hl : lv_has ls 1 [(0, jv ad 38 x)] := by simpa [lv_args, vc_int, vc_ref, vc_long, jv_cat] using hl
  refine jv_aload_n hx hb d_J_numberOf_0 rfl (lv_at hl 0 rfl) ?_
  refine jv_ifnonnull (tgt := 9) hx hb d_J_numberOf_1 rfl (fun h1 => ?_) (fun h1 => ?_)
  ·
    refine jv_aload_n hx hb d_J_numberOf_9 rfl (lv_at hl 0 rfl) ?_
    refine jgx_N hc hh (jq_ne q_x h1) 0 (by decide) rfl wf_J_196 d_J_numberOf_10 ?_
    exact jx_iret (r := nI (ix x)) hc hh hQ hlk hr rfl rfl ⟨by obtain ⟨i, hi, rfl⟩ := jq_ne q_x h1; simp [jc_numOf, ix_nI (show i < 2 ^ 31 by omega), nI_m1 (show i < 2 ^ 31 by omega)], rfl⟩ d_J_numberOf_13
  refine lv_bipush (v := -7) hx hb d_J_numberOf_4 (by decide) ?_
  refine lv_goto (tgt := 13) hx hb d_J_numberOf_6 rfl ?_
  exact jx_iret (r := (-7)) hc hh hQ hlk hr rfl rfl ⟨by first | (simp [jc_numOf, h1]; done) | (simp [jc_numOf, eq_true h1]; done), rfl⟩ d_J_numberOf_13
set_option maxHeartbeats 4000000 in
set_option maxRecDepth 100000 in
theorem c_entriesUpTo (l : Launch) (D : va_G) (aK ad : Nat → Nat) (cA : Nat → ClassId) (u : js_S) (st : Int32) : jx_M l y_J_entriesUpTo b_J_entriesUpTo 7 (some .int) (jr 1) D (jc_tys cA) aK 158 ad (jc_cell ad aK cA) [.ref (ad 0), .int st] u (fun r : Int32 => some (.int r)) (fun r u' => r = nI (jc_cntE u st 40) ∧ u' = u) := by
  refine jx_enter "JointHistory" (by decide) rfl (by simp [lg_sl, vc_int, vc_ref, vc_long, jv_cat]) ?_
  intro p e s m args below meth c A Q H locs ls hQ hc hh hr hlk hl
  have hx := hc.1
  have hb := hc.2.1
  have hl : lv_has ls 7 [(0, .ref (ad 0)), (1, .int st)] := by simpa [lv_args, vc_int, vc_ref, vc_long, jv_cat] using hl
  refine lv_iconst (v := 0) hx hb d_J_entriesUpTo_0 (by decide) ?_
  refine lv_istore_n (i := 2) (lv' := [(2, .int 0), (0, .ref (ad 0)), (1, .int st)]) hx hb d_J_entriesUpTo_1 rfl hl (by decide) rfl (fun ls hl => ?_)
  refine lv_aload_n hx hb d_J_entriesUpTo_2 rfl (lv_at hl 1 rfl) ?_
  refine jg_J hc hh 3 (by decide) rfl wf_J_29 d_J_entriesUpTo_3 ?_
  refine lv_astore_n (i := 3) (lv' := [(3, .ref (ad 4)), (2, .int 0), (0, .ref (ad 0)), (1, .int st)]) hx hb d_J_entriesUpTo_6 rfl hl (by decide) rfl (fun ls hl => ?_)
  refine lv_aload_n hx hb d_J_entriesUpTo_7 rfl (lv_at hl 0 rfl) ?_
  refine jl_E hc hh d_J_entriesUpTo_8 ?_
  refine lv_istore (i := 4) (lv' := [(4, .int (nI 40)), (3, .ref (ad 4)), (2, .int 0), (0, .ref (ad 0)), (1, .int st)]) hx hb d_J_entriesUpTo_9 hl (by decide) rfl (fun ls hl => ?_)
  refine lv_iconst (v := 0) hx hb d_J_entriesUpTo_11 (by decide) ?_
  refine lv_istore (i := 5) (lv' := [(5, .int 0), (4, .int (nI 40)), (3, .ref (ad 4)), (2, .int 0), (0, .ref (ad 0)), (1, .int st)]) hx hb d_J_entriesUpTo_12 hl (by decide) rfl (fun ls hl => ?_)
  have L14 : ∀ (n : Nat) (i : Nat) (ls : Array Slot), i + n = 40 → lv_has ls 7 [(0, .ref (ad 0)), (1, .int st), (2, .int (nI (jc_cntE u st i))), (3, .ref (ad 4)), (4, .int (nI 40)), (5, .int (nI i))] → W p l e (jr 1) s m args below meth c H locs 0 0 Q (F0 m 14 ls []) := by
    intro n
    induction n with
    | zero =>
      intro i ls hm hl
      have hi : i = 40 := by omega
      refine lv_iload hx hb d_J_entriesUpTo_14 (lv_at hl 5 rfl) ?_
      refine lv_iload hx hb d_J_entriesUpTo_16 (lv_at hl 4 rfl) ?_
      refine lv_icmp_ge (tgt := 53) hx hb d_J_entriesUpTo_18 rfl (fun h18 => ?_) (fun hq => absurd (nI_le (show 40 ≤ i by omega) (show i < 2 ^ 31 by omega)) hq)
      refine lv_iload_n hx hb d_J_entriesUpTo_53 rfl (lv_at hl 2 rfl) ?_
      exact jx_iret (r := nI (jc_cntE u st i)) hc hh hQ hlk hr rfl rfl ⟨by first | (rw [hi]; done) | (rw [hi]; rfl) | (rw [hi]; simp []; done), rfl⟩ d_J_entriesUpTo_54
    | succ n ih =>
      intro i ls hm hl
      have hi : i < 40 := by omega
      refine lv_iload hx hb d_J_entriesUpTo_14 (lv_at hl 5 rfl) ?_
      refine lv_iload hx hb d_J_entriesUpTo_16 (lv_at hl 4 rfl) ?_
      refine lv_icmp_ge (tgt := 53) hx hb d_J_entriesUpTo_18 rfl (fun hq => absurd hq (nI_ge hi (by decide))) (fun h18 => ?_)
      refine lv_aload_n hx hb d_J_entriesUpTo_21 rfl (lv_at hl 3 rfl) ?_
      refine lv_iload hx hb d_J_entriesUpTo_22 (lv_at hl 5 rfl) ?_
      refine ja_E hc hh hi d_J_entriesUpTo_24 ?_
      refine jv_astore (i := 6) (lv' := [(6, jv ad 118 (nI i)), (0, .ref (ad 0)), (1, .int st), (2, .int (nI (jc_cntE u st i))), (3, .ref (ad 4)), (4, .int (nI 40)), (5, .int (nI i))]) hx hb d_J_entriesUpTo_25 hl (by decide) rfl (fun ls hl => ?_)
      refine jv_aload hx hb d_J_entriesUpTo_27 (lv_at hl 0 rfl) ?_
      refine jg_E hc hh hi 0 (by decide) rfl wf_J_179 d_J_entriesUpTo_29 ?_
      refine lv_if_eq (tgt := 47) hx hb d_J_entriesUpTo_32 rfl (fun h32 => ?_) (fun h32 => ?_)
      ·
        refine lv_iinc (k := 6) (v := nI (i + 1)) (lv' := [(5, .int (nI (i + 1))), (6, jv ad 118 (nI i)), (0, .ref (ad 0)), (1, .int st), (2, .int (nI (jc_cntE u st i))), (3, .ref (ad 4)), (4, .int (nI 40))]) hx hb d_J_entriesUpTo_47 hl rfl (nI_1 i) (by decide) rfl (fun ls hl => ?_)
        refine lv_goto (tgt := 14) hx hb d_J_entriesUpTo_50 rfl ?_
        have e1 : nI (jc_cntE u st (i + 1)) = nI (jc_cntE u st i) := by first | (simp [nI_0, jc_cntE, h32]; done) | (simp [nI_0, jc_cntE, eq_true h32]; done)
        refine ih (i + 1) _ (by omega) ?_
        try rw [e1]
        exact lv_sub hl [2, 3, 4, 5, 6, 0] rfl
      refine jv_aload hx hb d_J_entriesUpTo_35 (lv_at hl 0 rfl) ?_
      refine jg_E hc hh hi 2 (by decide) rfl wf_J_128 d_J_entriesUpTo_37 ?_
      refine lv_iload_n hx hb d_J_entriesUpTo_40 rfl (lv_at hl 2 rfl) ?_
      refine lv_icmp_gt (tgt := 47) hx hb d_J_entriesUpTo_41 rfl (fun h41 => ?_) (fun h41 => ?_)
      ·
        refine lv_iinc (k := 6) (v := nI (i + 1)) (lv' := [(5, .int (nI (i + 1))), (6, jv ad 118 (nI i)), (0, .ref (ad 0)), (1, .int st), (2, .int (nI (jc_cntE u st i))), (3, .ref (ad 4)), (4, .int (nI 40))]) hx hb d_J_entriesUpTo_47 hl rfl (nI_1 i) (by decide) rfl (fun ls hl => ?_)
        refine lv_goto (tgt := 14) hx hb d_J_entriesUpTo_50 rfl ?_
        have e2 : nI (jc_cntE u st (i + 1)) = nI (jc_cntE u st i) := by simp [nI_0, jc_cntE, h32, h41]
        refine ih (i + 1) _ (by omega) ?_
        try rw [e2]
        exact lv_sub hl [2, 3, 4, 5, 6, 0] rfl
      refine lv_iinc (k := 3) (v := nI ((jc_cntE u st i) + 1)) (lv' := [(2, .int (nI ((jc_cntE u st i) + 1))), (6, jv ad 118 (nI i)), (0, .ref (ad 0)), (1, .int st), (3, .ref (ad 4)), (4, .int (nI 40)), (5, .int (nI i))]) hx hb d_J_entriesUpTo_44 hl rfl (nI_1 (jc_cntE u st i)) (by decide) rfl (fun ls hl => ?_)
      refine lv_iinc (k := 6) (v := nI (i + 1)) (lv' := [(5, .int (nI (i + 1))), (2, .int (nI ((jc_cntE u st i) + 1))), (6, jv ad 118 (nI i)), (0, .ref (ad 0)), (1, .int st), (3, .ref (ad 4)), (4, .int (nI 40))]) hx hb d_J_entriesUpTo_47 hl rfl (nI_1 i) (by decide) rfl (fun ls hl => ?_)
      refine lv_goto (tgt := 14) hx hb d_J_entriesUpTo_50 rfl ?_
      have e3 : nI (jc_cntE u st (i + 1)) = nI ((jc_cntE u st i) + 1) := by simp [nI_0, jc_cntE, h32, h41]
      refine ih (i + 1) _ (by omega) ?_
      try rw [e3]
      exact lv_sub hl [3, 4, 1, 5, 6, 0] rfl
  have e4 : nI (jc_cntE u st 0) = 0 := by simp [nI_0, jc_cntE]
  have e5 : nI 0 = 0 := rfl
  refine L14 40 0 _ (by omega) ?_
  try rw [e4]
  try rw [e5]
  exact lv_sub hl [4, 5, 3, 2, 1, 0] rfl
set_option maxHeartbeats 4000000 in
set_option maxRecDepth 100000 in
theorem c_allNavigables (l : Launch) (D : va_G) (aK ad : Nat → Nat) (cA : Nat → ClassId) (u : js_S) : jx_M l y_J_allNavigables b_J_allNavigables 6 (some .int) (jr 1) D (jc_tys cA) aK 158 ad (jc_cell ad aK cA) [.ref (ad 0)] u (fun r : Int32 => some (.int r)) (fun r u' => r = nI (jc_cntN u 40) ∧ u' = u) := by
  refine jx_enter "JointHistory" (by decide) rfl (by simp [lg_sl, vc_int, vc_ref, vc_long, jv_cat]) ?_
  intro p e s m args below meth c A Q H locs ls hQ hc hh hr hlk hl
  have hx := hc.1
  have hb := hc.2.1
  have hl : lv_has ls 6 [(0, .ref (ad 0))] := by simpa [lv_args, vc_int, vc_ref, vc_long, jv_cat] using hl
  refine lv_iconst (v := 0) hx hb d_J_allNavigables_0 (by decide) ?_
  refine lv_istore_n (i := 1) (lv' := [(1, .int 0), (0, .ref (ad 0))]) hx hb d_J_allNavigables_1 rfl hl (by decide) rfl (fun ls hl => ?_)
  refine lv_aload_n hx hb d_J_allNavigables_2 rfl (lv_at hl 1 rfl) ?_
  refine jg_J hc hh 1 (by decide) rfl wf_J_17 d_J_allNavigables_3 ?_
  refine lv_astore_n (i := 2) (lv' := [(2, .ref (ad 2)), (1, .int 0), (0, .ref (ad 0))]) hx hb d_J_allNavigables_6 rfl hl (by decide) rfl (fun ls hl => ?_)
  refine lv_aload_n hx hb d_J_allNavigables_7 rfl (lv_at hl 0 rfl) ?_
  refine jl_N hc hh d_J_allNavigables_8 ?_
  refine lv_istore_n (i := 3) (lv' := [(3, .int (nI 40)), (2, .ref (ad 2)), (1, .int 0), (0, .ref (ad 0))]) hx hb d_J_allNavigables_9 rfl hl (by decide) rfl (fun ls hl => ?_)
  refine lv_iconst (v := 0) hx hb d_J_allNavigables_10 (by decide) ?_
  refine lv_istore (i := 4) (lv' := [(4, .int 0), (3, .int (nI 40)), (2, .ref (ad 2)), (1, .int 0), (0, .ref (ad 0))]) hx hb d_J_allNavigables_11 hl (by decide) rfl (fun ls hl => ?_)
  have L13 : ∀ (n : Nat) (i : Nat) (ls : Array Slot), i + n = 40 → lv_has ls 6 [(0, .ref (ad 0)), (1, .int (nI (jc_cntN u i))), (2, .ref (ad 2)), (3, .int (nI 40)), (4, .int (nI i))] → W p l e (jr 1) s m args below meth c H locs 0 0 Q (F0 m 13 ls []) := by
    intro n
    induction n with
    | zero =>
      intro i ls hm hl
      have hi : i = 40 := by omega
      refine lv_iload hx hb d_J_allNavigables_13 (lv_at hl 4 rfl) ?_
      refine lv_iload_n hx hb d_J_allNavigables_15 rfl (lv_at hl 3 rfl) ?_
      refine lv_icmp_ge (tgt := 42) hx hb d_J_allNavigables_16 rfl (fun h16 => ?_) (fun hq => absurd (nI_le (show 40 ≤ i by omega) (show i < 2 ^ 31 by omega)) hq)
      refine lv_iload_n hx hb d_J_allNavigables_42 rfl (lv_at hl 1 rfl) ?_
      exact jx_iret (r := nI (jc_cntN u i)) hc hh hQ hlk hr rfl rfl ⟨by first | (rw [hi]; done) | (rw [hi]; rfl) | (rw [hi]; simp []; done), rfl⟩ d_J_allNavigables_43
    | succ n ih =>
      intro i ls hm hl
      have hi : i < 40 := by omega
      refine lv_iload hx hb d_J_allNavigables_13 (lv_at hl 4 rfl) ?_
      refine lv_iload_n hx hb d_J_allNavigables_15 rfl (lv_at hl 3 rfl) ?_
      refine lv_icmp_ge (tgt := 42) hx hb d_J_allNavigables_16 rfl (fun hq => absurd hq (nI_ge hi (by decide))) (fun h16 => ?_)
      refine lv_aload_n hx hb d_J_allNavigables_19 rfl (lv_at hl 2 rfl) ?_
      refine lv_iload hx hb d_J_allNavigables_20 (lv_at hl 4 rfl) ?_
      refine ja_N hc hh hi d_J_allNavigables_22 ?_
      refine jv_astore (i := 5) (lv' := [(5, jv ad 38 (nI i)), (0, .ref (ad 0)), (1, .int (nI (jc_cntN u i))), (2, .ref (ad 2)), (3, .int (nI 40)), (4, .int (nI i))]) hx hb d_J_allNavigables_23 hl (by decide) rfl (fun ls hl => ?_)
      refine jv_aload hx hb d_J_allNavigables_25 (lv_at hl 0 rfl) ?_
      refine jg_N hc hh hi 1 (by decide) rfl wf_J_43 d_J_allNavigables_27 ?_
      refine lv_if_eq (tgt := 36) hx hb d_J_allNavigables_30 rfl (fun h30 => ?_) (fun h30 => ?_)
      ·
        refine lv_iinc (k := 5) (v := nI (i + 1)) (lv' := [(4, .int (nI (i + 1))), (5, jv ad 38 (nI i)), (0, .ref (ad 0)), (1, .int (nI (jc_cntN u i))), (2, .ref (ad 2)), (3, .int (nI 40))]) hx hb d_J_allNavigables_36 hl rfl (nI_1 i) (by decide) rfl (fun ls hl => ?_)
        refine lv_goto (tgt := 13) hx hb d_J_allNavigables_39 rfl ?_
        have e1 : nI (jc_cntN u (i + 1)) = nI (jc_cntN u i) := by first | (simp [nI_0, jc_cntN, h30]; done) | (simp [nI_0, jc_cntN, eq_true h30]; done)
        refine ih (i + 1) _ (by omega) ?_
        try rw [e1]
        exact lv_sub hl [2, 3, 4, 5, 0] rfl
      refine lv_iinc (k := 2) (v := nI ((jc_cntN u i) + 1)) (lv' := [(1, .int (nI ((jc_cntN u i) + 1))), (5, jv ad 38 (nI i)), (0, .ref (ad 0)), (2, .ref (ad 2)), (3, .int (nI 40)), (4, .int (nI i))]) hx hb d_J_allNavigables_33 hl rfl (nI_1 (jc_cntN u i)) (by decide) rfl (fun ls hl => ?_)
      refine lv_iinc (k := 5) (v := nI (i + 1)) (lv' := [(4, .int (nI (i + 1))), (1, .int (nI ((jc_cntN u i) + 1))), (5, jv ad 38 (nI i)), (0, .ref (ad 0)), (2, .ref (ad 2)), (3, .int (nI 40))]) hx hb d_J_allNavigables_36 hl rfl (nI_1 i) (by decide) rfl (fun ls hl => ?_)
      refine lv_goto (tgt := 13) hx hb d_J_allNavigables_39 rfl ?_
      have e2 : nI (jc_cntN u (i + 1)) = nI ((jc_cntN u i) + 1) := by simp [nI_0, jc_cntN, h30]
      refine ih (i + 1) _ (by omega) ?_
      try rw [e2]
      exact lv_sub hl [3, 1, 4, 5, 0] rfl
  have e3 : nI (jc_cntN u 0) = 0 := by simp [nI_0, jc_cntN]
  have e4 : nI 0 = 0 := rfl
  refine L13 40 0 _ (by omega) ?_
  try rw [e3]
  try rw [e4]
  exact lv_sub hl [4, 3, 2, 1, 0] rfl
set_option maxHeartbeats 4000000 in
set_option maxRecDepth 100000 in
theorem c_entryAt (l : Launch) (D : va_G) (aK ad : Nat → Nat) (cA : Nat → ClassId) (u : js_S) (nav : Int32) (st : Int32) (hS : jc_Sh u) (q_nav : jq 40 nav) : jx_M l y_J_entryAt b_J_entryAt 8 (some (.object "JointHistory$Entry")) (jr 1) D (jc_tys cA) aK 158 ad (jc_cell ad aK cA) [.ref (ad 0), jv ad 38 nav, .int st] u (fun r : Int32 => some (jv ad 118 r)) (fun r u' => r = jc_entryAt u nav st ∧ u' = u) := by
  refine jx_enter "JointHistory" (by decide) rfl (by simp [lg_sl, vc_int, vc_ref, vc_long, jv_cat]) ?_
  intro p e s m args below meth c A Q H locs ls hQ hc hh hr hlk hl
  have hx := hc.1
  have hb := hc.2.1
  have hl : lv_has ls 8 [(0, .ref (ad 0)), (1, jv ad 38 nav), (2, .int st)] := by simpa [lv_args, vc_int, vc_ref, vc_long, jv_cat] using hl
  refine jv_const (ad := ad) (off := 118) hx hb d_J_entryAt_0 ?_
  refine jv_astore_n (i := 3) (lv' := [(3, jv ad 118 (-1)), (0, .ref (ad 0)), (1, jv ad 38 nav), (2, .int st)]) hx hb d_J_entryAt_1 rfl hl (by decide) rfl (fun ls hl => ?_)
  refine lv_aload_n hx hb d_J_entryAt_2 rfl (lv_at hl 1 rfl) ?_
  refine jg_J hc hh 3 (by decide) rfl wf_J_29 d_J_entryAt_3 ?_
  refine lv_astore (i := 4) (lv' := [(4, .ref (ad 4)), (3, jv ad 118 (-1)), (0, .ref (ad 0)), (1, jv ad 38 nav), (2, .int st)]) hx hb d_J_entryAt_6 hl (by decide) (by simp [vc_int, vc_ref, vc_long, jv_cat]) (fun ls hl => ?_)
  refine lv_aload hx hb d_J_entryAt_8 (lv_at hl 0 rfl) ?_
  refine jl_E hc hh d_J_entryAt_10 ?_
  refine lv_istore (i := 5) (lv' := [(5, .int (nI 40)), (4, .ref (ad 4)), (3, jv ad 118 (-1)), (0, .ref (ad 0)), (1, jv ad 38 nav), (2, .int st)]) hx hb d_J_entryAt_11 hl (by decide) rfl (fun ls hl => ?_)
  refine lv_iconst (v := 0) hx hb d_J_entryAt_13 (by decide) ?_
  refine lv_istore (i := 6) (lv' := [(6, .int 0), (5, .int (nI 40)), (4, .ref (ad 4)), (3, jv ad 118 (-1)), (0, .ref (ad 0)), (1, jv ad 38 nav), (2, .int st)]) hx hb d_J_entryAt_14 hl (by decide) rfl (fun ls hl => ?_)
  have L16 : ∀ (n : Nat) (i : Nat) (ls : Array Slot), i + n = 40 → lv_has ls 8 [(0, .ref (ad 0)), (1, jv ad 38 nav), (2, .int st), (3, jv ad 118 (jc_eA u nav st i)), (4, .ref (ad 4)), (5, .int (nI 40)), (6, .int (nI i))] → W p l e (jr 1) s m args below meth c H locs 0 0 Q (F0 m 16 ls []) := by
    intro n
    induction n with
    | zero =>
      intro i ls hm hl
      have hi : i = 40 := by omega
      refine lv_iload hx hb d_J_entryAt_16 (lv_at hl 6 rfl) ?_
      refine lv_iload hx hb d_J_entryAt_18 (lv_at hl 5 rfl) ?_
      refine lv_icmp_ge (tgt := 81) hx hb d_J_entryAt_20 rfl (fun h20 => ?_) (fun hq => absurd (nI_le (show 40 ≤ i by omega) (show i < 2 ^ 31 by omega)) hq)
      refine jv_aload_n hx hb d_J_entryAt_81 rfl (lv_at hl 3 rfl) ?_
      exact jx_aret (r := jc_eA u nav st i) hc hh hQ hlk hr (jv_or _ _ _) rfl ⟨by first | (rw [hi]; done) | (rw [hi]; rfl) | (rw [hi]; simp [jc_entryAt]; done), rfl⟩ d_J_entryAt_82
    | succ n ih =>
      intro i ls hm hl
      have hi : i < 40 := by omega
      refine lv_iload hx hb d_J_entryAt_16 (lv_at hl 6 rfl) ?_
      refine lv_iload hx hb d_J_entryAt_18 (lv_at hl 5 rfl) ?_
      refine lv_icmp_ge (tgt := 81) hx hb d_J_entryAt_20 rfl (fun hq => absurd hq (nI_ge hi (by decide))) (fun h20 => ?_)
      refine lv_aload hx hb d_J_entryAt_23 (lv_at hl 4 rfl) ?_
      refine lv_iload hx hb d_J_entryAt_25 (lv_at hl 6 rfl) ?_
      refine ja_E hc hh hi d_J_entryAt_27 ?_
      refine jv_astore (i := 7) (lv' := [(7, jv ad 118 (nI i)), (0, .ref (ad 0)), (1, jv ad 38 nav), (2, .int st), (3, jv ad 118 (jc_eA u nav st i)), (4, .ref (ad 4)), (5, .int (nI 40)), (6, .int (nI i))]) hx hb d_J_entryAt_28 hl (by decide) rfl (fun ls hl => ?_)
      refine jv_aload hx hb d_J_entryAt_30 (lv_at hl 0 rfl) ?_
      refine jg_E hc hh hi 0 (by decide) rfl wf_J_179 d_J_entryAt_32 ?_
      refine lv_if_eq (tgt := 75) hx hb d_J_entryAt_35 rfl (fun h35 => ?_) (fun h35 => ?_)
      ·
        refine lv_iinc (k := 7) (v := nI (i + 1)) (lv' := [(6, .int (nI (i + 1))), (7, jv ad 118 (nI i)), (0, .ref (ad 0)), (1, jv ad 38 nav), (2, .int st), (3, jv ad 118 (jc_eA u nav st i)), (4, .ref (ad 4)), (5, .int (nI 40))]) hx hb d_J_entryAt_75 hl rfl (nI_1 i) (by decide) rfl (fun ls hl => ?_)
        refine lv_goto (tgt := 16) hx hb d_J_entryAt_78 rfl ?_
        have e1 : jc_eA u nav st (i + 1) = jc_eA u nav st i := by first | (simp [nI_0, jc_eA, h35]; done) | (simp [nI_0, jc_eA, eq_true h35]; done)
        refine ih (i + 1) _ (by omega) ?_
        try rw [e1]
        exact lv_sub hl [2, 3, 4, 5, 6, 7, 0] rfl
      refine jv_aload hx hb d_J_entryAt_38 (lv_at hl 0 rfl) ?_
      refine jg_E hc hh hi 1 (by decide) rfl wf_J_135 d_J_entryAt_40 ?_
      refine jv_aload_n hx hb d_J_entryAt_43 rfl (lv_at hl 2 rfl) ?_
      refine jv_acmp_ne (tgt := 75) (n := 40) hx hb (by decide) (jd_inj hh (by decide)) (jc_S15 hS hi) q_nav d_J_entryAt_44 rfl (fun h44 => ?_) (fun h44 => ?_)
      ·
        refine lv_iinc (k := 7) (v := nI (i + 1)) (lv' := [(6, .int (nI (i + 1))), (7, jv ad 118 (nI i)), (0, .ref (ad 0)), (1, jv ad 38 nav), (2, .int st), (3, jv ad 118 (jc_eA u nav st i)), (4, .ref (ad 4)), (5, .int (nI 40))]) hx hb d_J_entryAt_75 hl rfl (nI_1 i) (by decide) rfl (fun ls hl => ?_)
        refine lv_goto (tgt := 16) hx hb d_J_entryAt_78 rfl ?_
        have e2 : jc_eA u nav st (i + 1) = jc_eA u nav st i := by simp [nI_0, jc_eA, h35, h44]
        refine ih (i + 1) _ (by omega) ?_
        try rw [e2]
        exact lv_sub hl [2, 3, 4, 5, 6, 7, 0] rfl
      refine jv_aload hx hb d_J_entryAt_47 (lv_at hl 0 rfl) ?_
      refine jg_E hc hh hi 2 (by decide) rfl wf_J_128 d_J_entryAt_49 ?_
      refine lv_iload_n hx hb d_J_entryAt_52 rfl (lv_at hl 3 rfl) ?_
      refine lv_icmp_gt (tgt := 75) hx hb d_J_entryAt_53 rfl (fun h53 => ?_) (fun h53 => ?_)
      ·
        refine lv_iinc (k := 7) (v := nI (i + 1)) (lv' := [(6, .int (nI (i + 1))), (7, jv ad 118 (nI i)), (0, .ref (ad 0)), (1, jv ad 38 nav), (2, .int st), (3, jv ad 118 (jc_eA u nav st i)), (4, .ref (ad 4)), (5, .int (nI 40))]) hx hb d_J_entryAt_75 hl rfl (nI_1 i) (by decide) rfl (fun ls hl => ?_)
        refine lv_goto (tgt := 16) hx hb d_J_entryAt_78 rfl ?_
        have e3 : jc_eA u nav st (i + 1) = jc_eA u nav st i := by first | (simp [nI_0, jc_eA, h35, h44, h53]; done) | (simp [nI_0, jc_eA, h35, eq_true h44, h53]; done)
        refine ih (i + 1) _ (by omega) ?_
        try rw [e3]
        exact lv_sub hl [2, 3, 4, 5, 6, 7, 0] rfl
      refine jv_aload_n hx hb d_J_entryAt_56 rfl (lv_at hl 4 rfl) ?_
      refine jv_ifnull (tgt := 72) hx hb d_J_entryAt_57 rfl (fun h57 => ?_) (fun h57 => ?_)
      ·
        refine jv_aload hx hb d_J_entryAt_72 (lv_at hl 0 rfl) ?_
        refine jv_astore_n (i := 3) (lv' := [(3, jv ad 118 (nI i)), (7, jv ad 118 (nI i)), (0, .ref (ad 0)), (1, jv ad 38 nav), (2, .int st), (4, .ref (ad 4)), (5, .int (nI 40)), (6, .int (nI i))]) hx hb d_J_entryAt_74 rfl hl (by decide) rfl (fun ls hl => ?_)
        refine lv_iinc (k := 7) (v := nI (i + 1)) (lv' := [(6, .int (nI (i + 1))), (3, jv ad 118 (nI i)), (7, jv ad 118 (nI i)), (0, .ref (ad 0)), (1, jv ad 38 nav), (2, .int st), (4, .ref (ad 4)), (5, .int (nI 40))]) hx hb d_J_entryAt_75 hl rfl (nI_1 i) (by decide) rfl (fun ls hl => ?_)
        refine lv_goto (tgt := 16) hx hb d_J_entryAt_78 rfl ?_
        have e4 : jc_eA u nav st (i + 1) = nI i := by first | (simp [nI_0, jc_eA, h35, h44, h53, h57]; done) | (simp [nI_0, jc_eA, h35, eq_true h44, h53, eq_true h57]; done)
        refine ih (i + 1) _ (by omega) ?_
        try rw [e4]
        exact lv_sub hl [3, 4, 5, 1, 6, 7, 0] rfl
      refine jv_aload hx hb d_J_entryAt_60 (lv_at hl 0 rfl) ?_
      refine jg_E hc hh hi 2 (by decide) rfl wf_J_128 d_J_entryAt_62 ?_
      refine jv_aload_n hx hb d_J_entryAt_65 rfl (lv_at hl 4 rfl) ?_
      refine jgx_E hc hh (jq_ne (jc_eA_jq i (by omega)) h57) 2 (by decide) rfl wf_J_128 d_J_entryAt_66 ?_
      refine lv_icmp_le (tgt := 75) hx hb d_J_entryAt_69 rfl (fun h69 => ?_) (fun h69 => ?_)
      ·
        refine lv_iinc (k := 7) (v := nI (i + 1)) (lv' := [(6, .int (nI (i + 1))), (7, jv ad 118 (nI i)), (0, .ref (ad 0)), (1, jv ad 38 nav), (2, .int st), (3, jv ad 118 (jc_eA u nav st i)), (4, .ref (ad 4)), (5, .int (nI 40))]) hx hb d_J_entryAt_75 hl rfl (nI_1 i) (by decide) rfl (fun ls hl => ?_)
        refine lv_goto (tgt := 16) hx hb d_J_entryAt_78 rfl ?_
        have e5 : jc_eA u nav st (i + 1) = jc_eA u nav st i := by first | (simp [nI_0, jc_eA, h35, h44, h53, h57, h69]; done) | (simp [nI_0, jc_eA, h35, eq_true h44, h53, h57, h69]; done)
        refine ih (i + 1) _ (by omega) ?_
        try rw [e5]
        exact lv_sub hl [2, 3, 4, 5, 6, 7, 0] rfl
      refine jv_aload hx hb d_J_entryAt_72 (lv_at hl 0 rfl) ?_
      refine jv_astore_n (i := 3) (lv' := [(3, jv ad 118 (nI i)), (7, jv ad 118 (nI i)), (0, .ref (ad 0)), (1, jv ad 38 nav), (2, .int st), (4, .ref (ad 4)), (5, .int (nI 40)), (6, .int (nI i))]) hx hb d_J_entryAt_74 rfl hl (by decide) rfl (fun ls hl => ?_)
      refine lv_iinc (k := 7) (v := nI (i + 1)) (lv' := [(6, .int (nI (i + 1))), (3, jv ad 118 (nI i)), (7, jv ad 118 (nI i)), (0, .ref (ad 0)), (1, jv ad 38 nav), (2, .int st), (4, .ref (ad 4)), (5, .int (nI 40))]) hx hb d_J_entryAt_75 hl rfl (nI_1 i) (by decide) rfl (fun ls hl => ?_)
      refine lv_goto (tgt := 16) hx hb d_J_entryAt_78 rfl ?_
      have e6 : jc_eA u nav st (i + 1) = nI i := by first | (simp [nI_0, jc_eA, h35, h44, h53, h57, h69]; done) | (simp [nI_0, jc_eA, h35, eq_true h44, h53, h57, h69]; done)
      refine ih (i + 1) _ (by omega) ?_
      try rw [e6]
      exact lv_sub hl [3, 4, 5, 1, 6, 7, 0] rfl
  have e7 : jc_eA u nav st 0 = (-1) := by simp [nI_0, jc_eA]
  have e8 : nI 0 = 0 := rfl
  refine L16 40 0 _ (by omega) ?_
  try rw [e7]
  try rw [e8]
  exact lv_sub hl [4, 5, 6, 3, 2, 1, 0] rfl
