set_option maxHeartbeats 4000000 in
set_option maxRecDepth 100000 in
theorem lw_r_content0 {p : Program} {l : Launch} {e : Env} {s : State} {m : MethodId} {below : List Frame} {meth : Method} {c : Code} {H : Heap} {locs : List Loc} {Q : State → Prop} {ls : Array Slot} {D : va_G} {aK : Nat → Nat} {cA : Nat → ClassId} {adX adM : Nat → Nat} {A : Nat → Prop} {u v : js_S} {b L k : Nat} {xs : Nat → Int32} (hc : jx_C p s m #[Value.ref b] c code 4 "JointHistoryLaw" D (jc_tys cA) aK A) (hX : va_X b L xs s s.heap) (hbl : b < s.heap.size) (hbA : ¬ A b) (hL : L ≤ 2560) (hk : 5 * k + 5 ≤ L) (hT : jz_T k u v) (hI : lw_I D aK cA adX adM A s.heap u v H locs) (hl : lv_has ls 4 [(3, .int (nI (5 * k))), (2, .ref (adM 0)), (1, .ref (adX 0)), (0, .ref b)]) (hz : xs (5 * k + 4) = 0)
    (kk : ∀ (u' v' : js_S) (H1 : Heap) (locs1 : List Loc), jz_T (k + 1) u' v' → lw_I D aK cA adX adM A s.heap u' v' H1 locs1 → W p l e room_1 s m #[Value.ref b] below meth c H1 locs1 180 1971 Q (F0 m 609 ls [])) : W p l e room_1 s m #[Value.ref b] below meth c H locs 180 1971 Q (F0 m 112 ls []) := by
  have hx := hc.1
  have hb := hc.2.1
  refine lv_aload_n hx hb d_L_112 rfl (lv_at hl 2 rfl) ?_
  refine lv_aload_n hx hb d_L_113 rfl (lv_at hl 3 rfl) ?_
  refine lv_iload_n hx hb d_L_114 rfl (lv_at hl 0 rfl) ?_
  refine lv_iconst (v := 1) hx hb d_L_115 (by decide) ?_
  refine lv_iadd hx hb d_L_116 ?_
  rw [show nI (5 * k) + (1 : Int32) = nI (5 * k + 1) from nI_add (5 * k) 1]
  refine va_sld hx hb hX hbl hbA hI.1.2.2 (lw_vin (show 5 * k + 1 < L by omega) hL) d_L_117 ?_
  rw [nI_clamp (show 5 * k + 1 < 2 ^ 31 by omega)]
  refine lv_aload_n hx hb d_L_118 rfl (lv_at hl 3 rfl) ?_
  refine lv_iload_n hx hb d_L_119 rfl (lv_at hl 0 rfl) ?_
  refine lv_iconst (v := 2) hx hb d_L_120 (by decide) ?_
  refine lv_iadd hx hb d_L_121 ?_
  rw [show nI (5 * k) + (2 : Int32) = nI (5 * k + 2) from nI_add (5 * k) 2]
  refine va_sld hx hb hX hbl hbA hI.1.2.2 (lw_vin (show 5 * k + 2 < L by omega) hL) d_L_122 ?_
  rw [nI_clamp (show 5 * k + 2 < 2 ^ 31 by omega)]
  refine lv_aload_n hx hb d_L_123 rfl (lv_at hl 3 rfl) ?_
  refine lv_iload_n hx hb d_L_124 rfl (lv_at hl 0 rfl) ?_
  refine lv_iconst (v := 3) hx hb d_L_125 (by decide) ?_
  refine lv_iadd hx hb d_L_126 ?_
  rw [show nI (5 * k) + (3 : Int32) = nI (5 * k + 3) from nI_add (5 * k) 3]
  refine va_sld hx hb hX hbl hbA hI.1.2.2 (lw_vin (show 5 * k + 3 < L by omega) hL) d_L_127 ?_
  rw [nI_clamp (show 5 * k + 3 < 2 ^ 31 by omega)]
  refine lv_aload_n hx hb d_L_128 rfl (lv_at hl 3 rfl) ?_
  refine lv_iload_n hx hb d_L_129 rfl (lv_at hl 0 rfl) ?_
  refine lv_iconst (v := 4) hx hb d_L_130 (by decide) ?_
  refine lv_iadd hx hb d_L_131 ?_
  rw [show nI (5 * k) + (4 : Int32) = nI (5 * k + 4) from nI_add (5 * k) 4]
  refine va_sld hx hb hX hbl hbA hI.1.2.2 (lw_vin (show 5 * k + 4 < L by omega) hL) d_L_132 ?_
  rw [nI_clamp (show 5 * k + 4 < 2 ^ 31 by omega)]
  refine lv_if_eq (tgt := 140) hx hb d_L_133 rfl (fun _ => ?_) (fun h => absurd hz h)
  refine lv_iconst (v := 0) hx hb d_L_140 (by decide) ?_
  refine lw_callX [.int (xs (5 * k + 1)), .int (xs (5 * k + 2)), .int (xs (5 * k + 3)), .int 0] [] hc hI (c_content l D aK adX cA u (xs (5 * k + 1)) (xs (5 * k + 2)) (xs (5 * k + 3)) 0 lw_z0) wy_L_13 rfl (by decide) rfl hl.1 rfl (by decide) ⟨by decide, by decide⟩ d_L_141 (fun r1 u1 H locs hp1 hI => ?_)
  refine W.eq (g2 := F0 m 144 ls [.int r1]) rfl ?_
  refine lv_aload_n hx hb d_L_144 rfl (lv_at hl 1 rfl) ?_
  refine lv_aload_n hx hb d_L_145 rfl (lv_at hl 3 rfl) ?_
  refine lv_iload_n hx hb d_L_146 rfl (lv_at hl 0 rfl) ?_
  refine lv_iconst (v := 1) hx hb d_L_147 (by decide) ?_
  refine lv_iadd hx hb d_L_148 ?_
  rw [show nI (5 * k) + (1 : Int32) = nI (5 * k + 1) from nI_add (5 * k) 1]
  refine va_sld hx hb hX hbl hbA hI.1.2.2 (lw_vin (show 5 * k + 1 < L by omega) hL) d_L_149 ?_
  rw [nI_clamp (show 5 * k + 1 < 2 ^ 31 by omega)]
  refine lv_aload_n hx hb d_L_150 rfl (lv_at hl 3 rfl) ?_
  refine lv_iload_n hx hb d_L_151 rfl (lv_at hl 0 rfl) ?_
  refine lv_iconst (v := 2) hx hb d_L_152 (by decide) ?_
  refine lv_iadd hx hb d_L_153 ?_
  rw [show nI (5 * k) + (2 : Int32) = nI (5 * k + 2) from nI_add (5 * k) 2]
  refine va_sld hx hb hX hbl hbA hI.1.2.2 (lw_vin (show 5 * k + 2 < L by omega) hL) d_L_154 ?_
  rw [nI_clamp (show 5 * k + 2 < 2 ^ 31 by omega)]
  refine lv_aload_n hx hb d_L_155 rfl (lv_at hl 3 rfl) ?_
  refine lv_iload_n hx hb d_L_156 rfl (lv_at hl 0 rfl) ?_
  refine lv_iconst (v := 3) hx hb d_L_157 (by decide) ?_
  refine lv_iadd hx hb d_L_158 ?_
  rw [show nI (5 * k) + (3 : Int32) = nI (5 * k + 3) from nI_add (5 * k) 3]
  refine va_sld hx hb hX hbl hbA hI.1.2.2 (lw_vin (show 5 * k + 3 < L by omega) hL) d_L_159 ?_
  rw [nI_clamp (show 5 * k + 3 < 2 ^ 31 by omega)]
  refine lv_aload_n hx hb d_L_160 rfl (lv_at hl 3 rfl) ?_
  refine lv_iload_n hx hb d_L_161 rfl (lv_at hl 0 rfl) ?_
  refine lv_iconst (v := 4) hx hb d_L_162 (by decide) ?_
  refine lv_iadd hx hb d_L_163 ?_
  rw [show nI (5 * k) + (4 : Int32) = nI (5 * k + 4) from nI_add (5 * k) 4]
  refine va_sld hx hb hX hbl hbA hI.1.2.2 (lw_vin (show 5 * k + 4 < L by omega) hL) d_L_164 ?_
  rw [nI_clamp (show 5 * k + 4 < 2 ^ 31 by omega)]
  refine lv_if_eq (tgt := 172) hx hb d_L_165 rfl (fun _ => ?_) (fun h => absurd hz h)
  refine lv_iconst (v := 0) hx hb d_L_172 (by decide) ?_
  refine lw_callM [.int (xs (5 * k + 1)), .int (xs (5 * k + 2)), .int (xs (5 * k + 3)), .int 0] [.int r1] hc hI (m_content l D aK adM cA v (xs (5 * k + 1)) (xs (5 * k + 2)) (xs (5 * k + 3)) 0 lw_z0) wy_L_17 rfl (by decide) rfl hl.1 rfl (by simp [vc_int, vc_long]) ⟨by decide, by decide⟩ d_L_173 (fun r2 v1 H locs hp2 hI => ?_)
  refine W.eq (g2 := F0 m 176 ls [.int r2, .int r1]) rfl ?_
  have er : r1 = r2 := by
    rw [hp1.1, hp2.1]
    exact (jz_contentT hT (xs (5 * k + 1)) (xs (5 * k + 2)) (xs (5 * k + 3)) 0).1
  refine lv_icmp_eq (tgt := 609) hx hb d_L_176 rfl (fun _ => ?_) (fun h => absurd er h)
  rw [hp1.2, hp2.2] at hI
  exact kk _ _ H locs (jz_T_mono ((jz_contentT hT (xs (5 * k + 1)) (xs (5 * k + 2)) (xs (5 * k + 3)) 0).2) (by omega) (by omega)) hI
set_option maxHeartbeats 4000000 in
set_option maxRecDepth 100000 in
theorem lw_r_content1 {p : Program} {l : Launch} {e : Env} {s : State} {m : MethodId} {below : List Frame} {meth : Method} {c : Code} {H : Heap} {locs : List Loc} {Q : State → Prop} {ls : Array Slot} {D : va_G} {aK : Nat → Nat} {cA : Nat → ClassId} {adX adM : Nat → Nat} {A : Nat → Prop} {u v : js_S} {b L k : Nat} {xs : Nat → Int32} (hc : jx_C p s m #[Value.ref b] c code 4 "JointHistoryLaw" D (jc_tys cA) aK A) (hX : va_X b L xs s s.heap) (hbl : b < s.heap.size) (hbA : ¬ A b) (hL : L ≤ 2560) (hk : 5 * k + 5 ≤ L) (hT : jz_T k u v) (hI : lw_I D aK cA adX adM A s.heap u v H locs) (hl : lv_has ls 4 [(3, .int (nI (5 * k))), (2, .ref (adM 0)), (1, .ref (adX 0)), (0, .ref b)]) (hz : ¬ xs (5 * k + 4) = 0)
    (kk : ∀ (u' v' : js_S) (H1 : Heap) (locs1 : List Loc), jz_T (k + 1) u' v' → lw_I D aK cA adX adM A s.heap u' v' H1 locs1 → W p l e room_1 s m #[Value.ref b] below meth c H1 locs1 180 1971 Q (F0 m 609 ls [])) : W p l e room_1 s m #[Value.ref b] below meth c H locs 180 1971 Q (F0 m 112 ls []) := by
  have hx := hc.1
  have hb := hc.2.1
  refine lv_aload_n hx hb d_L_112 rfl (lv_at hl 2 rfl) ?_
  refine lv_aload_n hx hb d_L_113 rfl (lv_at hl 3 rfl) ?_
  refine lv_iload_n hx hb d_L_114 rfl (lv_at hl 0 rfl) ?_
  refine lv_iconst (v := 1) hx hb d_L_115 (by decide) ?_
  refine lv_iadd hx hb d_L_116 ?_
  rw [show nI (5 * k) + (1 : Int32) = nI (5 * k + 1) from nI_add (5 * k) 1]
  refine va_sld hx hb hX hbl hbA hI.1.2.2 (lw_vin (show 5 * k + 1 < L by omega) hL) d_L_117 ?_
  rw [nI_clamp (show 5 * k + 1 < 2 ^ 31 by omega)]
  refine lv_aload_n hx hb d_L_118 rfl (lv_at hl 3 rfl) ?_
  refine lv_iload_n hx hb d_L_119 rfl (lv_at hl 0 rfl) ?_
  refine lv_iconst (v := 2) hx hb d_L_120 (by decide) ?_
  refine lv_iadd hx hb d_L_121 ?_
  rw [show nI (5 * k) + (2 : Int32) = nI (5 * k + 2) from nI_add (5 * k) 2]
  refine va_sld hx hb hX hbl hbA hI.1.2.2 (lw_vin (show 5 * k + 2 < L by omega) hL) d_L_122 ?_
  rw [nI_clamp (show 5 * k + 2 < 2 ^ 31 by omega)]
  refine lv_aload_n hx hb d_L_123 rfl (lv_at hl 3 rfl) ?_
  refine lv_iload_n hx hb d_L_124 rfl (lv_at hl 0 rfl) ?_
  refine lv_iconst (v := 3) hx hb d_L_125 (by decide) ?_
  refine lv_iadd hx hb d_L_126 ?_
  rw [show nI (5 * k) + (3 : Int32) = nI (5 * k + 3) from nI_add (5 * k) 3]
  refine va_sld hx hb hX hbl hbA hI.1.2.2 (lw_vin (show 5 * k + 3 < L by omega) hL) d_L_127 ?_
  rw [nI_clamp (show 5 * k + 3 < 2 ^ 31 by omega)]
  refine lv_aload_n hx hb d_L_128 rfl (lv_at hl 3 rfl) ?_
  refine lv_iload_n hx hb d_L_129 rfl (lv_at hl 0 rfl) ?_
  refine lv_iconst (v := 4) hx hb d_L_130 (by decide) ?_
  refine lv_iadd hx hb d_L_131 ?_
  rw [show nI (5 * k) + (4 : Int32) = nI (5 * k + 4) from nI_add (5 * k) 4]
  refine va_sld hx hb hX hbl hbA hI.1.2.2 (lw_vin (show 5 * k + 4 < L by omega) hL) d_L_132 ?_
  rw [nI_clamp (show 5 * k + 4 < 2 ^ 31 by omega)]
  refine lv_if_eq (tgt := 140) hx hb d_L_133 rfl (fun h => absurd h hz) (fun _ => ?_)
  refine lv_iconst (v := 1) hx hb d_L_136 (by decide) ?_
  refine lv_goto (tgt := 141) hx hb d_L_137 rfl ?_
  refine lw_callX [.int (xs (5 * k + 1)), .int (xs (5 * k + 2)), .int (xs (5 * k + 3)), .int 1] [] hc hI (c_content l D aK adX cA u (xs (5 * k + 1)) (xs (5 * k + 2)) (xs (5 * k + 3)) 1 lw_z1) wy_L_13 rfl (by decide) rfl hl.1 rfl (by decide) ⟨by decide, by decide⟩ d_L_141 (fun r1 u1 H locs hp1 hI => ?_)
  refine W.eq (g2 := F0 m 144 ls [.int r1]) rfl ?_
  refine lv_aload_n hx hb d_L_144 rfl (lv_at hl 1 rfl) ?_
  refine lv_aload_n hx hb d_L_145 rfl (lv_at hl 3 rfl) ?_
  refine lv_iload_n hx hb d_L_146 rfl (lv_at hl 0 rfl) ?_
  refine lv_iconst (v := 1) hx hb d_L_147 (by decide) ?_
  refine lv_iadd hx hb d_L_148 ?_
  rw [show nI (5 * k) + (1 : Int32) = nI (5 * k + 1) from nI_add (5 * k) 1]
  refine va_sld hx hb hX hbl hbA hI.1.2.2 (lw_vin (show 5 * k + 1 < L by omega) hL) d_L_149 ?_
  rw [nI_clamp (show 5 * k + 1 < 2 ^ 31 by omega)]
  refine lv_aload_n hx hb d_L_150 rfl (lv_at hl 3 rfl) ?_
  refine lv_iload_n hx hb d_L_151 rfl (lv_at hl 0 rfl) ?_
  refine lv_iconst (v := 2) hx hb d_L_152 (by decide) ?_
  refine lv_iadd hx hb d_L_153 ?_
  rw [show nI (5 * k) + (2 : Int32) = nI (5 * k + 2) from nI_add (5 * k) 2]
  refine va_sld hx hb hX hbl hbA hI.1.2.2 (lw_vin (show 5 * k + 2 < L by omega) hL) d_L_154 ?_
  rw [nI_clamp (show 5 * k + 2 < 2 ^ 31 by omega)]
  refine lv_aload_n hx hb d_L_155 rfl (lv_at hl 3 rfl) ?_
  refine lv_iload_n hx hb d_L_156 rfl (lv_at hl 0 rfl) ?_
  refine lv_iconst (v := 3) hx hb d_L_157 (by decide) ?_
  refine lv_iadd hx hb d_L_158 ?_
  rw [show nI (5 * k) + (3 : Int32) = nI (5 * k + 3) from nI_add (5 * k) 3]
  refine va_sld hx hb hX hbl hbA hI.1.2.2 (lw_vin (show 5 * k + 3 < L by omega) hL) d_L_159 ?_
  rw [nI_clamp (show 5 * k + 3 < 2 ^ 31 by omega)]
  refine lv_aload_n hx hb d_L_160 rfl (lv_at hl 3 rfl) ?_
  refine lv_iload_n hx hb d_L_161 rfl (lv_at hl 0 rfl) ?_
  refine lv_iconst (v := 4) hx hb d_L_162 (by decide) ?_
  refine lv_iadd hx hb d_L_163 ?_
  rw [show nI (5 * k) + (4 : Int32) = nI (5 * k + 4) from nI_add (5 * k) 4]
  refine va_sld hx hb hX hbl hbA hI.1.2.2 (lw_vin (show 5 * k + 4 < L by omega) hL) d_L_164 ?_
  rw [nI_clamp (show 5 * k + 4 < 2 ^ 31 by omega)]
  refine lv_if_eq (tgt := 172) hx hb d_L_165 rfl (fun h => absurd h hz) (fun _ => ?_)
  refine lv_iconst (v := 1) hx hb d_L_168 (by decide) ?_
  refine lv_goto (tgt := 173) hx hb d_L_169 rfl ?_
  refine lw_callM [.int (xs (5 * k + 1)), .int (xs (5 * k + 2)), .int (xs (5 * k + 3)), .int 1] [.int r1] hc hI (m_content l D aK adM cA v (xs (5 * k + 1)) (xs (5 * k + 2)) (xs (5 * k + 3)) 1 lw_z1) wy_L_17 rfl (by decide) rfl hl.1 rfl (by simp [vc_int, vc_long]) ⟨by decide, by decide⟩ d_L_173 (fun r2 v1 H locs hp2 hI => ?_)
  refine W.eq (g2 := F0 m 176 ls [.int r2, .int r1]) rfl ?_
  have er : r1 = r2 := by
    rw [hp1.1, hp2.1]
    exact (jz_contentT hT (xs (5 * k + 1)) (xs (5 * k + 2)) (xs (5 * k + 3)) 1).1
  refine lv_icmp_eq (tgt := 609) hx hb d_L_176 rfl (fun _ => ?_) (fun h => absurd er h)
  rw [hp1.2, hp2.2] at hI
  exact kk _ _ H locs (jz_T_mono ((jz_contentT hT (xs (5 * k + 1)) (xs (5 * k + 2)) (xs (5 * k + 3)) 1).2) (by omega) (by omega)) hI
set_option maxHeartbeats 4000000 in
set_option maxRecDepth 100000 in
theorem lw_r_detour {p : Program} {l : Launch} {e : Env} {s : State} {m : MethodId} {below : List Frame} {meth : Method} {c : Code} {H : Heap} {locs : List Loc} {Q : State → Prop} {ls : Array Slot} {D : va_G} {aK : Nat → Nat} {cA : Nat → ClassId} {adX adM : Nat → Nat} {A : Nat → Prop} {u v : js_S} {b L k : Nat} {xs : Nat → Int32} (hc : jx_C p s m #[Value.ref b] c code 4 "JointHistoryLaw" D (jc_tys cA) aK A) (hX : va_X b L xs s s.heap) (hbl : b < s.heap.size) (hbA : ¬ A b) (hL : L ≤ 2560) (hk : 5 * k + 5 ≤ L) (hT : jz_T k u v) (hI : lw_I D aK cA adX adM A s.heap u v H locs) (hl : lv_has ls 4 [(3, .int (nI (5 * k))), (2, .ref (adM 0)), (1, .ref (adX 0)), (0, .ref b)])
    (kk : ∀ (u' v' : js_S) (H1 : Heap) (locs1 : List Loc), jz_T (k + 1) u' v' → lw_I D aK cA adX adM A s.heap u' v' H1 locs1 → W p l e room_1 s m #[Value.ref b] below meth c H1 locs1 180 1971 Q (F0 m 609 ls [])) : W p l e room_1 s m #[Value.ref b] below meth c H locs 180 1971 Q (F0 m 181 ls []) := by
  have hx := hc.1
  have hb := hc.2.1
  refine lv_aload_n hx hb d_L_181 rfl (lv_at hl 2 rfl) ?_
  refine lv_aload_n hx hb d_L_182 rfl (lv_at hl 3 rfl) ?_
  refine lv_iload_n hx hb d_L_183 rfl (lv_at hl 0 rfl) ?_
  refine lv_iconst (v := 1) hx hb d_L_184 (by decide) ?_
  refine lv_iadd hx hb d_L_185 ?_
  rw [show nI (5 * k) + (1 : Int32) = nI (5 * k + 1) from nI_add (5 * k) 1]
  refine va_sld hx hb hX hbl hbA hI.1.2.2 (lw_vin (show 5 * k + 1 < L by omega) hL) d_L_186 ?_
  rw [nI_clamp (show 5 * k + 1 < 2 ^ 31 by omega)]
  refine lv_aload_n hx hb d_L_187 rfl (lv_at hl 3 rfl) ?_
  refine lv_iload_n hx hb d_L_188 rfl (lv_at hl 0 rfl) ?_
  refine lv_iconst (v := 2) hx hb d_L_189 (by decide) ?_
  refine lv_iadd hx hb d_L_190 ?_
  rw [show nI (5 * k) + (2 : Int32) = nI (5 * k + 2) from nI_add (5 * k) 2]
  refine va_sld hx hb hX hbl hbA hI.1.2.2 (lw_vin (show 5 * k + 2 < L by omega) hL) d_L_191 ?_
  rw [nI_clamp (show 5 * k + 2 < 2 ^ 31 by omega)]
  refine lw_callX [.int (xs (5 * k + 1)), .int (xs (5 * k + 2))] [] hc hI (c_detour l D aK adX cA u (xs (5 * k + 1)) (xs (5 * k + 2))) wy_L_18 rfl (by decide) rfl hl.1 rfl (by decide) ⟨by decide, by decide⟩ d_L_192 (fun r1 u1 H locs hp1 hI => ?_)
  refine W.eq (g2 := F0 m 195 ls [.int r1]) rfl ?_
  refine lv_aload_n hx hb d_L_195 rfl (lv_at hl 1 rfl) ?_
  refine lv_aload_n hx hb d_L_196 rfl (lv_at hl 3 rfl) ?_
  refine lv_iload_n hx hb d_L_197 rfl (lv_at hl 0 rfl) ?_
  refine lv_iconst (v := 1) hx hb d_L_198 (by decide) ?_
  refine lv_iadd hx hb d_L_199 ?_
  rw [show nI (5 * k) + (1 : Int32) = nI (5 * k + 1) from nI_add (5 * k) 1]
  refine va_sld hx hb hX hbl hbA hI.1.2.2 (lw_vin (show 5 * k + 1 < L by omega) hL) d_L_200 ?_
  rw [nI_clamp (show 5 * k + 1 < 2 ^ 31 by omega)]
  refine lv_aload_n hx hb d_L_201 rfl (lv_at hl 3 rfl) ?_
  refine lv_iload_n hx hb d_L_202 rfl (lv_at hl 0 rfl) ?_
  refine lv_iconst (v := 2) hx hb d_L_203 (by decide) ?_
  refine lv_iadd hx hb d_L_204 ?_
  rw [show nI (5 * k) + (2 : Int32) = nI (5 * k + 2) from nI_add (5 * k) 2]
  refine va_sld hx hb hX hbl hbA hI.1.2.2 (lw_vin (show 5 * k + 2 < L by omega) hL) d_L_205 ?_
  rw [nI_clamp (show 5 * k + 2 < 2 ^ 31 by omega)]
  refine lw_callM [.int (xs (5 * k + 1)), .int (xs (5 * k + 2))] [.int r1] hc hI (m_detour l D aK adM cA v (xs (5 * k + 1)) (xs (5 * k + 2))) wy_L_22 rfl (by decide) rfl hl.1 rfl (by simp [vc_int, vc_long]) ⟨by decide, by decide⟩ d_L_206 (fun r2 v1 H locs hp2 hI => ?_)
  refine W.eq (g2 := F0 m 209 ls [.int r2, .int r1]) rfl ?_
  have er : r1 = r2 := by
    rw [hp1.1, hp2.1]
    exact (jz_detourT hT (xs (5 * k + 1)) (xs (5 * k + 2))).1
  refine lv_icmp_eq (tgt := 609) hx hb d_L_209 rfl (fun _ => ?_) (fun h => absurd er h)
  rw [hp1.2, hp2.2] at hI
  exact kk _ _ H locs (jz_T_mono ((jz_detourT hT (xs (5 * k + 1)) (xs (5 * k + 2))).2) (by omega) (by omega)) hI
set_option maxHeartbeats 4000000 in
set_option maxRecDepth 100000 in
theorem lw_r_fault {p : Program} {l : Launch} {e : Env} {s : State} {m : MethodId} {below : List Frame} {meth : Method} {c : Code} {H : Heap} {locs : List Loc} {Q : State → Prop} {ls : Array Slot} {D : va_G} {aK : Nat → Nat} {cA : Nat → ClassId} {adX adM : Nat → Nat} {A : Nat → Prop} {u v : js_S} {b L k : Nat} {xs : Nat → Int32} (hc : jx_C p s m #[Value.ref b] c code 4 "JointHistoryLaw" D (jc_tys cA) aK A) (hX : va_X b L xs s s.heap) (hbl : b < s.heap.size) (hbA : ¬ A b) (hL : L ≤ 2560) (hk : 5 * k + 5 ≤ L) (hT : jz_T k u v) (hI : lw_I D aK cA adX adM A s.heap u v H locs) (hl : lv_has ls 4 [(3, .int (nI (5 * k))), (2, .ref (adM 0)), (1, .ref (adX 0)), (0, .ref b)])
    (kk : ∀ (u' v' : js_S) (H1 : Heap) (locs1 : List Loc), jz_T (k + 1) u' v' → lw_I D aK cA adX adM A s.heap u' v' H1 locs1 → W p l e room_1 s m #[Value.ref b] below meth c H1 locs1 180 1971 Q (F0 m 609 ls [])) : W p l e room_1 s m #[Value.ref b] below meth c H locs 180 1971 Q (F0 m 214 ls []) := by
  have hx := hc.1
  have hb := hc.2.1
  refine lv_aload_n hx hb d_L_214 rfl (lv_at hl 2 rfl) ?_
  refine lv_aload_n hx hb d_L_215 rfl (lv_at hl 3 rfl) ?_
  refine lv_iload_n hx hb d_L_216 rfl (lv_at hl 0 rfl) ?_
  refine lv_iconst (v := 1) hx hb d_L_217 (by decide) ?_
  refine lv_iadd hx hb d_L_218 ?_
  rw [show nI (5 * k) + (1 : Int32) = nI (5 * k + 1) from nI_add (5 * k) 1]
  refine va_sld hx hb hX hbl hbA hI.1.2.2 (lw_vin (show 5 * k + 1 < L by omega) hL) d_L_219 ?_
  rw [nI_clamp (show 5 * k + 1 < 2 ^ 31 by omega)]
  refine lw_callX [.int (xs (5 * k + 1))] [] hc hI (c_fault l D aK adX cA u (xs (5 * k + 1))) wy_L_23 rfl (by decide) rfl hl.1 rfl (by decide) ⟨by decide, by decide⟩ d_L_220 (fun r1 u1 H locs hp1 hI => ?_)
  refine W.eq (g2 := F0 m 223 ls [.int r1]) rfl ?_
  refine lv_aload_n hx hb d_L_223 rfl (lv_at hl 1 rfl) ?_
  refine lv_aload_n hx hb d_L_224 rfl (lv_at hl 3 rfl) ?_
  refine lv_iload_n hx hb d_L_225 rfl (lv_at hl 0 rfl) ?_
  refine lv_iconst (v := 1) hx hb d_L_226 (by decide) ?_
  refine lv_iadd hx hb d_L_227 ?_
  rw [show nI (5 * k) + (1 : Int32) = nI (5 * k + 1) from nI_add (5 * k) 1]
  refine va_sld hx hb hX hbl hbA hI.1.2.2 (lw_vin (show 5 * k + 1 < L by omega) hL) d_L_228 ?_
  rw [nI_clamp (show 5 * k + 1 < 2 ^ 31 by omega)]
  refine lw_callM [.int (xs (5 * k + 1))] [.int r1] hc hI (m_fault l D aK adM cA v (xs (5 * k + 1))) wy_L_27 rfl (by decide) rfl hl.1 rfl (by simp [vc_int, vc_long]) ⟨by decide, by decide⟩ d_L_229 (fun r2 v1 H locs hp2 hI => ?_)
  refine W.eq (g2 := F0 m 232 ls [.int r2, .int r1]) rfl ?_
  have er : r1 = r2 := by
    rw [hp1.1, hp2.1]
    exact (jz_faultT hT (xs (5 * k + 1))).1
  refine lv_icmp_eq (tgt := 609) hx hb d_L_232 rfl (fun _ => ?_) (fun h => absurd er h)
  rw [hp1.2, hp2.2] at hI
  exact kk _ _ H locs (jz_T_mono ((jz_faultT hT (xs (5 * k + 1))).2) (by omega) (by omega)) hI
set_option maxHeartbeats 4000000 in
set_option maxRecDepth 100000 in
theorem lw_r_navigate0 {p : Program} {l : Launch} {e : Env} {s : State} {m : MethodId} {below : List Frame} {meth : Method} {c : Code} {H : Heap} {locs : List Loc} {Q : State → Prop} {ls : Array Slot} {D : va_G} {aK : Nat → Nat} {cA : Nat → ClassId} {adX adM : Nat → Nat} {A : Nat → Prop} {u v : js_S} {b L k : Nat} {xs : Nat → Int32} (hc : jx_C p s m #[Value.ref b] c code 4 "JointHistoryLaw" D (jc_tys cA) aK A) (hX : va_X b L xs s s.heap) (hbl : b < s.heap.size) (hbA : ¬ A b) (hL : L ≤ 2560) (hk : 5 * k + 5 ≤ L) (hT : jz_T k u v) (hI : lw_I D aK cA adX adM A s.heap u v H locs) (hl : lv_has ls 4 [(3, .int (nI (5 * k))), (2, .ref (adM 0)), (1, .ref (adX 0)), (0, .ref b)]) (hz : xs (5 * k + 3) = 0)
    (kk : ∀ (u' v' : js_S) (H1 : Heap) (locs1 : List Loc), jz_T (k + 1) u' v' → lw_I D aK cA adX adM A s.heap u' v' H1 locs1 → W p l e room_1 s m #[Value.ref b] below meth c H1 locs1 180 1971 Q (F0 m 609 ls [])) : W p l e room_1 s m #[Value.ref b] below meth c H locs 180 1971 Q (F0 m 237 ls []) := by
  have hx := hc.1
  have hb := hc.2.1
  refine lv_aload_n hx hb d_L_237 rfl (lv_at hl 2 rfl) ?_
  refine lv_aload_n hx hb d_L_238 rfl (lv_at hl 3 rfl) ?_
  refine lv_iload_n hx hb d_L_239 rfl (lv_at hl 0 rfl) ?_
  refine lv_iconst (v := 1) hx hb d_L_240 (by decide) ?_
  refine lv_iadd hx hb d_L_241 ?_
  rw [show nI (5 * k) + (1 : Int32) = nI (5 * k + 1) from nI_add (5 * k) 1]
  refine va_sld hx hb hX hbl hbA hI.1.2.2 (lw_vin (show 5 * k + 1 < L by omega) hL) d_L_242 ?_
  rw [nI_clamp (show 5 * k + 1 < 2 ^ 31 by omega)]
  refine lv_aload_n hx hb d_L_243 rfl (lv_at hl 3 rfl) ?_
  refine lv_iload_n hx hb d_L_244 rfl (lv_at hl 0 rfl) ?_
  refine lv_iconst (v := 2) hx hb d_L_245 (by decide) ?_
  refine lv_iadd hx hb d_L_246 ?_
  rw [show nI (5 * k) + (2 : Int32) = nI (5 * k + 2) from nI_add (5 * k) 2]
  refine va_sld hx hb hX hbl hbA hI.1.2.2 (lw_vin (show 5 * k + 2 < L by omega) hL) d_L_247 ?_
  rw [nI_clamp (show 5 * k + 2 < 2 ^ 31 by omega)]
  refine lv_aload_n hx hb d_L_248 rfl (lv_at hl 3 rfl) ?_
  refine lv_iload_n hx hb d_L_249 rfl (lv_at hl 0 rfl) ?_
  refine lv_iconst (v := 3) hx hb d_L_250 (by decide) ?_
  refine lv_iadd hx hb d_L_251 ?_
  rw [show nI (5 * k) + (3 : Int32) = nI (5 * k + 3) from nI_add (5 * k) 3]
  refine va_sld hx hb hX hbl hbA hI.1.2.2 (lw_vin (show 5 * k + 3 < L by omega) hL) d_L_252 ?_
  rw [nI_clamp (show 5 * k + 3 < 2 ^ 31 by omega)]
  refine lv_if_eq (tgt := 260) hx hb d_L_253 rfl (fun _ => ?_) (fun h => absurd hz h)
  refine lv_iconst (v := 0) hx hb d_L_260 (by decide) ?_
  refine lw_callX [.int (xs (5 * k + 1)), .int (xs (5 * k + 2)), .int 0] [] hc hI (c_navigate l D aK adX cA u (xs (5 * k + 1)) (xs (5 * k + 2)) 0 (jz_Ch hT) (jz_hLo hT (xs (5 * k + 1)) (xs (5 * k + 2)) 0)) wy_L_28 rfl (by decide) rfl hl.1 rfl (by decide) ⟨by decide, by decide⟩ d_L_261 (fun r1 u1 H locs hp1 hI => ?_)
  refine W.eq (g2 := F0 m 264 ls [.int r1]) rfl ?_
  refine lv_aload_n hx hb d_L_264 rfl (lv_at hl 1 rfl) ?_
  refine lv_aload_n hx hb d_L_265 rfl (lv_at hl 3 rfl) ?_
  refine lv_iload_n hx hb d_L_266 rfl (lv_at hl 0 rfl) ?_
  refine lv_iconst (v := 1) hx hb d_L_267 (by decide) ?_
  refine lv_iadd hx hb d_L_268 ?_
  rw [show nI (5 * k) + (1 : Int32) = nI (5 * k + 1) from nI_add (5 * k) 1]
  refine va_sld hx hb hX hbl hbA hI.1.2.2 (lw_vin (show 5 * k + 1 < L by omega) hL) d_L_269 ?_
  rw [nI_clamp (show 5 * k + 1 < 2 ^ 31 by omega)]
  refine lv_aload_n hx hb d_L_270 rfl (lv_at hl 3 rfl) ?_
  refine lv_iload_n hx hb d_L_271 rfl (lv_at hl 0 rfl) ?_
  refine lv_iconst (v := 2) hx hb d_L_272 (by decide) ?_
  refine lv_iadd hx hb d_L_273 ?_
  rw [show nI (5 * k) + (2 : Int32) = nI (5 * k + 2) from nI_add (5 * k) 2]
  refine va_sld hx hb hX hbl hbA hI.1.2.2 (lw_vin (show 5 * k + 2 < L by omega) hL) d_L_274 ?_
  rw [nI_clamp (show 5 * k + 2 < 2 ^ 31 by omega)]
  refine lv_aload_n hx hb d_L_275 rfl (lv_at hl 3 rfl) ?_
  refine lv_iload_n hx hb d_L_276 rfl (lv_at hl 0 rfl) ?_
  refine lv_iconst (v := 3) hx hb d_L_277 (by decide) ?_
  refine lv_iadd hx hb d_L_278 ?_
  rw [show nI (5 * k) + (3 : Int32) = nI (5 * k + 3) from nI_add (5 * k) 3]
  refine va_sld hx hb hX hbl hbA hI.1.2.2 (lw_vin (show 5 * k + 3 < L by omega) hL) d_L_279 ?_
  rw [nI_clamp (show 5 * k + 3 < 2 ^ 31 by omega)]
  refine lv_if_eq (tgt := 287) hx hb d_L_280 rfl (fun _ => ?_) (fun h => absurd hz h)
  refine lv_iconst (v := 0) hx hb d_L_287 (by decide) ?_
  refine lw_callM [.int (xs (5 * k + 1)), .int (xs (5 * k + 2)), .int 0] [.int r1] hc hI (m_navigate l D aK adM cA v (xs (5 * k + 1)) (xs (5 * k + 2)) 0 (jz_Mh hT) (jz_Nw hT (by omega))) wy_L_32 rfl (by decide) rfl hl.1 rfl (by simp [vc_int, vc_long]) ⟨by decide, by decide⟩ d_L_288 (fun r2 v1 H locs hp2 hI => ?_)
  refine W.eq (g2 := F0 m 291 ls [.int r2, .int r1]) rfl ?_
  have er : r1 = r2 := by
    rw [hp1.1, hp2.1]
    exact (jz_navigate hT (by omega) (xs (5 * k + 1)) (xs (5 * k + 2)) 0).1
  refine lv_icmp_eq (tgt := 609) hx hb d_L_291 rfl (fun _ => ?_) (fun h => absurd er h)
  rw [hp1.2, hp2.2] at hI
  exact kk _ _ H locs ((jz_navigate hT (by omega) (xs (5 * k + 1)) (xs (5 * k + 2)) 0).2) hI
set_option maxHeartbeats 4000000 in
set_option maxRecDepth 100000 in
theorem lw_r_navigate1 {p : Program} {l : Launch} {e : Env} {s : State} {m : MethodId} {below : List Frame} {meth : Method} {c : Code} {H : Heap} {locs : List Loc} {Q : State → Prop} {ls : Array Slot} {D : va_G} {aK : Nat → Nat} {cA : Nat → ClassId} {adX adM : Nat → Nat} {A : Nat → Prop} {u v : js_S} {b L k : Nat} {xs : Nat → Int32} (hc : jx_C p s m #[Value.ref b] c code 4 "JointHistoryLaw" D (jc_tys cA) aK A) (hX : va_X b L xs s s.heap) (hbl : b < s.heap.size) (hbA : ¬ A b) (hL : L ≤ 2560) (hk : 5 * k + 5 ≤ L) (hT : jz_T k u v) (hI : lw_I D aK cA adX adM A s.heap u v H locs) (hl : lv_has ls 4 [(3, .int (nI (5 * k))), (2, .ref (adM 0)), (1, .ref (adX 0)), (0, .ref b)]) (hz : ¬ xs (5 * k + 3) = 0)
    (kk : ∀ (u' v' : js_S) (H1 : Heap) (locs1 : List Loc), jz_T (k + 1) u' v' → lw_I D aK cA adX adM A s.heap u' v' H1 locs1 → W p l e room_1 s m #[Value.ref b] below meth c H1 locs1 180 1971 Q (F0 m 609 ls [])) : W p l e room_1 s m #[Value.ref b] below meth c H locs 180 1971 Q (F0 m 237 ls []) := by
  have hx := hc.1
  have hb := hc.2.1
  refine lv_aload_n hx hb d_L_237 rfl (lv_at hl 2 rfl) ?_
  refine lv_aload_n hx hb d_L_238 rfl (lv_at hl 3 rfl) ?_
  refine lv_iload_n hx hb d_L_239 rfl (lv_at hl 0 rfl) ?_
  refine lv_iconst (v := 1) hx hb d_L_240 (by decide) ?_
  refine lv_iadd hx hb d_L_241 ?_
  rw [show nI (5 * k) + (1 : Int32) = nI (5 * k + 1) from nI_add (5 * k) 1]
  refine va_sld hx hb hX hbl hbA hI.1.2.2 (lw_vin (show 5 * k + 1 < L by omega) hL) d_L_242 ?_
  rw [nI_clamp (show 5 * k + 1 < 2 ^ 31 by omega)]
  refine lv_aload_n hx hb d_L_243 rfl (lv_at hl 3 rfl) ?_
  refine lv_iload_n hx hb d_L_244 rfl (lv_at hl 0 rfl) ?_
  refine lv_iconst (v := 2) hx hb d_L_245 (by decide) ?_
  refine lv_iadd hx hb d_L_246 ?_
  rw [show nI (5 * k) + (2 : Int32) = nI (5 * k + 2) from nI_add (5 * k) 2]
  refine va_sld hx hb hX hbl hbA hI.1.2.2 (lw_vin (show 5 * k + 2 < L by omega) hL) d_L_247 ?_
  rw [nI_clamp (show 5 * k + 2 < 2 ^ 31 by omega)]
  refine lv_aload_n hx hb d_L_248 rfl (lv_at hl 3 rfl) ?_
  refine lv_iload_n hx hb d_L_249 rfl (lv_at hl 0 rfl) ?_
  refine lv_iconst (v := 3) hx hb d_L_250 (by decide) ?_
  refine lv_iadd hx hb d_L_251 ?_
  rw [show nI (5 * k) + (3 : Int32) = nI (5 * k + 3) from nI_add (5 * k) 3]
  refine va_sld hx hb hX hbl hbA hI.1.2.2 (lw_vin (show 5 * k + 3 < L by omega) hL) d_L_252 ?_
  rw [nI_clamp (show 5 * k + 3 < 2 ^ 31 by omega)]
  refine lv_if_eq (tgt := 260) hx hb d_L_253 rfl (fun h => absurd h hz) (fun _ => ?_)
  refine lv_iconst (v := 1) hx hb d_L_256 (by decide) ?_
  refine lv_goto (tgt := 261) hx hb d_L_257 rfl ?_
  refine lw_callX [.int (xs (5 * k + 1)), .int (xs (5 * k + 2)), .int 1] [] hc hI (c_navigate l D aK adX cA u (xs (5 * k + 1)) (xs (5 * k + 2)) 1 (jz_Ch hT) (jz_hLo hT (xs (5 * k + 1)) (xs (5 * k + 2)) 1)) wy_L_28 rfl (by decide) rfl hl.1 rfl (by decide) ⟨by decide, by decide⟩ d_L_261 (fun r1 u1 H locs hp1 hI => ?_)
  refine W.eq (g2 := F0 m 264 ls [.int r1]) rfl ?_
  refine lv_aload_n hx hb d_L_264 rfl (lv_at hl 1 rfl) ?_
  refine lv_aload_n hx hb d_L_265 rfl (lv_at hl 3 rfl) ?_
  refine lv_iload_n hx hb d_L_266 rfl (lv_at hl 0 rfl) ?_
  refine lv_iconst (v := 1) hx hb d_L_267 (by decide) ?_
  refine lv_iadd hx hb d_L_268 ?_
  rw [show nI (5 * k) + (1 : Int32) = nI (5 * k + 1) from nI_add (5 * k) 1]
  refine va_sld hx hb hX hbl hbA hI.1.2.2 (lw_vin (show 5 * k + 1 < L by omega) hL) d_L_269 ?_
  rw [nI_clamp (show 5 * k + 1 < 2 ^ 31 by omega)]
  refine lv_aload_n hx hb d_L_270 rfl (lv_at hl 3 rfl) ?_
  refine lv_iload_n hx hb d_L_271 rfl (lv_at hl 0 rfl) ?_
  refine lv_iconst (v := 2) hx hb d_L_272 (by decide) ?_
  refine lv_iadd hx hb d_L_273 ?_
  rw [show nI (5 * k) + (2 : Int32) = nI (5 * k + 2) from nI_add (5 * k) 2]
  refine va_sld hx hb hX hbl hbA hI.1.2.2 (lw_vin (show 5 * k + 2 < L by omega) hL) d_L_274 ?_
  rw [nI_clamp (show 5 * k + 2 < 2 ^ 31 by omega)]
  refine lv_aload_n hx hb d_L_275 rfl (lv_at hl 3 rfl) ?_
  refine lv_iload_n hx hb d_L_276 rfl (lv_at hl 0 rfl) ?_
  refine lv_iconst (v := 3) hx hb d_L_277 (by decide) ?_
  refine lv_iadd hx hb d_L_278 ?_
  rw [show nI (5 * k) + (3 : Int32) = nI (5 * k + 3) from nI_add (5 * k) 3]
  refine va_sld hx hb hX hbl hbA hI.1.2.2 (lw_vin (show 5 * k + 3 < L by omega) hL) d_L_279 ?_
  rw [nI_clamp (show 5 * k + 3 < 2 ^ 31 by omega)]
  refine lv_if_eq (tgt := 287) hx hb d_L_280 rfl (fun h => absurd h hz) (fun _ => ?_)
  refine lv_iconst (v := 1) hx hb d_L_283 (by decide) ?_
  refine lv_goto (tgt := 288) hx hb d_L_284 rfl ?_
  refine lw_callM [.int (xs (5 * k + 1)), .int (xs (5 * k + 2)), .int 1] [.int r1] hc hI (m_navigate l D aK adM cA v (xs (5 * k + 1)) (xs (5 * k + 2)) 1 (jz_Mh hT) (jz_Nw hT (by omega))) wy_L_32 rfl (by decide) rfl hl.1 rfl (by simp [vc_int, vc_long]) ⟨by decide, by decide⟩ d_L_288 (fun r2 v1 H locs hp2 hI => ?_)
  refine W.eq (g2 := F0 m 291 ls [.int r2, .int r1]) rfl ?_
  have er : r1 = r2 := by
    rw [hp1.1, hp2.1]
    exact (jz_navigate hT (by omega) (xs (5 * k + 1)) (xs (5 * k + 2)) 1).1
  refine lv_icmp_eq (tgt := 609) hx hb d_L_291 rfl (fun _ => ?_) (fun h => absurd er h)
  rw [hp1.2, hp2.2] at hI
  exact kk _ _ H locs ((jz_navigate hT (by omega) (xs (5 * k + 1)) (xs (5 * k + 2)) 1).2) hI
