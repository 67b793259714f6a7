set_option maxHeartbeats 4000000 in
set_option maxRecDepth 100000 in
theorem lw_r_rewrite0 {p : Program} {l : Launch} {e : Env} {s : State} {m : MethodId} {below : List Frame} {meth : Method} {c : Code} {H : Heap} {locs : List Loc} {Q : State → Prop} {ls : Array Slot} {D : va_G} {aK : Nat → Nat} {cA : Nat → ClassId} {adX adM : Nat → Nat} {A : Nat → Prop} {u v : js_S} {b L k : Nat} {xs : Nat → Int32} (hc : jx_C p s m #[Value.ref b] c code 4 "JointHistoryLaw" D (jc_tys cA) aK A) (hX : va_X b L xs s s.heap) (hbl : b < s.heap.size) (hbA : ¬ A b) (hL : L ≤ 2560) (hk : 5 * k + 5 ≤ L) (hT : jz_T k u v) (hI : lw_I D aK cA adX adM A s.heap u v H locs) (hl : lv_has ls 4 [(3, .int (nI (5 * k))), (2, .ref (adM 0)), (1, .ref (adX 0)), (0, .ref b)]) (hz : xs (5 * k + 4) = 0)
    (kk : ∀ (u' v' : js_S) (H1 : Heap) (locs1 : List Loc), jz_T (k + 1) u' v' → lw_I D aK cA adX adM A s.heap u' v' H1 locs1 → W p l e room_1 s m #[Value.ref b] below meth c H1 locs1 180 1971 Q (F0 m 609 ls [])) : W p l e room_1 s m #[Value.ref b] below meth c H locs 180 1971 Q (F0 m 296 ls []) := by
  have hx := hc.1
  have hb := hc.2.1
  refine lv_aload_n hx hb d_L_296 rfl (lv_at hl 2 rfl) ?_
  refine lv_aload_n hx hb d_L_297 rfl (lv_at hl 3 rfl) ?_
  refine lv_iload_n hx hb d_L_298 rfl (lv_at hl 0 rfl) ?_
  refine lv_iconst (v := 1) hx hb d_L_299 (by decide) ?_
  refine lv_iadd hx hb d_L_300 ?_
  rw [show nI (5 * k) + (1 : Int32) = nI (5 * k + 1) from nI_add (5 * k) 1]
  refine va_sld hx hb hX hbl hbA hI.1.2.2 (lw_vin (show 5 * k + 1 < L by omega) hL) d_L_301 ?_
  rw [nI_clamp (show 5 * k + 1 < 2 ^ 31 by omega)]
  refine lv_aload_n hx hb d_L_302 rfl (lv_at hl 3 rfl) ?_
  refine lv_iload_n hx hb d_L_303 rfl (lv_at hl 0 rfl) ?_
  refine lv_iconst (v := 2) hx hb d_L_304 (by decide) ?_
  refine lv_iadd hx hb d_L_305 ?_
  rw [show nI (5 * k) + (2 : Int32) = nI (5 * k + 2) from nI_add (5 * k) 2]
  refine va_sld hx hb hX hbl hbA hI.1.2.2 (lw_vin (show 5 * k + 2 < L by omega) hL) d_L_306 ?_
  rw [nI_clamp (show 5 * k + 2 < 2 ^ 31 by omega)]
  refine lv_aload_n hx hb d_L_307 rfl (lv_at hl 3 rfl) ?_
  refine lv_iload_n hx hb d_L_308 rfl (lv_at hl 0 rfl) ?_
  refine lv_iconst (v := 3) hx hb d_L_309 (by decide) ?_
  refine lv_iadd hx hb d_L_310 ?_
  rw [show nI (5 * k) + (3 : Int32) = nI (5 * k + 3) from nI_add (5 * k) 3]
  refine va_sld hx hb hX hbl hbA hI.1.2.2 (lw_vin (show 5 * k + 3 < L by omega) hL) d_L_311 ?_
  rw [nI_clamp (show 5 * k + 3 < 2 ^ 31 by omega)]
  refine lv_aload_n hx hb d_L_312 rfl (lv_at hl 3 rfl) ?_
  refine lv_iload_n hx hb d_L_313 rfl (lv_at hl 0 rfl) ?_
  refine lv_iconst (v := 4) hx hb d_L_314 (by decide) ?_
  refine lv_iadd hx hb d_L_315 ?_
  rw [show nI (5 * k) + (4 : Int32) = nI (5 * k + 4) from nI_add (5 * k) 4]
  refine va_sld hx hb hX hbl hbA hI.1.2.2 (lw_vin (show 5 * k + 4 < L by omega) hL) d_L_316 ?_
  rw [nI_clamp (show 5 * k + 4 < 2 ^ 31 by omega)]
  refine lv_if_eq (tgt := 324) hx hb d_L_317 rfl (fun _ => ?_) (fun h => absurd hz h)
  refine lv_iconst (v := 0) hx hb d_L_324 (by decide) ?_
  refine lw_callX [.int (xs (5 * k + 1)), .int (xs (5 * k + 2)), .int (xs (5 * k + 3)), .int 0] [] hc hI (c_rewrite l D aK adX cA u (xs (5 * k + 1)) (xs (5 * k + 2)) (xs (5 * k + 3)) 0 (jz_Ch hT)) wy_L_33 rfl (by decide) rfl hl.1 rfl (by decide) ⟨by decide, by decide⟩ d_L_325 (fun r1 u1 H locs hp1 hI => ?_)
  refine W.eq (g2 := F0 m 328 ls [.int r1]) rfl ?_
  refine lv_aload_n hx hb d_L_328 rfl (lv_at hl 1 rfl) ?_
  refine lv_aload_n hx hb d_L_329 rfl (lv_at hl 3 rfl) ?_
  refine lv_iload_n hx hb d_L_330 rfl (lv_at hl 0 rfl) ?_
  refine lv_iconst (v := 1) hx hb d_L_331 (by decide) ?_
  refine lv_iadd hx hb d_L_332 ?_
  rw [show nI (5 * k) + (1 : Int32) = nI (5 * k + 1) from nI_add (5 * k) 1]
  refine va_sld hx hb hX hbl hbA hI.1.2.2 (lw_vin (show 5 * k + 1 < L by omega) hL) d_L_333 ?_
  rw [nI_clamp (show 5 * k + 1 < 2 ^ 31 by omega)]
  refine lv_aload_n hx hb d_L_334 rfl (lv_at hl 3 rfl) ?_
  refine lv_iload_n hx hb d_L_335 rfl (lv_at hl 0 rfl) ?_
  refine lv_iconst (v := 2) hx hb d_L_336 (by decide) ?_
  refine lv_iadd hx hb d_L_337 ?_
  rw [show nI (5 * k) + (2 : Int32) = nI (5 * k + 2) from nI_add (5 * k) 2]
  refine va_sld hx hb hX hbl hbA hI.1.2.2 (lw_vin (show 5 * k + 2 < L by omega) hL) d_L_338 ?_
  rw [nI_clamp (show 5 * k + 2 < 2 ^ 31 by omega)]
  refine lv_aload_n hx hb d_L_339 rfl (lv_at hl 3 rfl) ?_
  refine lv_iload_n hx hb d_L_340 rfl (lv_at hl 0 rfl) ?_
  refine lv_iconst (v := 3) hx hb d_L_341 (by decide) ?_
  refine lv_iadd hx hb d_L_342 ?_
  rw [show nI (5 * k) + (3 : Int32) = nI (5 * k + 3) from nI_add (5 * k) 3]
  refine va_sld hx hb hX hbl hbA hI.1.2.2 (lw_vin (show 5 * k + 3 < L by omega) hL) d_L_343 ?_
  rw [nI_clamp (show 5 * k + 3 < 2 ^ 31 by omega)]
  refine lv_aload_n hx hb d_L_344 rfl (lv_at hl 3 rfl) ?_
  refine lv_iload_n hx hb d_L_345 rfl (lv_at hl 0 rfl) ?_
  refine lv_iconst (v := 4) hx hb d_L_346 (by decide) ?_
  refine lv_iadd hx hb d_L_347 ?_
  rw [show nI (5 * k) + (4 : Int32) = nI (5 * k + 4) from nI_add (5 * k) 4]
  refine va_sld hx hb hX hbl hbA hI.1.2.2 (lw_vin (show 5 * k + 4 < L by omega) hL) d_L_348 ?_
  rw [nI_clamp (show 5 * k + 4 < 2 ^ 31 by omega)]
  refine lv_if_eq (tgt := 356) hx hb d_L_349 rfl (fun _ => ?_) (fun h => absurd hz h)
  refine lv_iconst (v := 0) hx hb d_L_356 (by decide) ?_
  refine lw_callM [.int (xs (5 * k + 1)), .int (xs (5 * k + 2)), .int (xs (5 * k + 3)), .int 0] [.int r1] hc hI (m_rewrite l D aK adM cA v (xs (5 * k + 1)) (xs (5 * k + 2)) (xs (5 * k + 3)) 0 (jz_Mh hT) (jz_Nw hT (by omega)) (jz_old hT _)) wy_L_37 rfl (by decide) rfl hl.1 rfl (by simp [vc_int, vc_long]) ⟨by decide, by decide⟩ d_L_357 (fun r2 v1 H locs hp2 hI => ?_)
  refine W.eq (g2 := F0 m 360 ls [.int r2, .int r1]) rfl ?_
  have er : r1 = r2 := by
    rw [hp1.1, hp2.1]
    exact (jz_rewrite hT (by omega) (xs (5 * k + 1)) (xs (5 * k + 2)) (xs (5 * k + 3)) 0).1
  refine lv_icmp_eq (tgt := 609) hx hb d_L_360 rfl (fun _ => ?_) (fun h => absurd er h)
  rw [hp1.2, hp2.2] at hI
  exact kk _ _ H locs ((jz_rewrite hT (by omega) (xs (5 * k + 1)) (xs (5 * k + 2)) (xs (5 * k + 3)) 0).2) hI
set_option maxHeartbeats 4000000 in
set_option maxRecDepth 100000 in
theorem lw_r_rewrite1 {p : Program} {l : Launch} {e : Env} {s : State} {m : MethodId} {below : List Frame} {meth : Method} {c : Code} {H : Heap} {locs : List Loc} {Q : State → Prop} {ls : Array Slot} {D : va_G} {aK : Nat → Nat} {cA : Nat → ClassId} {adX adM : Nat → Nat} {A : Nat → Prop} {u v : js_S} {b L k : Nat} {xs : Nat → Int32} (hc : jx_C p s m #[Value.ref b] c code 4 "JointHistoryLaw" D (jc_tys cA) aK A) (hX : va_X b L xs s s.heap) (hbl : b < s.heap.size) (hbA : ¬ A b) (hL : L ≤ 2560) (hk : 5 * k + 5 ≤ L) (hT : jz_T k u v) (hI : lw_I D aK cA adX adM A s.heap u v H locs) (hl : lv_has ls 4 [(3, .int (nI (5 * k))), (2, .ref (adM 0)), (1, .ref (adX 0)), (0, .ref b)]) (hz : ¬ xs (5 * k + 4) = 0)
    (kk : ∀ (u' v' : js_S) (H1 : Heap) (locs1 : List Loc), jz_T (k + 1) u' v' → lw_I D aK cA adX adM A s.heap u' v' H1 locs1 → W p l e room_1 s m #[Value.ref b] below meth c H1 locs1 180 1971 Q (F0 m 609 ls [])) : W p l e room_1 s m #[Value.ref b] below meth c H locs 180 1971 Q (F0 m 296 ls []) := by
  have hx := hc.1
  have hb := hc.2.1
  refine lv_aload_n hx hb d_L_296 rfl (lv_at hl 2 rfl) ?_
  refine lv_aload_n hx hb d_L_297 rfl (lv_at hl 3 rfl) ?_
  refine lv_iload_n hx hb d_L_298 rfl (lv_at hl 0 rfl) ?_
  refine lv_iconst (v := 1) hx hb d_L_299 (by decide) ?_
  refine lv_iadd hx hb d_L_300 ?_
  rw [show nI (5 * k) + (1 : Int32) = nI (5 * k + 1) from nI_add (5 * k) 1]
  refine va_sld hx hb hX hbl hbA hI.1.2.2 (lw_vin (show 5 * k + 1 < L by omega) hL) d_L_301 ?_
  rw [nI_clamp (show 5 * k + 1 < 2 ^ 31 by omega)]
  refine lv_aload_n hx hb d_L_302 rfl (lv_at hl 3 rfl) ?_
  refine lv_iload_n hx hb d_L_303 rfl (lv_at hl 0 rfl) ?_
  refine lv_iconst (v := 2) hx hb d_L_304 (by decide) ?_
  refine lv_iadd hx hb d_L_305 ?_
  rw [show nI (5 * k) + (2 : Int32) = nI (5 * k + 2) from nI_add (5 * k) 2]
  refine va_sld hx hb hX hbl hbA hI.1.2.2 (lw_vin (show 5 * k + 2 < L by omega) hL) d_L_306 ?_
  rw [nI_clamp (show 5 * k + 2 < 2 ^ 31 by omega)]
  refine lv_aload_n hx hb d_L_307 rfl (lv_at hl 3 rfl) ?_
  refine lv_iload_n hx hb d_L_308 rfl (lv_at hl 0 rfl) ?_
  refine lv_iconst (v := 3) hx hb d_L_309 (by decide) ?_
  refine lv_iadd hx hb d_L_310 ?_
  rw [show nI (5 * k) + (3 : Int32) = nI (5 * k + 3) from nI_add (5 * k) 3]
  refine va_sld hx hb hX hbl hbA hI.1.2.2 (lw_vin (show 5 * k + 3 < L by omega) hL) d_L_311 ?_
  rw [nI_clamp (show 5 * k + 3 < 2 ^ 31 by omega)]
  refine lv_aload_n hx hb d_L_312 rfl (lv_at hl 3 rfl) ?_
  refine lv_iload_n hx hb d_L_313 rfl (lv_at hl 0 rfl) ?_
  refine lv_iconst (v := 4) hx hb d_L_314 (by decide) ?_
  refine lv_iadd hx hb d_L_315 ?_
  rw [show nI (5 * k) + (4 : Int32) = nI (5 * k + 4) from nI_add (5 * k) 4]
  refine va_sld hx hb hX hbl hbA hI.1.2.2 (lw_vin (show 5 * k + 4 < L by omega) hL) d_L_316 ?_
  rw [nI_clamp (show 5 * k + 4 < 2 ^ 31 by omega)]
  refine lv_if_eq (tgt := 324) hx hb d_L_317 rfl (fun h => absurd h hz) (fun _ => ?_)
  refine lv_iconst (v := 1) hx hb d_L_320 (by decide) ?_
  refine lv_goto (tgt := 325) hx hb d_L_321 rfl ?_
  refine lw_callX [.int (xs (5 * k + 1)), .int (xs (5 * k + 2)), .int (xs (5 * k + 3)), .int 1] [] hc hI (c_rewrite l D aK adX cA u (xs (5 * k + 1)) (xs (5 * k + 2)) (xs (5 * k + 3)) 1 (jz_Ch hT)) wy_L_33 rfl (by decide) rfl hl.1 rfl (by decide) ⟨by decide, by decide⟩ d_L_325 (fun r1 u1 H locs hp1 hI => ?_)
  refine W.eq (g2 := F0 m 328 ls [.int r1]) rfl ?_
  refine lv_aload_n hx hb d_L_328 rfl (lv_at hl 1 rfl) ?_
  refine lv_aload_n hx hb d_L_329 rfl (lv_at hl 3 rfl) ?_
  refine lv_iload_n hx hb d_L_330 rfl (lv_at hl 0 rfl) ?_
  refine lv_iconst (v := 1) hx hb d_L_331 (by decide) ?_
  refine lv_iadd hx hb d_L_332 ?_
  rw [show nI (5 * k) + (1 : Int32) = nI (5 * k + 1) from nI_add (5 * k) 1]
  refine va_sld hx hb hX hbl hbA hI.1.2.2 (lw_vin (show 5 * k + 1 < L by omega) hL) d_L_333 ?_
  rw [nI_clamp (show 5 * k + 1 < 2 ^ 31 by omega)]
  refine lv_aload_n hx hb d_L_334 rfl (lv_at hl 3 rfl) ?_
  refine lv_iload_n hx hb d_L_335 rfl (lv_at hl 0 rfl) ?_
  refine lv_iconst (v := 2) hx hb d_L_336 (by decide) ?_
  refine lv_iadd hx hb d_L_337 ?_
  rw [show nI (5 * k) + (2 : Int32) = nI (5 * k + 2) from nI_add (5 * k) 2]
  refine va_sld hx hb hX hbl hbA hI.1.2.2 (lw_vin (show 5 * k + 2 < L by omega) hL) d_L_338 ?_
  rw [nI_clamp (show 5 * k + 2 < 2 ^ 31 by omega)]
  refine lv_aload_n hx hb d_L_339 rfl (lv_at hl 3 rfl) ?_
  refine lv_iload_n hx hb d_L_340 rfl (lv_at hl 0 rfl) ?_
  refine lv_iconst (v := 3) hx hb d_L_341 (by decide) ?_
  refine lv_iadd hx hb d_L_342 ?_
  rw [show nI (5 * k) + (3 : Int32) = nI (5 * k + 3) from nI_add (5 * k) 3]
  refine va_sld hx hb hX hbl hbA hI.1.2.2 (lw_vin (show 5 * k + 3 < L by omega) hL) d_L_343 ?_
  rw [nI_clamp (show 5 * k + 3 < 2 ^ 31 by omega)]
  refine lv_aload_n hx hb d_L_344 rfl (lv_at hl 3 rfl) ?_
  refine lv_iload_n hx hb d_L_345 rfl (lv_at hl 0 rfl) ?_
  refine lv_iconst (v := 4) hx hb d_L_346 (by decide) ?_
  refine lv_iadd hx hb d_L_347 ?_
  rw [show nI (5 * k) + (4 : Int32) = nI (5 * k + 4) from nI_add (5 * k) 4]
  refine va_sld hx hb hX hbl hbA hI.1.2.2 (lw_vin (show 5 * k + 4 < L by omega) hL) d_L_348 ?_
  rw [nI_clamp (show 5 * k + 4 < 2 ^ 31 by omega)]
  refine lv_if_eq (tgt := 356) hx hb d_L_349 rfl (fun h => absurd h hz) (fun _ => ?_)
  refine lv_iconst (v := 1) hx hb d_L_352 (by decide) ?_
  refine lv_goto (tgt := 357) hx hb d_L_353 rfl ?_
  refine lw_callM [.int (xs (5 * k + 1)), .int (xs (5 * k + 2)), .int (xs (5 * k + 3)), .int 1] [.int r1] hc hI (m_rewrite l D aK adM cA v (xs (5 * k + 1)) (xs (5 * k + 2)) (xs (5 * k + 3)) 1 (jz_Mh hT) (jz_Nw hT (by omega)) (jz_old hT _)) wy_L_37 rfl (by decide) rfl hl.1 rfl (by simp [vc_int, vc_long]) ⟨by decide, by decide⟩ d_L_357 (fun r2 v1 H locs hp2 hI => ?_)
  refine W.eq (g2 := F0 m 360 ls [.int r2, .int r1]) rfl ?_
  have er : r1 = r2 := by
    rw [hp1.1, hp2.1]
    exact (jz_rewrite hT (by omega) (xs (5 * k + 1)) (xs (5 * k + 2)) (xs (5 * k + 3)) 1).1
  refine lv_icmp_eq (tgt := 609) hx hb d_L_360 rfl (fun _ => ?_) (fun h => absurd er h)
  rw [hp1.2, hp2.2] at hI
  exact kk _ _ H locs ((jz_rewrite hT (by omega) (xs (5 * k + 1)) (xs (5 * k + 2)) (xs (5 * k + 3)) 1).2) hI
set_option maxHeartbeats 4000000 in
set_option maxRecDepth 100000 in
theorem lw_r_go {p : Program} {l : Launch} {e : Env} {s : State} {m : MethodId} {below : List Frame} {meth : Method} {c : Code} {H : Heap} {locs : List Loc} {Q : State → Prop} {ls : Array Slot} {D : va_G} {aK : Nat → Nat} {cA : Nat → ClassId} {adX adM : Nat → Nat} {A : Nat → Prop} {u v : js_S} {b L k : Nat} {xs : Nat → Int32} (hc : jx_C p s m #[Value.ref b] c code 4 "JointHistoryLaw" D (jc_tys cA) aK A) (hX : va_X b L xs s s.heap) (hbl : b < s.heap.size) (hbA : ¬ A b) (hL : L ≤ 2560) (hk : 5 * k + 5 ≤ L) (hT : jz_T k u v) (hI : lw_I D aK cA adX adM A s.heap u v H locs) (hl : lv_has ls 4 [(3, .int (nI (5 * k))), (2, .ref (adM 0)), (1, .ref (adX 0)), (0, .ref b)])
    (kk : ∀ (u' v' : js_S) (H1 : Heap) (locs1 : List Loc), jz_T (k + 1) u' v' → lw_I D aK cA adX adM A s.heap u' v' H1 locs1 → W p l e room_1 s m #[Value.ref b] below meth c H1 locs1 180 1971 Q (F0 m 609 ls [])) : W p l e room_1 s m #[Value.ref b] below meth c H locs 180 1971 Q (F0 m 365 ls []) := by
  have hx := hc.1
  have hb := hc.2.1
  refine lv_aload_n hx hb d_L_365 rfl (lv_at hl 2 rfl) ?_
  refine lv_aload_n hx hb d_L_366 rfl (lv_at hl 3 rfl) ?_
  refine lv_iload_n hx hb d_L_367 rfl (lv_at hl 0 rfl) ?_
  refine lv_iconst (v := 1) hx hb d_L_368 (by decide) ?_
  refine lv_iadd hx hb d_L_369 ?_
  rw [show nI (5 * k) + (1 : Int32) = nI (5 * k + 1) from nI_add (5 * k) 1]
  refine va_sld hx hb hX hbl hbA hI.1.2.2 (lw_vin (show 5 * k + 1 < L by omega) hL) d_L_370 ?_
  rw [nI_clamp (show 5 * k + 1 < 2 ^ 31 by omega)]
  refine lw_callX [.int (xs (5 * k + 1))] [] hc hI (c_go l D aK adX cA u (xs (5 * k + 1)) (jz_Ch hT) (jz_goT hT (by omega) (xs (5 * k + 1))).2.2) wy_L_38 rfl (by decide) rfl hl.1 rfl (by decide) ⟨by decide, by decide⟩ d_L_371 (fun r1 u1 H locs hp1 hI => ?_)
  refine W.eq (g2 := F0 m 374 ls [.int r1]) rfl ?_
  refine lv_aload_n hx hb d_L_374 rfl (lv_at hl 1 rfl) ?_
  refine lv_aload_n hx hb d_L_375 rfl (lv_at hl 3 rfl) ?_
  refine lv_iload_n hx hb d_L_376 rfl (lv_at hl 0 rfl) ?_
  refine lv_iconst (v := 1) hx hb d_L_377 (by decide) ?_
  refine lv_iadd hx hb d_L_378 ?_
  rw [show nI (5 * k) + (1 : Int32) = nI (5 * k + 1) from nI_add (5 * k) 1]
  refine va_sld hx hb hX hbl hbA hI.1.2.2 (lw_vin (show 5 * k + 1 < L by omega) hL) d_L_379 ?_
  rw [nI_clamp (show 5 * k + 1 < 2 ^ 31 by omega)]
  refine lw_callM [.int (xs (5 * k + 1))] [.int r1] hc hI (m_go l D aK adM cA v (xs (5 * k + 1)) (jz_Mh hT) (jz_Nw hT (by omega))) wy_L_42 rfl (by decide) rfl hl.1 rfl (by simp [vc_int, vc_long]) ⟨by decide, by decide⟩ d_L_380 (fun r2 v1 H locs hp2 hI => ?_)
  refine W.eq (g2 := F0 m 383 ls [.int r2, .int r1]) rfl ?_
  have er : r1 = r2 := by
    rw [hp1.1, hp2.1]
    exact (jz_goT hT (by omega) (xs (5 * k + 1))).1
  refine lv_icmp_eq (tgt := 609) hx hb d_L_383 rfl (fun _ => ?_) (fun h => absurd er h)
  rw [hp1.2, hp2.2] at hI
  exact kk _ _ H locs (jz_T_mono ((jz_goT hT (by omega) (xs (5 * k + 1))).2.1) (by omega) (by omega)) hI
set_option maxHeartbeats 4000000 in
set_option maxRecDepth 100000 in
theorem lw_r_detach {p : Program} {l : Launch} {e : Env} {s : State} {m : MethodId} {below : List Frame} {meth : Method} {c : Code} {H : Heap} {locs : List Loc} {Q : State → Prop} {ls : Array Slot} {D : va_G} {aK : Nat → Nat} {cA : Nat → ClassId} {adX adM : Nat → Nat} {A : Nat → Prop} {u v : js_S} {b L k : Nat} {xs : Nat → Int32} (hc : jx_C p s m #[Value.ref b] c code 4 "JointHistoryLaw" D (jc_tys cA) aK A) (hX : va_X b L xs s s.heap) (hbl : b < s.heap.size) (hbA : ¬ A b) (hL : L ≤ 2560) (hk : 5 * k + 5 ≤ L) (hT : jz_T k u v) (hI : lw_I D aK cA adX adM A s.heap u v H locs) (hl : lv_has ls 4 [(3, .int (nI (5 * k))), (2, .ref (adM 0)), (1, .ref (adX 0)), (0, .ref b)])
    (kk : ∀ (u' v' : js_S) (H1 : Heap) (locs1 : List Loc), jz_T (k + 1) u' v' → lw_I D aK cA adX adM A s.heap u' v' H1 locs1 → W p l e room_1 s m #[Value.ref b] below meth c H1 locs1 180 1971 Q (F0 m 609 ls [])) : W p l e room_1 s m #[Value.ref b] below meth c H locs 180 1971 Q (F0 m 388 ls []) := by
  have hx := hc.1
  have hb := hc.2.1
  refine lv_aload_n hx hb d_L_388 rfl (lv_at hl 2 rfl) ?_
  refine lv_aload_n hx hb d_L_389 rfl (lv_at hl 3 rfl) ?_
  refine lv_iload_n hx hb d_L_390 rfl (lv_at hl 0 rfl) ?_
  refine lv_iconst (v := 1) hx hb d_L_391 (by decide) ?_
  refine lv_iadd hx hb d_L_392 ?_
  rw [show nI (5 * k) + (1 : Int32) = nI (5 * k + 1) from nI_add (5 * k) 1]
  refine va_sld hx hb hX hbl hbA hI.1.2.2 (lw_vin (show 5 * k + 1 < L by omega) hL) d_L_393 ?_
  rw [nI_clamp (show 5 * k + 1 < 2 ^ 31 by omega)]
  refine lw_callX [.int (xs (5 * k + 1))] [] hc hI (c_detach l D aK adX cA u (xs (5 * k + 1)) (jz_Ch hT)) wy_L_43 rfl (by decide) rfl hl.1 rfl (by decide) ⟨by decide, by decide⟩ d_L_394 (fun r1 u1 H locs hp1 hI => ?_)
  refine W.eq (g2 := F0 m 397 ls [.int r1]) rfl ?_
  refine lv_aload_n hx hb d_L_397 rfl (lv_at hl 1 rfl) ?_
  refine lv_aload_n hx hb d_L_398 rfl (lv_at hl 3 rfl) ?_
  refine lv_iload_n hx hb d_L_399 rfl (lv_at hl 0 rfl) ?_
  refine lv_iconst (v := 1) hx hb d_L_400 (by decide) ?_
  refine lv_iadd hx hb d_L_401 ?_
  rw [show nI (5 * k) + (1 : Int32) = nI (5 * k + 1) from nI_add (5 * k) 1]
  refine va_sld hx hb hX hbl hbA hI.1.2.2 (lw_vin (show 5 * k + 1 < L by omega) hL) d_L_402 ?_
  rw [nI_clamp (show 5 * k + 1 < 2 ^ 31 by omega)]
  refine lw_callM [.int (xs (5 * k + 1))] [.int r1] hc hI (m_detach l D aK adM cA v (xs (5 * k + 1)) (jz_Mh hT) (jz_detach hT (xs (5 * k + 1))).2.2 (jz_Nw hT (by omega))) wy_L_46 rfl (by decide) rfl hl.1 rfl (by simp [vc_int, vc_long]) ⟨by decide, by decide⟩ d_L_403 (fun r2 v1 H locs hp2 hI => ?_)
  refine W.eq (g2 := F0 m 406 ls [.int r2, .int r1]) rfl ?_
  have er : r1 = r2 := by
    rw [hp1.1, hp2.1]
    exact (jz_detach hT (xs (5 * k + 1))).1
  refine lv_icmp_eq (tgt := 609) hx hb d_L_406 rfl (fun _ => ?_) (fun h => absurd er h)
  rw [hp1.2, hp2.2] at hI
  exact kk _ _ H locs (jz_T_mono ((jz_detach hT (xs (5 * k + 1))).2.1) (by omega) (by omega)) hI
set_option maxHeartbeats 4000000 in
set_option maxRecDepth 100000 in
theorem lw_r_url {p : Program} {l : Launch} {e : Env} {s : State} {m : MethodId} {below : List Frame} {meth : Method} {c : Code} {H : Heap} {locs : List Loc} {Q : State → Prop} {ls : Array Slot} {D : va_G} {aK : Nat → Nat} {cA : Nat → ClassId} {adX adM : Nat → Nat} {A : Nat → Prop} {u v : js_S} {b L k : Nat} {xs : Nat → Int32} (hc : jx_C p s m #[Value.ref b] c code 4 "JointHistoryLaw" D (jc_tys cA) aK A) (hX : va_X b L xs s s.heap) (hbl : b < s.heap.size) (hbA : ¬ A b) (hL : L ≤ 2560) (hk : 5 * k + 5 ≤ L) (hT : jz_T k u v) (hI : lw_I D aK cA adX adM A s.heap u v H locs) (hl : lv_has ls 4 [(3, .int (nI (5 * k))), (2, .ref (adM 0)), (1, .ref (adX 0)), (0, .ref b)])
    (kk : ∀ (u' v' : js_S) (H1 : Heap) (locs1 : List Loc), jz_T (k + 1) u' v' → lw_I D aK cA adX adM A s.heap u' v' H1 locs1 → W p l e room_1 s m #[Value.ref b] below meth c H1 locs1 180 1971 Q (F0 m 609 ls [])) : W p l e room_1 s m #[Value.ref b] below meth c H locs 180 1971 Q (F0 m 411 ls []) := by
  have hx := hc.1
  have hb := hc.2.1
  refine lv_aload_n hx hb d_L_411 rfl (lv_at hl 2 rfl) ?_
  refine lv_aload_n hx hb d_L_412 rfl (lv_at hl 3 rfl) ?_
  refine lv_iload_n hx hb d_L_413 rfl (lv_at hl 0 rfl) ?_
  refine lv_iconst (v := 1) hx hb d_L_414 (by decide) ?_
  refine lv_iadd hx hb d_L_415 ?_
  rw [show nI (5 * k) + (1 : Int32) = nI (5 * k + 1) from nI_add (5 * k) 1]
  refine va_sld hx hb hX hbl hbA hI.1.2.2 (lw_vin (show 5 * k + 1 < L by omega) hL) d_L_416 ?_
  rw [nI_clamp (show 5 * k + 1 < 2 ^ 31 by omega)]
  refine lw_callX [.int (xs (5 * k + 1))] [] hc hI (c_url l D aK adX cA u (xs (5 * k + 1)) (jz_Ch hT)) wy_L_47 rfl (by decide) rfl hl.1 rfl (by decide) ⟨by decide, by decide⟩ d_L_417 (fun r1 u1 H locs hp1 hI => ?_)
  refine W.eq (g2 := F0 m 420 ls [.int r1]) rfl ?_
  refine lv_aload_n hx hb d_L_420 rfl (lv_at hl 1 rfl) ?_
  refine lv_aload_n hx hb d_L_421 rfl (lv_at hl 3 rfl) ?_
  refine lv_iload_n hx hb d_L_422 rfl (lv_at hl 0 rfl) ?_
  refine lv_iconst (v := 1) hx hb d_L_423 (by decide) ?_
  refine lv_iadd hx hb d_L_424 ?_
  rw [show nI (5 * k) + (1 : Int32) = nI (5 * k + 1) from nI_add (5 * k) 1]
  refine va_sld hx hb hX hbl hbA hI.1.2.2 (lw_vin (show 5 * k + 1 < L by omega) hL) d_L_425 ?_
  rw [nI_clamp (show 5 * k + 1 < 2 ^ 31 by omega)]
  refine lw_callM [.int (xs (5 * k + 1))] [.int r1] hc hI (m_url l D aK adM cA v (xs (5 * k + 1))) wy_L_50 rfl (by decide) rfl hl.1 rfl (by simp [vc_int, vc_long]) ⟨by decide, by decide⟩ d_L_426 (fun r2 v1 H locs hp2 hI => ?_)
  refine W.eq (g2 := F0 m 429 ls [.int r2, .int r1]) rfl ?_
  have er : r1 = r2 := by
    rw [hp1.1, hp2.1]
    exact jz_url hT.1 (xs (5 * k + 1))
  refine lv_icmp_eq (tgt := 609) hx hb d_L_429 rfl (fun _ => ?_) (fun h => absurd er h)
  rw [hp1.2, hp2.2] at hI
  exact kk _ _ H locs (jz_T_mono (hT) (by omega) (by omega)) hI
