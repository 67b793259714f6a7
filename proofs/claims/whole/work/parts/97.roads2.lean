set_option maxHeartbeats 4000000 in
set_option maxRecDepth 100000 in
theorem lw_r_state {p : Program} {l : Launch} {e : Env} {s : State} {m : MethodId} {below : List Frame} {meth : Method} {c : Code} {H : Heap} {locs : List Loc} {Q : State → Prop} {ls : Array Slot} {D : va_G} {aK : Nat → Nat} {cA : Nat → ClassId} {adX adM : Nat → Nat} {A : Nat → Prop} {u v : js_S} {b L k : Nat} {xs : Nat → Int32} (hc : jx_C p s m #[Value.ref b] c code 4 "JointHistoryLaw" D (jc_tys cA) aK A) (hX : va_X b L xs s s.heap) (hbl : b < s.heap.size) (hbA : ¬ A b) (hL : L ≤ 2560) (hk : 5 * k + 5 ≤ L) (hT : jz_T k u v) (hI : lw_I D aK cA adX adM A s.heap u v H locs) (hl : lv_has ls 4 [(3, .int (nI (5 * k))), (2, .ref (adM 0)), (1, .ref (adX 0)), (0, .ref b)])
    (kk : ∀ (u' v' : js_S) (H1 : Heap) (locs1 : List Loc), jz_T (k + 1) u' v' → lw_I D aK cA adX adM A s.heap u' v' H1 locs1 → W p l e room_1 s m #[Value.ref b] below meth c H1 locs1 180 1971 Q (F0 m 609 ls [])) : W p l e room_1 s m #[Value.ref b] below meth c H locs 180 1971 Q (F0 m 434 ls []) := by
  have hx := hc.1
  have hb := hc.2.1
  refine lv_aload_n hx hb d_L_434 rfl (lv_at hl 2 rfl) ?_
  refine lv_aload_n hx hb d_L_435 rfl (lv_at hl 3 rfl) ?_
  refine lv_iload_n hx hb d_L_436 rfl (lv_at hl 0 rfl) ?_
  refine lv_iconst (v := 1) hx hb d_L_437 (by decide) ?_
  refine lv_iadd hx hb d_L_438 ?_
  rw [show nI (5 * k) + (1 : Int32) = nI (5 * k + 1) from nI_add (5 * k) 1]
  refine va_sld hx hb hX hbl hbA hI.1.2.2 (lw_vin (show 5 * k + 1 < L by omega) hL) d_L_439 ?_
  rw [nI_clamp (show 5 * k + 1 < 2 ^ 31 by omega)]
  refine lw_callX [.int (xs (5 * k + 1))] [] hc hI (c_state l D aK adX cA u (xs (5 * k + 1)) (jz_Ch hT)) wy_L_51 rfl (by decide) rfl hl.1 rfl (by decide) ⟨by decide, by decide⟩ d_L_440 (fun r1 u1 H locs hp1 hI => ?_)
  refine W.eq (g2 := F0 m 443 ls [.long r1]) rfl ?_
  refine lv_aload_n hx hb d_L_443 rfl (lv_at hl 1 rfl) ?_
  refine lv_aload_n hx hb d_L_444 rfl (lv_at hl 3 rfl) ?_
  refine lv_iload_n hx hb d_L_445 rfl (lv_at hl 0 rfl) ?_
  refine lv_iconst (v := 1) hx hb d_L_446 (by decide) ?_
  refine lv_iadd hx hb d_L_447 ?_
  rw [show nI (5 * k) + (1 : Int32) = nI (5 * k + 1) from nI_add (5 * k) 1]
  refine va_sld hx hb hX hbl hbA hI.1.2.2 (lw_vin (show 5 * k + 1 < L by omega) hL) d_L_448 ?_
  rw [nI_clamp (show 5 * k + 1 < 2 ^ 31 by omega)]
  refine lw_callM [.int (xs (5 * k + 1))] [.long r1] hc hI (m_state l D aK adM cA v (xs (5 * k + 1))) wy_L_55 rfl (by decide) rfl hl.1 rfl (by simp [vc_int, vc_long]) ⟨by decide, by decide⟩ d_L_449 (fun r2 v1 H locs hp2 hI => ?_)
  refine W.eq (g2 := F0 m 452 ls [.long r2, .long r1]) rfl ?_
  have er : r1 = r2 := by
    rw [hp1.1, hp2.1]
    exact jz_state hT.1 (xs (5 * k + 1))
  refine W.lcmp hx hb d_L_452 ?_
  refine lv_if_eq (tgt := 609) hx hb d_L_453 rfl (fun _ => ?_) (fun h => absurd (by rw [er]; exact lw_cmp0) h)
  rw [hp1.2, hp2.2] at hI
  exact kk _ _ H locs (jz_T_mono (hT) (by omega) (by omega)) hI
set_option maxHeartbeats 4000000 in
set_option maxRecDepth 100000 in
theorem lw_r_step {p : Program} {l : Launch} {e : Env} {s : State} {m : MethodId} {below : List Frame} {meth : Method} {c : Code} {H : Heap} {locs : List Loc} {Q : State → Prop} {ls : Array Slot} {D : va_G} {aK : Nat → Nat} {cA : Nat → ClassId} {adX adM : Nat → Nat} {A : Nat → Prop} {u v : js_S} {b L k : Nat} {xs : Nat → Int32} (hc : jx_C p s m #[Value.ref b] c code 4 "JointHistoryLaw" D (jc_tys cA) aK A) (hX : va_X b L xs s s.heap) (hbl : b < s.heap.size) (hbA : ¬ A b) (hL : L ≤ 2560) (hk : 5 * k + 5 ≤ L) (hT : jz_T k u v) (hI : lw_I D aK cA adX adM A s.heap u v H locs) (hl : lv_has ls 4 [(3, .int (nI (5 * k))), (2, .ref (adM 0)), (1, .ref (adX 0)), (0, .ref b)])
    (kk : ∀ (u' v' : js_S) (H1 : Heap) (locs1 : List Loc), jz_T (k + 1) u' v' → lw_I D aK cA adX adM A s.heap u' v' H1 locs1 → W p l e room_1 s m #[Value.ref b] below meth c H1 locs1 180 1971 Q (F0 m 609 ls [])) : W p l e room_1 s m #[Value.ref b] below meth c H locs 180 1971 Q (F0 m 458 ls []) := by
  have hx := hc.1
  have hb := hc.2.1
  refine lv_aload_n hx hb d_L_458 rfl (lv_at hl 2 rfl) ?_
  refine lv_aload_n hx hb d_L_459 rfl (lv_at hl 3 rfl) ?_
  refine lv_iload_n hx hb d_L_460 rfl (lv_at hl 0 rfl) ?_
  refine lv_iconst (v := 1) hx hb d_L_461 (by decide) ?_
  refine lv_iadd hx hb d_L_462 ?_
  rw [show nI (5 * k) + (1 : Int32) = nI (5 * k + 1) from nI_add (5 * k) 1]
  refine va_sld hx hb hX hbl hbA hI.1.2.2 (lw_vin (show 5 * k + 1 < L by omega) hL) d_L_463 ?_
  rw [nI_clamp (show 5 * k + 1 < 2 ^ 31 by omega)]
  refine lw_callX [.int (xs (5 * k + 1))] [] hc hI (c_step l D aK adX cA u (xs (5 * k + 1)) (jz_Ch hT)) wy_L_56 rfl (by decide) rfl hl.1 rfl (by decide) ⟨by decide, by decide⟩ d_L_464 (fun r1 u1 H locs hp1 hI => ?_)
  refine W.eq (g2 := F0 m 467 ls [.int r1]) rfl ?_
  refine lv_aload_n hx hb d_L_467 rfl (lv_at hl 1 rfl) ?_
  refine lv_aload_n hx hb d_L_468 rfl (lv_at hl 3 rfl) ?_
  refine lv_iload_n hx hb d_L_469 rfl (lv_at hl 0 rfl) ?_
  refine lv_iconst (v := 1) hx hb d_L_470 (by decide) ?_
  refine lv_iadd hx hb d_L_471 ?_
  rw [show nI (5 * k) + (1 : Int32) = nI (5 * k + 1) from nI_add (5 * k) 1]
  refine va_sld hx hb hX hbl hbA hI.1.2.2 (lw_vin (show 5 * k + 1 < L by omega) hL) d_L_472 ?_
  rw [nI_clamp (show 5 * k + 1 < 2 ^ 31 by omega)]
  refine lw_callM [.int (xs (5 * k + 1))] [.int r1] hc hI (m_step l D aK adM cA v (xs (5 * k + 1))) wy_L_59 rfl (by decide) rfl hl.1 rfl (by simp [vc_int, vc_long]) ⟨by decide, by decide⟩ d_L_473 (fun r2 v1 H locs hp2 hI => ?_)
  refine W.eq (g2 := F0 m 476 ls [.int r2, .int r1]) rfl ?_
  have er : r1 = r2 := by
    rw [hp1.1, hp2.1]
    exact jz_step hT.1 (xs (5 * k + 1))
  refine lv_icmp_eq (tgt := 609) hx hb d_L_476 rfl (fun _ => ?_) (fun h => absurd er h)
  rw [hp1.2, hp2.2] at hI
  exact kk _ _ H locs (jz_T_mono (hT) (by omega) (by omega)) hI
set_option maxHeartbeats 4000000 in
set_option maxRecDepth 100000 in
theorem lw_r_origin {p : Program} {l : Launch} {e : Env} {s : State} {m : MethodId} {below : List Frame} {meth : Method} {c : Code} {H : Heap} {locs : List Loc} {Q : State → Prop} {ls : Array Slot} {D : va_G} {aK : Nat → Nat} {cA : Nat → ClassId} {adX adM : Nat → Nat} {A : Nat → Prop} {u v : js_S} {b L k : Nat} {xs : Nat → Int32} (hc : jx_C p s m #[Value.ref b] c code 4 "JointHistoryLaw" D (jc_tys cA) aK A) (hX : va_X b L xs s s.heap) (hbl : b < s.heap.size) (hbA : ¬ A b) (hL : L ≤ 2560) (hk : 5 * k + 5 ≤ L) (hT : jz_T k u v) (hI : lw_I D aK cA adX adM A s.heap u v H locs) (hl : lv_has ls 4 [(3, .int (nI (5 * k))), (2, .ref (adM 0)), (1, .ref (adX 0)), (0, .ref b)])
    (kk : ∀ (u' v' : js_S) (H1 : Heap) (locs1 : List Loc), jz_T (k + 1) u' v' → lw_I D aK cA adX adM A s.heap u' v' H1 locs1 → W p l e room_1 s m #[Value.ref b] below meth c H1 locs1 180 1971 Q (F0 m 609 ls [])) : W p l e room_1 s m #[Value.ref b] below meth c H locs 180 1971 Q (F0 m 481 ls []) := by
  have hx := hc.1
  have hb := hc.2.1
  refine lv_aload_n hx hb d_L_481 rfl (lv_at hl 2 rfl) ?_
  refine lv_aload_n hx hb d_L_482 rfl (lv_at hl 3 rfl) ?_
  refine lv_iload_n hx hb d_L_483 rfl (lv_at hl 0 rfl) ?_
  refine lv_iconst (v := 1) hx hb d_L_484 (by decide) ?_
  refine lv_iadd hx hb d_L_485 ?_
  rw [show nI (5 * k) + (1 : Int32) = nI (5 * k + 1) from nI_add (5 * k) 1]
  refine va_sld hx hb hX hbl hbA hI.1.2.2 (lw_vin (show 5 * k + 1 < L by omega) hL) d_L_486 ?_
  rw [nI_clamp (show 5 * k + 1 < 2 ^ 31 by omega)]
  refine lw_callX [.int (xs (5 * k + 1))] [] hc hI (c_origin l D aK adX cA u (xs (5 * k + 1)) (jz_Ch hT)) wy_L_60 rfl (by decide) rfl hl.1 rfl (by decide) ⟨by decide, by decide⟩ d_L_487 (fun r1 u1 H locs hp1 hI => ?_)
  refine W.eq (g2 := F0 m 490 ls [.int r1]) rfl ?_
  refine lv_aload_n hx hb d_L_490 rfl (lv_at hl 1 rfl) ?_
  refine lv_aload_n hx hb d_L_491 rfl (lv_at hl 3 rfl) ?_
  refine lv_iload_n hx hb d_L_492 rfl (lv_at hl 0 rfl) ?_
  refine lv_iconst (v := 1) hx hb d_L_493 (by decide) ?_
  refine lv_iadd hx hb d_L_494 ?_
  rw [show nI (5 * k) + (1 : Int32) = nI (5 * k + 1) from nI_add (5 * k) 1]
  refine va_sld hx hb hX hbl hbA hI.1.2.2 (lw_vin (show 5 * k + 1 < L by omega) hL) d_L_495 ?_
  rw [nI_clamp (show 5 * k + 1 < 2 ^ 31 by omega)]
  refine lw_callM [.int (xs (5 * k + 1))] [.int r1] hc hI (m_origin l D aK adM cA v (xs (5 * k + 1)) (jz_Mh hT)) wy_L_63 rfl (by decide) rfl hl.1 rfl (by simp [vc_int, vc_long]) ⟨by decide, by decide⟩ d_L_496 (fun r2 v1 H locs hp2 hI => ?_)
  refine W.eq (g2 := F0 m 499 ls [.int r2, .int r1]) rfl ?_
  have er : r1 = r2 := by
    rw [hp1.1, hp2.1]
    exact jz_origin hT.1 (xs (5 * k + 1))
  refine lv_icmp_eq (tgt := 609) hx hb d_L_499 rfl (fun _ => ?_) (fun h => absurd er h)
  rw [hp1.2, hp2.2] at hI
  exact kk _ _ H locs (jz_T_mono (hT) (by omega) (by omega)) hI
set_option maxHeartbeats 4000000 in
set_option maxRecDepth 100000 in
theorem lw_r_frame {p : Program} {l : Launch} {e : Env} {s : State} {m : MethodId} {below : List Frame} {meth : Method} {c : Code} {H : Heap} {locs : List Loc} {Q : State → Prop} {ls : Array Slot} {D : va_G} {aK : Nat → Nat} {cA : Nat → ClassId} {adX adM : Nat → Nat} {A : Nat → Prop} {u v : js_S} {b L k : Nat} {xs : Nat → Int32} (hc : jx_C p s m #[Value.ref b] c code 4 "JointHistoryLaw" D (jc_tys cA) aK A) (hX : va_X b L xs s s.heap) (hbl : b < s.heap.size) (hbA : ¬ A b) (hL : L ≤ 2560) (hk : 5 * k + 5 ≤ L) (hT : jz_T k u v) (hI : lw_I D aK cA adX adM A s.heap u v H locs) (hl : lv_has ls 4 [(3, .int (nI (5 * k))), (2, .ref (adM 0)), (1, .ref (adX 0)), (0, .ref b)])
    (kk : ∀ (u' v' : js_S) (H1 : Heap) (locs1 : List Loc), jz_T (k + 1) u' v' → lw_I D aK cA adX adM A s.heap u' v' H1 locs1 → W p l e room_1 s m #[Value.ref b] below meth c H1 locs1 180 1971 Q (F0 m 609 ls [])) : W p l e room_1 s m #[Value.ref b] below meth c H locs 180 1971 Q (F0 m 504 ls []) := by
  have hx := hc.1
  have hb := hc.2.1
  refine lv_aload_n hx hb d_L_504 rfl (lv_at hl 2 rfl) ?_
  refine lv_aload_n hx hb d_L_505 rfl (lv_at hl 3 rfl) ?_
  refine lv_iload_n hx hb d_L_506 rfl (lv_at hl 0 rfl) ?_
  refine lv_iconst (v := 1) hx hb d_L_507 (by decide) ?_
  refine lv_iadd hx hb d_L_508 ?_
  rw [show nI (5 * k) + (1 : Int32) = nI (5 * k + 1) from nI_add (5 * k) 1]
  refine va_sld hx hb hX hbl hbA hI.1.2.2 (lw_vin (show 5 * k + 1 < L by omega) hL) d_L_509 ?_
  rw [nI_clamp (show 5 * k + 1 < 2 ^ 31 by omega)]
  refine lv_aload_n hx hb d_L_510 rfl (lv_at hl 3 rfl) ?_
  refine lv_iload_n hx hb d_L_511 rfl (lv_at hl 0 rfl) ?_
  refine lv_iconst (v := 2) hx hb d_L_512 (by decide) ?_
  refine lv_iadd hx hb d_L_513 ?_
  rw [show nI (5 * k) + (2 : Int32) = nI (5 * k + 2) from nI_add (5 * k) 2]
  refine va_sld hx hb hX hbl hbA hI.1.2.2 (lw_vin (show 5 * k + 2 < L by omega) hL) d_L_514 ?_
  rw [nI_clamp (show 5 * k + 2 < 2 ^ 31 by omega)]
  refine lw_callX [.int (xs (5 * k + 1)), .int (xs (5 * k + 2))] [] hc hI (c_frame l D aK adX cA u (xs (5 * k + 1)) (xs (5 * k + 2)) (jz_Ch hT)) wy_L_64 rfl (by decide) rfl hl.1 rfl (by decide) ⟨by decide, by decide⟩ d_L_515 (fun r1 u1 H locs hp1 hI => ?_)
  refine W.eq (g2 := F0 m 518 ls [.int r1]) rfl ?_
  refine lv_aload_n hx hb d_L_518 rfl (lv_at hl 1 rfl) ?_
  refine lv_aload_n hx hb d_L_519 rfl (lv_at hl 3 rfl) ?_
  refine lv_iload_n hx hb d_L_520 rfl (lv_at hl 0 rfl) ?_
  refine lv_iconst (v := 1) hx hb d_L_521 (by decide) ?_
  refine lv_iadd hx hb d_L_522 ?_
  rw [show nI (5 * k) + (1 : Int32) = nI (5 * k + 1) from nI_add (5 * k) 1]
  refine va_sld hx hb hX hbl hbA hI.1.2.2 (lw_vin (show 5 * k + 1 < L by omega) hL) d_L_523 ?_
  rw [nI_clamp (show 5 * k + 1 < 2 ^ 31 by omega)]
  refine lv_aload_n hx hb d_L_524 rfl (lv_at hl 3 rfl) ?_
  refine lv_iload_n hx hb d_L_525 rfl (lv_at hl 0 rfl) ?_
  refine lv_iconst (v := 2) hx hb d_L_526 (by decide) ?_
  refine lv_iadd hx hb d_L_527 ?_
  rw [show nI (5 * k) + (2 : Int32) = nI (5 * k + 2) from nI_add (5 * k) 2]
  refine va_sld hx hb hX hbl hbA hI.1.2.2 (lw_vin (show 5 * k + 2 < L by omega) hL) d_L_528 ?_
  rw [nI_clamp (show 5 * k + 2 < 2 ^ 31 by omega)]
  refine lw_callM [.int (xs (5 * k + 1)), .int (xs (5 * k + 2))] [.int r1] hc hI (m_frame l D aK adM cA v (xs (5 * k + 1)) (xs (5 * k + 2)) (jz_Mh hT)) wy_L_68 rfl (by decide) rfl hl.1 rfl (by simp [vc_int, vc_long]) ⟨by decide, by decide⟩ d_L_529 (fun r2 v1 H locs hp2 hI => ?_)
  refine W.eq (g2 := F0 m 532 ls [.int r2, .int r1]) rfl ?_
  have er : r1 = r2 := by
    rw [hp1.1, hp2.1]
    exact jz_frame hT.1 (xs (5 * k + 1)) (xs (5 * k + 2))
  refine lv_icmp_eq (tgt := 609) hx hb d_L_532 rfl (fun _ => ?_) (fun h => absurd er h)
  rw [hp1.2, hp2.2] at hI
  exact kk _ _ H locs (jz_T_mono (hT) (by omega) (by omega)) hI
