set_option maxHeartbeats 4000000 in
set_option maxRecDepth 100000 in
theorem lw_r_entries {p : Program} {l : Launch} {e : Env} {s : State} {m : MethodId} {below : List Frame} {meth : Method} {c : Code} {H : Heap} {locs : List Loc} {Q : State → Prop} {ls : Array Slot} {D : va_G} {aK : Nat → Nat} {cA : Nat → ClassId} {adX adM : Nat → Nat} {A : Nat → Prop} {u v : js_S} {b L k : Nat} {xs : Nat → Int32} (hc : jx_C p s m #[Value.ref b] c code 4 "JointHistoryLaw" D (jc_tys cA) aK A) (hX : va_X b L xs s s.heap) (hbl : b < s.heap.size) (hbA : ¬ A b) (hL : L ≤ 2560) (hk : 5 * k + 5 ≤ L) (hT : jz_T k u v) (hI : lw_I D aK cA adX adM A s.heap u v H locs) (hl : lv_has ls 4 [(3, .int (nI (5 * k))), (2, .ref (adM 0)), (1, .ref (adX 0)), (0, .ref b)])
    (kk : ∀ (u' v' : js_S) (H1 : Heap) (locs1 : List Loc), jz_T (k + 1) u' v' → lw_I D aK cA adX adM A s.heap u' v' H1 locs1 → W p l e room_1 s m #[Value.ref b] below meth c H1 locs1 180 1971 Q (F0 m 609 ls [])) : W p l e room_1 s m #[Value.ref b] below meth c H locs 180 1971 Q (F0 m 537 ls []) := by
  have hx := hc.1
  have hb := hc.2.1
  refine lv_aload_n hx hb d_L_537 rfl (lv_at hl 2 rfl) ?_
  refine lv_aload_n hx hb d_L_538 rfl (lv_at hl 3 rfl) ?_
  refine lv_iload_n hx hb d_L_539 rfl (lv_at hl 0 rfl) ?_
  refine lv_iconst (v := 1) hx hb d_L_540 (by decide) ?_
  refine lv_iadd hx hb d_L_541 ?_
  rw [show nI (5 * k) + (1 : Int32) = nI (5 * k + 1) from nI_add (5 * k) 1]
  refine va_sld hx hb hX hbl hbA hI.1.2.2 (lw_vin (show 5 * k + 1 < L by omega) hL) d_L_542 ?_
  rw [nI_clamp (show 5 * k + 1 < 2 ^ 31 by omega)]
  refine lw_callX [.int (xs (5 * k + 1))] [] hc hI (c_entries l D aK adX cA u (xs (5 * k + 1)) (jz_Ch hT)) wy_L_69 rfl (by decide) rfl hl.1 rfl (by decide) ⟨by decide, by decide⟩ d_L_543 (fun r1 u1 H locs hp1 hI => ?_)
  refine W.eq (g2 := F0 m 546 ls [.int r1]) rfl ?_
  refine lv_aload_n hx hb d_L_546 rfl (lv_at hl 1 rfl) ?_
  refine lv_aload_n hx hb d_L_547 rfl (lv_at hl 3 rfl) ?_
  refine lv_iload_n hx hb d_L_548 rfl (lv_at hl 0 rfl) ?_
  refine lv_iconst (v := 1) hx hb d_L_549 (by decide) ?_
  refine lv_iadd hx hb d_L_550 ?_
  rw [show nI (5 * k) + (1 : Int32) = nI (5 * k + 1) from nI_add (5 * k) 1]
  refine va_sld hx hb hX hbl hbA hI.1.2.2 (lw_vin (show 5 * k + 1 < L by omega) hL) d_L_551 ?_
  rw [nI_clamp (show 5 * k + 1 < 2 ^ 31 by omega)]
  refine lw_callM [.int (xs (5 * k + 1))] [.int r1] hc hI (m_entries l D aK adM cA v (xs (5 * k + 1))) wy_L_72 rfl (by decide) rfl hl.1 rfl (by simp [vc_int, vc_long]) ⟨by decide, by decide⟩ d_L_552 (fun r2 v1 H locs hp2 hI => ?_)
  refine W.eq (g2 := F0 m 555 ls [.int r2, .int r1]) rfl ?_
  have er : r1 = r2 := by
    rw [hp1.1, hp2.1]
    exact jz_entries hT.1 (xs (5 * k + 1))
  refine lv_icmp_eq (tgt := 609) hx hb d_L_555 rfl (fun _ => ?_) (fun h => absurd er h)
  rw [hp1.2, hp2.2] at hI
  exact kk _ _ H locs (jz_T_mono (hT) (by omega) (by omega)) hI
set_option maxHeartbeats 4000000 in
set_option maxRecDepth 100000 in
theorem lw_r_present {p : Program} {l : Launch} {e : Env} {s : State} {m : MethodId} {below : List Frame} {meth : Method} {c : Code} {H : Heap} {locs : List Loc} {Q : State → Prop} {ls : Array Slot} {D : va_G} {aK : Nat → Nat} {cA : Nat → ClassId} {adX adM : Nat → Nat} {A : Nat → Prop} {u v : js_S} {b L k : Nat} {xs : Nat → Int32} (hc : jx_C p s m #[Value.ref b] c code 4 "JointHistoryLaw" D (jc_tys cA) aK A) (hX : va_X b L xs s s.heap) (hbl : b < s.heap.size) (hbA : ¬ A b) (hL : L ≤ 2560) (hk : 5 * k + 5 ≤ L) (hT : jz_T k u v) (hI : lw_I D aK cA adX adM A s.heap u v H locs) (hl : lv_has ls 4 [(3, .int (nI (5 * k))), (2, .ref (adM 0)), (1, .ref (adX 0)), (0, .ref b)])
    (kk : ∀ (u' v' : js_S) (H1 : Heap) (locs1 : List Loc), jz_T (k + 1) u' v' → lw_I D aK cA adX adM A s.heap u' v' H1 locs1 → W p l e room_1 s m #[Value.ref b] below meth c H1 locs1 180 1971 Q (F0 m 609 ls [])) : W p l e room_1 s m #[Value.ref b] below meth c H locs 180 1971 Q (F0 m 560 ls []) := by
  have hx := hc.1
  have hb := hc.2.1
  refine lv_aload_n hx hb d_L_560 rfl (lv_at hl 2 rfl) ?_
  refine lw_callX [] [] hc hI (c_present l D aK adX cA u) wy_L_73 rfl (by decide) rfl hl.1 rfl (by decide) ⟨by decide, by decide⟩ d_L_561 (fun r1 u1 H locs hp1 hI => ?_)
  refine W.eq (g2 := F0 m 564 ls [.int r1]) rfl ?_
  refine lv_aload_n hx hb d_L_564 rfl (lv_at hl 1 rfl) ?_
  refine lw_callM [] [.int r1] hc hI (m_present l D aK adM cA v) wy_L_77 rfl (by decide) rfl hl.1 rfl (by simp [vc_int, vc_long]) ⟨by decide, by decide⟩ d_L_565 (fun r2 v1 H locs hp2 hI => ?_)
  refine W.eq (g2 := F0 m 568 ls [.int r2, .int r1]) rfl ?_
  have er : r1 = r2 := by
    rw [hp1.1, hp2.1]
    exact hT.1.2.2.2.2.1.1
  refine lv_icmp_eq (tgt := 609) hx hb d_L_568 rfl (fun _ => ?_) (fun h => absurd er h)
  rw [hp1.2, hp2.2] at hI
  exact kk _ _ H locs (jz_T_mono (hT) (by omega) (by omega)) hI
set_option maxHeartbeats 4000000 in
set_option maxRecDepth 100000 in
theorem lw_r_length {p : Program} {l : Launch} {e : Env} {s : State} {m : MethodId} {below : List Frame} {meth : Method} {c : Code} {H : Heap} {locs : List Loc} {Q : State → Prop} {ls : Array Slot} {D : va_G} {aK : Nat → Nat} {cA : Nat → ClassId} {adX adM : Nat → Nat} {A : Nat → Prop} {u v : js_S} {b L k : Nat} {xs : Nat → Int32} (hc : jx_C p s m #[Value.ref b] c code 4 "JointHistoryLaw" D (jc_tys cA) aK A) (hX : va_X b L xs s s.heap) (hbl : b < s.heap.size) (hbA : ¬ A b) (hL : L ≤ 2560) (hk : 5 * k + 5 ≤ L) (hT : jz_T k u v) (hI : lw_I D aK cA adX adM A s.heap u v H locs) (hl : lv_has ls 4 [(3, .int (nI (5 * k))), (2, .ref (adM 0)), (1, .ref (adX 0)), (0, .ref b)])
    (kk : ∀ (u' v' : js_S) (H1 : Heap) (locs1 : List Loc), jz_T (k + 1) u' v' → lw_I D aK cA adX adM A s.heap u' v' H1 locs1 → W p l e room_1 s m #[Value.ref b] below meth c H1 locs1 180 1971 Q (F0 m 609 ls [])) : W p l e room_1 s m #[Value.ref b] below meth c H locs 180 1971 Q (F0 m 573 ls []) := by
  have hx := hc.1
  have hb := hc.2.1
  refine lv_aload_n hx hb d_L_573 rfl (lv_at hl 2 rfl) ?_
  refine lw_callX [] [] hc hI (c_length l D aK adX cA u) wy_L_78 rfl (by decide) rfl hl.1 rfl (by decide) ⟨by decide, by decide⟩ d_L_574 (fun r1 u1 H locs hp1 hI => ?_)
  refine W.eq (g2 := F0 m 577 ls [.int r1]) rfl ?_
  refine lv_aload_n hx hb d_L_577 rfl (lv_at hl 1 rfl) ?_
  refine lw_callM [] [.int r1] hc hI (m_length l D aK adM cA v) wy_L_81 rfl (by decide) rfl hl.1 rfl (by simp [vc_int, vc_long]) ⟨by decide, by decide⟩ d_L_578 (fun r2 v1 H locs hp2 hI => ?_)
  refine W.eq (g2 := F0 m 581 ls [.int r2, .int r1]) rfl ?_
  have er : r1 = r2 := by
    rw [hp1.1, hp2.1]
    exact jz_length hT.1 (by omega)
  refine lv_icmp_eq (tgt := 609) hx hb d_L_581 rfl (fun _ => ?_) (fun h => absurd er h)
  rw [hp1.2, hp2.2] at hI
  exact kk _ _ H locs (jz_T_mono (jz_lengthT hT) (by omega) (by omega)) hI
set_option maxHeartbeats 4000000 in
set_option maxRecDepth 100000 in
theorem lw_r_count {p : Program} {l : Launch} {e : Env} {s : State} {m : MethodId} {below : List Frame} {meth : Method} {c : Code} {H : Heap} {locs : List Loc} {Q : State → Prop} {ls : Array Slot} {D : va_G} {aK : Nat → Nat} {cA : Nat → ClassId} {adX adM : Nat → Nat} {A : Nat → Prop} {u v : js_S} {b L k : Nat} {xs : Nat → Int32} (hc : jx_C p s m #[Value.ref b] c code 4 "JointHistoryLaw" D (jc_tys cA) aK A) (hX : va_X b L xs s s.heap) (hbl : b < s.heap.size) (hbA : ¬ A b) (hL : L ≤ 2560) (hk : 5 * k + 5 ≤ L) (hT : jz_T k u v) (hI : lw_I D aK cA adX adM A s.heap u v H locs) (hl : lv_has ls 4 [(3, .int (nI (5 * k))), (2, .ref (adM 0)), (1, .ref (adX 0)), (0, .ref b)])
    (kk : ∀ (u' v' : js_S) (H1 : Heap) (locs1 : List Loc), jz_T (k + 1) u' v' → lw_I D aK cA adX adM A s.heap u' v' H1 locs1 → W p l e room_1 s m #[Value.ref b] below meth c H1 locs1 180 1971 Q (F0 m 609 ls [])) : W p l e room_1 s m #[Value.ref b] below meth c H locs 180 1971 Q (F0 m 586 ls []) := by
  have hx := hc.1
  have hb := hc.2.1
  refine lv_aload_n hx hb d_L_586 rfl (lv_at hl 2 rfl) ?_
  refine lv_aload_n hx hb d_L_587 rfl (lv_at hl 3 rfl) ?_
  refine lv_iload_n hx hb d_L_588 rfl (lv_at hl 0 rfl) ?_
  refine lv_iconst (v := 1) hx hb d_L_589 (by decide) ?_
  refine lv_iadd hx hb d_L_590 ?_
  rw [show nI (5 * k) + (1 : Int32) = nI (5 * k + 1) from nI_add (5 * k) 1]
  refine va_sld hx hb hX hbl hbA hI.1.2.2 (lw_vin (show 5 * k + 1 < L by omega) hL) d_L_591 ?_
  rw [nI_clamp (show 5 * k + 1 < 2 ^ 31 by omega)]
  refine lw_callX [.int (xs (5 * k + 1))] [] hc hI (c_count l D aK adX cA u (xs (5 * k + 1)) (jz_Ch hT)) wy_L_82 rfl (by decide) rfl hl.1 rfl (by decide) ⟨by decide, by decide⟩ d_L_592 (fun r1 u1 H locs hp1 hI => ?_)
  refine W.eq (g2 := F0 m 595 ls [.int r1]) rfl ?_
  refine lv_aload_n hx hb d_L_595 rfl (lv_at hl 1 rfl) ?_
  refine lv_aload_n hx hb d_L_596 rfl (lv_at hl 3 rfl) ?_
  refine lv_iload_n hx hb d_L_597 rfl (lv_at hl 0 rfl) ?_
  refine lv_iconst (v := 1) hx hb d_L_598 (by decide) ?_
  refine lv_iadd hx hb d_L_599 ?_
  rw [show nI (5 * k) + (1 : Int32) = nI (5 * k + 1) from nI_add (5 * k) 1]
  refine va_sld hx hb hX hbl hbA hI.1.2.2 (lw_vin (show 5 * k + 1 < L by omega) hL) d_L_600 ?_
  rw [nI_clamp (show 5 * k + 1 < 2 ^ 31 by omega)]
  refine lw_callM [.int (xs (5 * k + 1))] [.int r1] hc hI (m_count l D aK adM cA v (xs (5 * k + 1))) wy_L_85 rfl (by decide) rfl hl.1 rfl (by simp [vc_int, vc_long]) ⟨by decide, by decide⟩ d_L_601 (fun r2 v1 H locs hp2 hI => ?_)
  refine W.eq (g2 := F0 m 604 ls [.int r2, .int r1]) rfl ?_
  have er : r1 = r2 := by
    rw [hp1.1, hp2.1]
    exact jz_count hT.1 (xs (5 * k + 1))
  refine lv_icmp_eq (tgt := 609) hx hb d_L_604 rfl (fun _ => ?_) (fun h => absurd er h)
  rw [hp1.2, hp2.2] at hI
  exact kk _ _ H locs (jz_T_mono (hT) (by omega) (by omega)) hI
