theorem lw_cmpL {L j : Nat} (hL : L ≤ 2560) (hj : j ≤ 2560) (h : ¬ Int32.ofNat L - 5 < nI j) : j + 5 ≤ L := by
  by_cases h5 : 5 ≤ L
  · have e : Int32.ofNat L - 5 = nI (L - 5) := by
      have e1 : Int32.ofNat L = nI (L - 5) + 5 := by
        have := nI_add (L - 5) 5
        rw [show L - 5 + 5 = L by omega] at this
        exact this.symm
      rw [e1, Int32.add_sub_cancel]
    rw [e] at h
    have := Nat.not_lt.mp (fun q => h ((nI_ltI (by omega) (by omega)).mpr q))
    omega
  · exfalso
    have neg : Int32.ofNat L - 5 < 0 := by
      have : L = 0 ∨ L = 1 ∨ L = 2 ∨ L = 3 ∨ L = 4 := by omega
      rcases this with rfl | rfl | rfl | rfl | rfl <;> decide
    exact h (Int32.lt_of_lt_of_le neg (Int32.not_lt.mp (nI_pos (by omega))))

set_option maxHeartbeats 4000000 in
set_option maxRecDepth 100000 in
theorem lw_loop {p : Program} {l : Launch} {e : Env} {s : State} {m : MethodId} {below : List Frame} {meth : Method} {c : Code} {D : va_G} {aK : Nat → Nat} {cA : Nat → ClassId} {adX adM : Nat → Nat} {A : Nat → Prop} {b L : Nat} {xs : Nat → Int32} (hc : jx_C p s m #[Value.ref b] c code 4 "JointHistoryLaw" D (jc_tys cA) aK A) (hX : va_X b L xs s s.heap) (hbl : b < s.heap.size) (hbA : ¬ A b) (hL : L ≤ 2560) (hA : ∀ q, A q → s.heap.size ≤ q) (hr : meth.sig.returnType = ret) (hlk : meth.locks = false) : ∀ (f k : Nat) (u v : js_S) (H : Heap) (locs : List Loc) (ls : Array Slot), k + f = 513 → k ≤ 512 → jz_T k u v → lw_I D aK cA adX adM A s.heap u v H locs → lv_has ls 4 [(3, .int (nI (5 * k))), (2, .ref (adM 0)), (1, .ref (adX 0)), (0, .ref b)] → W p l e room_1 s m #[Value.ref b] below meth c H locs 180 1971 (lw_Z below #[Value.ref b] s) (F0 m 18 ls [])
  | 0, k, _, _, _, _, _, h1, h2, _, _, _ => by omega
  | f + 1, k, u, v, H, locs, ls, h1, h2, hT, hI, hl => by
    have hx := hc.1
    have hb := hc.2.1
    refine lv_iload_n hx hb d_L_18 rfl (lv_at hl 0 rfl) ?_
    refine lv_aload_n hx hb d_L_19 rfl (lv_at hl 3 rfl) ?_
    refine va_slen hx hb hX hbl hbA hI.1.2.2 d_L_20 ?_
    refine lv_iconst (v := 5) hx hb d_L_21 (by decide) ?_
    refine lv_isub hx hb d_L_22 ?_
    refine lv_icmp_gt (tgt := 615) hx hb d_L_23 rfl (fun _ => ?_) (fun h => ?_)
    · refine lv_iconst (v := 1) hx hb d_L_615 (by decide) ?_
      refine va_forget (fun q hq => hA _ (hI.1.2.2.2.2 q hq)) ?_
      refine W.widen (k := 600000) (n := 7302250) (by omega) (by omega) ?_
      exact lw_ret hx hb hr hlk d_L_616
    have hk : 5 * k + 5 ≤ L := lw_cmpL hL (by omega) h
    have back : ∀ (u' v' : js_S) (H1 : Heap) (locs1 : List Loc), jz_T (k + 1) u' v' → lw_I D aK cA adX adM A s.heap u' v' H1 locs1 → W p l e room_1 s m #[Value.ref b] below meth c H1 locs1 180 1971 (lw_Z below #[Value.ref b] s) (F0 m 609 ls []) := by
      intro u' v' H1 locs1 hT' hI'
      refine lv_iinc (k := 0) (v := nI (5 * (k + 1))) (lv' := [(3, .int (nI (5 * (k + 1)))), (2, .ref (adM 0)), (1, .ref (adX 0)), (0, .ref b)]) hx hb d_L_609 hl rfl (nI_add (5 * k) 5) (by decide) rfl (fun ls' hl' => ?_)
      refine lv_goto (tgt := 18) hx hb d_L_612 rfl ?_
      exact lw_loop hc hX hbl hbA hL hA hr hlk f (k + 1) u' v' H1 locs1 ls' (by omega) (by omega) hT' hI' hl'
    refine lv_aload_n hx hb d_L_26 rfl (lv_at hl 3 rfl) ?_
    refine lv_iload_n hx hb d_L_27 rfl (lv_at hl 0 rfl) ?_
    refine va_sld hx hb hX hbl hbA hI.1.2.2 (lw_vin (show 5 * k < L by omega) hL) d_L_28 ?_
    refine lv_bipush (v := 15) hx hb d_L_29 (by decide) ?_
    refine lv_iand hx hb d_L_31 ?_
    obtain ⟨w, hw, ew⟩ := pk_andE (xs (nI (5 * k)).toNatClampNeg) (m := 15) 4 (by decide)
    rw [ew]
    match w, hw with
    | 0, _ =>
      refine lv_tableIn (off := 80) (tgt := 112) hx hb d_L_32 (by decide) (by decide) rfl rfl ?_
      by_cases hz : xs (5 * k + 4) = 0
      · exact lw_r_content0 hc hX hbl hbA hL hk hT hI hl hz back
      · exact lw_r_content1 hc hX hbl hbA hL hk hT hI hl hz back
    | 1, _ =>
      refine lv_tableIn (off := 149) (tgt := 181) hx hb d_L_32 (by decide) (by decide) rfl rfl ?_
      exact lw_r_detour hc hX hbl hbA hL hk hT hI hl back
    | 2, _ =>
      refine lv_tableIn (off := 182) (tgt := 214) hx hb d_L_32 (by decide) (by decide) rfl rfl ?_
      exact lw_r_fault hc hX hbl hbA hL hk hT hI hl back
    | 3, _ =>
      refine lv_tableIn (off := 205) (tgt := 237) hx hb d_L_32 (by decide) (by decide) rfl rfl ?_
      by_cases hz : xs (5 * k + 3) = 0
      · exact lw_r_navigate0 hc hX hbl hbA hL hk hT hI hl hz back
      · exact lw_r_navigate1 hc hX hbl hbA hL hk hT hI hl hz back
    | 4, _ =>
      refine lv_tableIn (off := 264) (tgt := 296) hx hb d_L_32 (by decide) (by decide) rfl rfl ?_
      by_cases hz : xs (5 * k + 4) = 0
      · exact lw_r_rewrite0 hc hX hbl hbA hL hk hT hI hl hz back
      · exact lw_r_rewrite1 hc hX hbl hbA hL hk hT hI hl hz back
    | 5, _ =>
      refine lv_tableIn (off := 333) (tgt := 365) hx hb d_L_32 (by decide) (by decide) rfl rfl ?_
      exact lw_r_go hc hX hbl hbA hL hk hT hI hl back
    | 6, _ =>
      refine lv_tableIn (off := 356) (tgt := 388) hx hb d_L_32 (by decide) (by decide) rfl rfl ?_
      exact lw_r_detach hc hX hbl hbA hL hk hT hI hl back
    | 7, _ =>
      refine lv_tableIn (off := 379) (tgt := 411) hx hb d_L_32 (by decide) (by decide) rfl rfl ?_
      exact lw_r_url hc hX hbl hbA hL hk hT hI hl back
    | 8, _ =>
      refine lv_tableIn (off := 402) (tgt := 434) hx hb d_L_32 (by decide) (by decide) rfl rfl ?_
      exact lw_r_state hc hX hbl hbA hL hk hT hI hl back
    | 9, _ =>
      refine lv_tableIn (off := 426) (tgt := 458) hx hb d_L_32 (by decide) (by decide) rfl rfl ?_
      exact lw_r_step hc hX hbl hbA hL hk hT hI hl back
    | 10, _ =>
      refine lv_tableIn (off := 449) (tgt := 481) hx hb d_L_32 (by decide) (by decide) rfl rfl ?_
      exact lw_r_origin hc hX hbl hbA hL hk hT hI hl back
    | 11, _ =>
      refine lv_tableIn (off := 472) (tgt := 504) hx hb d_L_32 (by decide) (by decide) rfl rfl ?_
      exact lw_r_frame hc hX hbl hbA hL hk hT hI hl back
    | 12, _ =>
      refine lv_tableIn (off := 505) (tgt := 537) hx hb d_L_32 (by decide) (by decide) rfl rfl ?_
      exact lw_r_entries hc hX hbl hbA hL hk hT hI hl back
    | 13, _ =>
      refine lv_tableIn (off := 528) (tgt := 560) hx hb d_L_32 (by decide) (by decide) rfl rfl ?_
      exact lw_r_present hc hX hbl hbA hL hk hT hI hl back
    | 14, _ =>
      refine lv_tableIn (off := 541) (tgt := 573) hx hb d_L_32 (by decide) (by decide) rfl rfl ?_
      exact lw_r_length hc hX hbl hbA hL hk hT hI hl back
    | 15, _ =>
      refine lv_tableIn (off := 554) (tgt := 586) hx hb d_L_32 (by decide) (by decide) rfl rfl ?_
      exact lw_r_count hc hX hbl hbA hL hk hT hI hl back
    | w + 16, hw => omega
