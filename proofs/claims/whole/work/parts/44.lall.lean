/-! load at every level; what navigate wants of the navigable that it loads for. -/
theorem c_load_all (l : Launch) (D : va_G) (aK ad : Nat → Nat) (cA : Nat → ClassId) : ∀ d, d ≤ 2 → jc_LC l D aK ad cA d (jc_load d) (3 * d + 6)
  | 0, _ => fun u o url step hS hw hC hu => c_load l D aK ad cA 0 5 (by omega) (fun s _ _ _ => s) (fun u x a step hS hx h8 ha hw hC => c_makeFrames l D aK ad cA 0 4 (by omega) (fun s _ _ _ => s) (fun e he => absurd he (by omega)) (by omega) u x a step hS hx h8 ha hw hC) u o url step hS hw hC hu
  | d + 1, h => fun u o url step hS hw hC hu => c_load l D aK ad cA (d + 1) (3 * d + 8) (by omega) (jc_load d) (fun u x a step hS hx h8 ha hw hC => c_makeFrames l D aK ad cA (d + 1) (3 * d + 7) (by omega) (jc_load d) (fun e he => by
      obtain rfl : e = d := by omega
      exact ⟨fun u x url step hS hx hw hC hu => c_makeFrame l D aK ad cA e (3 * e + 6) (by omega) (jc_load e) (c_load_all l D aK ad cA e (by omega)) h u x url step hS hx hw hC hu, jc_load_ok e (by omega)⟩) h u x a step hS hx h8 ha hw hC) u o url step hS hw hC hu
def jc_Lv (v : js_S) (o : Int32) : Prop := ∃ d, d ≤ 2 ∧ jc_Ow d v o ∧ jc_Cp v (jc_Nn d) (jc_Dn d)
theorem jc_ld_eq {d : Nat} {v : js_S} {o url step : Int32} (hw : jc_Ow d v o) (hd : d ≤ 2) : jc_ld v o url step = jc_load d v o url step := by
  obtain ⟨n, hn, rfl, h1, h2⟩ := hw
  unfold jc_ld
  rw [ix_nI (show n < 2 ^ 31 by omega), h2, ix_nI (show 2 - d < 2 ^ 31 by omega), show 2 - (2 - d) = d by omega]
