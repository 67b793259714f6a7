/-! Loops of the reference that run a fixed number of rounds. -/
def jm_r1 : Nat → js_S → js_S
  | 0, s => s
  | n + 1, s => jm_r1 n (jm_m1 s 48)
def jm_r3 : Nat → js_S → js_S
  | 0, s => s
  | n + 1, s => jm_r3 n (jm_m3 s 48)
def jm_lwL (d to st : Int32) : Nat → Nat → js_S → js_S
  | 0, _, s => s
  | n + 1, i, s => jm_lwL d to st n (i + 1) (jm_lw s d to st (nI i))
theorem jm_lw_eq {u : js_S} {url st : Int32} : jm_loadWindow u url st = js_up (jm_lwL (nI (js_free u 10 47 0)) (jm_make u 0 url 25 0) st 2 0 (jm_make u 0 url)) 25 0 (jm_make u 0 url 25 0) := rfl
