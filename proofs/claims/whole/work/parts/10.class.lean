/-! The class as functions of a store: field number, row -> value. A reference is the number of its row, or -1. -/
abbrev js_S : Type := Nat → Nat → Int32
def js_up (s : js_S) (f i : Nat) (v : Int32) : js_S := fun g j => if g = f ∧ j = i then v else s g j
theorem js_up_s (s : js_S) (f i : Nat) (v : Int32) : js_up s f i v f i = v := by simp [js_up]
theorem js_up_f {s : js_S} {f i g j : Nat} {v : Int32} (h : ¬ g = f) : js_up s f i v g j = s g j := by simp [js_up, h]
theorem js_up_i {s : js_S} {f i g j : Nat} {v : Int32} (h : ¬ j = i) : js_up s f i v g j = s g j := by simp [js_up, h]
abbrev ix (x : Int32) : Nat := x.toNatClampNeg
theorem ix_nI {n : Nat} (h : n < 2 ^ 31) : ix (nI n) = n := nI_clamp h
/-- the first row from i on, among k, whose flag f isn't set; if there is none, the one behind them -/
def js_free (s : js_S) (f : Nat) : Nat → Nat → Nat
  | 0, i => i
  | k + 1, i => if s f i = 0 then i else js_free s f k (i + 1)
def js_b (p : Prop) [Decidable p] : Int32 := if p then 1 else 0
-- static methods
def jc_isPage (x : Int32) : Int32 := if x < 0 then 0 else if 32 ≤ x then 0 else 1
def jc_isUrl (x : Int32) : Int32 := if x < 0 then 0 else if 256 ≤ x then 0 else 1
def jc_isUB (x : Int32) : Int32 := if x = -1 then 1 else if jc_isUrl x = 0 then 0 else 1
def jc_isFC (x : Int32) : Int32 := if x = -2 then 1 else if jc_isUB x = 0 then 0 else 1
def jc_frag (x : Int32) : Int32 := if x = -1 then 0 else x - x / 8 * 8
def jc_isFM (x y : Int32) : Int32 := if x = -1 then 0 else if y = -1 then 0 else if jc_frag y = 0 then 0 else if x / 8 = y / 8 then 1 else 0
def jc_mayR (x y : Int32) : Int32 := if x = -1 then 0 else if x / 64 = y / 64 then (if x / 64 = 3 then (if x / 8 = y / 8 then 1 else 0) else 1) else 0
-- reading
def jc_cntE (s : js_S) (st : Int32) : Nat → Nat
  | 0 => 0
  | i + 1 => if s 14 i ≠ 0 ∧ ¬ st < s 16 i then jc_cntE s st i + 1 else jc_cntE s st i
def jc_cntN (s : js_S) : Nat → Nat
  | 0 => 0
  | i + 1 => if s 5 i ≠ 0 then jc_cntN s i + 1 else jc_cntN s i
def jc_cntO (s : js_S) (o : Int32) : Nat → Nat
  | 0 => 0
  | i + 1 => if s 14 i ≠ 0 ∧ s 15 i = o then jc_cntO s o i + 1 else jc_cntO s o i
def jc_eA (s : js_S) (nav st : Int32) : Nat → Int32
  | 0 => -1
  | i + 1 => if s 14 i ≠ 0 ∧ s 15 i = nav ∧ ¬ st < s 16 i ∧ (jc_eA s nav st i = -1 ∨ ¬ s 16 i ≤ s 16 (ix (jc_eA s nav st i))) then nI i else jc_eA s nav st i
def jc_entryAt (s : js_S) (nav st : Int32) : Int32 := jc_eA s nav st 40
/-- may the document d (or none) be seen at the step: is it its owner's there -/
def jc_held (s : js_S) (d st : Int32) : Bool := decide (d = -1 ∨ (jc_entryAt s (s 9 (ix d)) st ≠ -1 ∧ s 19 (ix (jc_entryAt s (s 9 (ix d)) st)) = d))
def jc_up1 (s : js_S) (d : Int32) : Int32 := if d = -1 then -1 else s 7 (ix (s 9 (ix d)))
def jc_shownEntry (s : js_S) (n st : Int32) : Int32 :=
  if ¬ n < 0 ∧ ¬ 40 ≤ n ∧ s 5 (ix n) ≠ 0 ∧ jc_held s (s 7 (ix n)) st = true ∧ jc_held s (jc_up1 s (s 7 (ix n))) st = true then jc_entryAt s n st else -1
def jc_cntS (s : js_S) (st : Int32) : Nat → Nat
  | 0 => 0
  | i + 1 => if jc_shownEntry s (nI i) st ≠ -1 then jc_cntS s st i + 1 else jc_cntS s st i
-- loading
def jc_isDet (s : js_S) (x : Int32) : Int32 := if x = -1 then 0 else if s 0 (ix (x / 8)) = nI 1 then 1 else 0
def jc_fd (s : js_S) : Nat → Int32 → Int32
  | 0, u => u
  | k + 1, u => if jc_isDet s u = 0 then u else jc_fd s k (if jc_frag (s 4 (ix (u / 8))) = 0 then s 4 (ix (u / 8)) + jc_frag u else s 4 (ix (u / 8)))
def jc_addEntry (s : js_S) (owner step url state doc : Int32) : js_S :=
  js_up (js_up (js_up (js_up (js_up (js_up s 14 (js_free s 14 39 0) 1) 15 (js_free s 14 39 0) owner) 16 (js_free s 14 39 0) step) 17 (js_free s 14 39 0) url) 18 (js_free s 14 39 0) state) 19 (js_free s 14 39 0) doc
def jc_freeDoc (s : js_S) (owner : Int32) : js_S :=
  js_up (js_up (js_up (js_up s 8 (js_free s 8 39 0) 1) 9 (js_free s 8 39 0) owner) 12 (js_free s 8 39 0) (-1)) 13 (js_free s 8 39 0) (-1)
def jc_opq (s : js_S) (i : Nat) : js_S := js_up (js_up s 24 0 (s 24 0 + 1)) 10 i (4 + s 24 0)
def jc_mk0 (s : js_S) (n : Nat) (doc : Int32) : js_S := js_up (js_up (js_up s 5 n 1) 6 n (js_up s 5 n 1 6 (ix (js_up s 5 n 1 9 (ix doc))) + 1)) 7 n doc
def jc_mkF (L : js_S → Int32 → Int32 → Int32 → js_S) (s : js_S) (n : Nat) (url step : Int32) : js_S :=
  jc_addEntry (L s (nI n) (jc_fd s 4 url) step) (nI n) step (jc_fd s 4 url) 0 (nI (js_free s 8 39 0))
def jc_mkFrame (L : js_S → Int32 → Int32 → Int32 → js_S) (s : js_S) (doc url step : Int32) : js_S :=
  jc_mkF L (jc_mk0 s (js_free s 5 38 1) doc) (js_free s 5 38 1) url step
def jc_mf1 (L : js_S → Int32 → Int32 → Int32 → js_S) (s : js_S) (doc a step : Int32) : js_S := js_up (jc_mkFrame L s doc (s 1 (ix a)) step) 12 (ix doc) (nI (js_free s 5 38 1))
def jc_mf2 (L : js_S → Int32 → Int32 → Int32 → js_S) (s : js_S) (doc a step : Int32) : js_S :=
  if jc_mkFrame L s doc (s 2 (ix a)) step 12 (ix doc) = -1 then js_up (jc_mkFrame L s doc (s 2 (ix a)) step) 12 (ix doc) (nI (js_free s 5 38 1)) else js_up (jc_mkFrame L s doc (s 2 (ix a)) step) 13 (ix doc) (nI (js_free s 5 38 1))
def jc_room (s : js_S) (doc : Int32) : Int32 := 2 - s 6 (ix (s 9 (ix doc)))
def jc_mfB (L : js_S → Int32 → Int32 → Int32 → js_S) (s : js_S) (doc a step room : Int32) : js_S :=
  if room ≤ 0 then s else if s 2 (ix a) = -2 then s else jc_mf2 L s doc a step
def jc_mkFrames (L : js_S → Int32 → Int32 → Int32 → js_S) (s : js_S) (doc a step : Int32) : js_S :=
  if jc_room s doc ≤ 0 then jc_mfB L s doc a step (jc_room s doc)
  else if s 1 (ix a) = -2 then jc_mfB L s doc a step (jc_room s doc)
  else jc_mfB L (jc_mf1 L s doc a step) doc a step (jc_room s doc + -1)
def jc_boxed (s : js_S) (above : Int32) : Int32 := if above = -1 then 0 else if s 11 (ix above) = 0 then 0 else 1
def jc_bx (s : js_S) (a boxed : Int32) : Int32 := if s 3 (ix a) = 0 then (if boxed = 0 then 0 else 1) else 1
/-- a blank document in row i -/
def jc_ldA (s : js_S) (i : Nat) (above boxed : Int32) : js_S :=
  if above = -1 then jc_opq (js_up s 11 i boxed) i else if boxed = 0 then js_up (js_up s 11 i boxed) 10 i (js_up s 11 i boxed 10 (ix above)) else jc_opq (js_up s 11 i boxed) i
/-- a document with content in row i, ahead of its frames -/
def jc_ldC (s : js_S) (i : Nat) (url bx : Int32) : js_S :=
  if js_up s 11 i bx 11 i = 0 then js_up (js_up s 11 i bx) 10 i (url / 64) else jc_opq (js_up s 11 i bx) i
def jc_ldU (L : js_S → Int32 → Int32 → Int32 → js_S) (s : js_S) (i : Nat) (url step boxed : Int32) : js_S :=
  if s 0 (ix (url / 8)) = nI 0 then jc_mkFrames L (jc_ldC s i url (jc_bx s (url / 8) boxed)) (nI i) (url / 8) step else jc_opq (js_up s 11 i 0) i
def jc_loadB (L : js_S → Int32 → Int32 → Int32 → js_S) (s : js_S) (owner url step : Int32) : js_S :=
  if url = -1 then jc_ldA (jc_freeDoc s owner) (js_free s 8 39 0) (s 7 (ix owner)) (jc_boxed s (s 7 (ix owner)))
  else jc_ldU L (jc_freeDoc s owner) (js_free s 8 39 0) url step (jc_boxed s (s 7 (ix owner)))
def jc_load : Nat → js_S → Int32 → Int32 → Int32 → js_S
  | 0 => jc_loadB (fun s _ _ _ => s)
  | d + 1 => jc_loadB (jc_load d)
-- dropping
def jc_kd1 (s : js_S) : Nat → js_S
  | 0 => s
  | i + 1 => js_up (jc_kd1 s i) 8 i 0
def jc_kd2 (s : js_S) : Nat → js_S
  | 0 => s
  | i + 1 => if jc_kd2 s i 14 i ≠ 0 then js_up (jc_kd2 s i) 8 (ix (jc_kd2 s i 19 i)) 1 else jc_kd2 s i
def jc_keepDocs (s : js_S) : js_S := jc_kd2 (jc_kd1 s 40) 40
def jc_df (s : js_S) : Nat → js_S
  | 0 => s
  | i + 1 => if jc_df s i 7 i ≠ -1 ∧ jc_df s i 8 (ix (jc_df s i 7 i)) = 0 then js_up (jc_df s i) 5 i 0 else jc_df s i
def jc_de (s : js_S) : Nat → js_S
  | 0 => s
  | i + 1 => if jc_de s i 14 i ≠ 0 ∧ jc_de s i 5 (ix (jc_de s i 15 i)) = 0 then js_up (jc_de s i) 14 i 0 else jc_de s i
def jc_round (s : js_S) : js_S := jc_de (jc_df (jc_keepDocs s) 40) 40
def jc_gone (s : js_S) : js_S := jc_round (jc_round (jc_round s))
def jc_dl (s : js_S) : Nat → js_S
  | 0 => s
  | i + 1 => if ¬ jc_dl s i 16 i ≤ jc_dl s i 21 0 then js_up (jc_dl s i) 14 i 0 else jc_dl s i
def jc_dropLater (s : js_S) : js_S := jc_gone (jc_dl s 40)
def jc_lt (s : js_S) : Nat → Int32
  | 0 => 0
  | i + 1 => if s 14 i ≠ 0 ∧ ¬ s 21 0 < s 16 i ∧ ¬ s 16 i ≤ jc_lt s i then s 16 i else jc_lt s i
def jc_settle (s : js_S) : js_S := js_up s 21 0 (jc_lt s 40)
def jc_takeOut (s : js_S) (n : Int32) : js_S :=
  let a := s 7 (ix n)
  if a = -1 then s else
    let s1 := if s 12 (ix a) = n then js_up s 12 (ix a) (s 13 (ix a)) else s
    js_up (js_up s1 13 (ix a) (-1)) 5 (ix n) 0
def jc_putEntry (s : js_S) (e url state doc push : Int32) : js_S :=
  if push ≠ 0 then
    let s1 := js_up s 21 0 (s 21 0 + 1)
    jc_addEntry s1 (s1 15 (ix e)) (s1 21 0) url state doc
  else jc_settle (jc_gone (js_up (js_up (js_up s 17 (ix e) url) 18 (ix e) state) 19 (ix e) doc))
-- used steps
/-- from at downwards: the place behind the last one that is not greater -/
def jc_at (s : js_S) (st : Int32) : Nat → Nat
  | 0 => 0
  | k + 1 => if s 20 k ≤ st then k + 1 else jc_at s st k
def jc_sh (s : js_S) (at_ : Nat) : Nat → js_S
  | 0 => s
  | k + 1 => if at_ < k + 1 then jc_sh (js_up s 20 (k + 1) (s 20 k)) at_ k else s
def jc_insQ (s : js_S) (st : Int32) (n : Nat) : Bool := decide (0 < jc_at s st n ∧ s 20 (jc_at s st n - 1) = st)
def jc_ins (s : js_S) (st : Int32) (n : Nat) : js_S := js_up (jc_sh s (jc_at s st n) n) 20 (jc_at s st n) st
def jc_insS (s : js_S) (st : Int32) (n : Nat) : js_S := if jc_insQ s st n = true then s else jc_ins s st n
def jc_insN (s : js_S) (st : Int32) (n : Nat) : Nat := if jc_insQ s st n = true then n else n + 1
/-- the used steps of the first i rows are collected: the store, how many -/
def jc_cu (s : js_S) : Nat → js_S × Nat
  | 0 => (s, 0)
  | i + 1 => if (jc_cu s i).1 14 i = 0 then jc_cu s i else (jc_insS (jc_cu s i).1 ((jc_cu s i).1 16 i) (jc_cu s i).2, jc_insN (jc_cu s i).1 ((jc_cu s i).1 16 i) (jc_cu s i).2)
def jc_place (s : js_S) : Nat → Nat → Nat
  | 0, i => i
  | k + 1, i => if s 21 0 ≤ s 20 i then i else jc_place s k (i + 1)
def jc_mv1 (s : js_S) (x y : Int32) : js_S := if jc_frag (s 17 (ix x)) = jc_frag (s 17 (ix y)) then s else js_up s 23 0 (s 23 0 + 1)
def jc_move (s : js_S) (x y : Int32) : js_S :=
  if x = -1 ∨ y = -1 ∨ x = y ∨ s 19 (ix x) ≠ s 19 (ix y) then s else jc_mv1 (js_up s 22 0 (s 22 0 + 1)) x y
def jc_mv (s : js_S) (st : Int32) : Nat → js_S
  | 0 => s
  | i + 1 => jc_move (jc_mv s st i) (jc_shownEntry (jc_mv s st i) (nI i) (jc_mv s st i 21 0)) (jc_shownEntry (jc_mv s st i) (nI i) st)
-- the public methods: answer and store
def jc_content (s : js_S) (page a b strict : Int32) : Int32 × js_S :=
  if jc_isPage page = 0 ∨ jc_isFC a = 0 ∨ jc_isFC b = 0 then (0, s)
  else (1, js_up (js_up (js_up (js_up s 0 (ix page) (nI 0)) 1 (ix page) a) 2 (ix page) b) 3 (ix page) strict)
def jc_detour (s : js_S) (page url : Int32) : Int32 × js_S :=
  if jc_isPage page = 0 ∨ jc_isUrl url = 0 then (0, s) else (1, js_up (js_up s 0 (ix page) (nI 1)) 4 (ix page) url)
def jc_fault (s : js_S) (page : Int32) : Int32 × js_S := if jc_isPage page = 0 then (0, s) else (1, js_up s 0 (ix page) (nI 2))
def jc_full (s : js_S) (push : Int32) : Int32 := if nI (jc_cntE s (if push = 0 then 2147483647 else s 21 0) 40) < 36 then 0 else 1
def jc_ld (s : js_S) (o url step : Int32) : js_S := jc_load (2 - ix (s 6 (ix o))) s o url step
def jc_push (rep url old : Int32) : Int32 := if rep = 0 then (if url = old then 0 else 1) else 0
def jc_stp (s : js_S) (e b : Int32) : Int32 := if b = 0 then s 16 (ix e) else s 21 0 + 1
def jc_nv1 (s : js_S) (e url b : Int32) : js_S := jc_putEntry s e url 0 (s 19 (ix e)) b
def jc_nv2 (s : js_S) (e url b : Int32) : js_S := jc_putEntry (jc_ld s (s 15 (ix e)) (jc_fd s 4 url) (jc_stp s e b)) e (jc_fd s 4 url) 0 (nI (js_free s 8 39 0)) b
def jc_nav (s : js_S) (e url b : Int32) : js_S :=
  if jc_isFM (s 17 (ix e)) url = 0 then jc_nv2 s e url b
  else jc_nv1 (if url = s 17 (ix e) then s else js_up s 23 0 (s 23 0 + 1)) e url b
def jc_nvF (s : js_S) (e url b : Int32) : Int32 × js_S :=
  if jc_full s b = 0 then (if b = 0 then (jc_nav s e url b 21 0, jc_nav s e url b) else (jc_nav (jc_dropLater s) e url b 21 0, jc_nav (jc_dropLater s) e url b)) else (-5, s)
def jc_navigate (s : js_S) (n url rep : Int32) : Int32 × js_S :=
  if jc_isUB url = 0 then (-3, s) else
  if jc_shownEntry s n (s 21 0) = -1 then (-4, s) else
  jc_nvF s (jc_shownEntry s n (s 21 0)) url (jc_push rep url (s 17 (ix (jc_shownEntry s n (s 21 0)))))
def jc_rew (s : js_S) (e url state push : Int32) : js_S := jc_putEntry s e (if url = -1 then s 17 (ix e) else url) state (s 19 (ix e)) push
def jc_rewrite (s : js_S) (n url state push : Int32) : Int32 × js_S :=
  if jc_isUB url = 0 then (-3, s) else
  if jc_shownEntry s n (s 21 0) = -1 then (-4, s) else
  if url ≠ -1 ∧ jc_mayR (s 17 (ix (jc_shownEntry s n (s 21 0)))) url = 0 then (-6, s) else
  if jc_full s push ≠ 0 then (-5, s) else
  if push ≠ 0 then (jc_rew (jc_dropLater s) (jc_shownEntry s n (s 21 0)) url state push 21 0, jc_rew (jc_dropLater s) (jc_shownEntry s n (s 21 0)) url state push)
  else (jc_rew s (jc_shownEntry s n (s 21 0)) url state push 21 0, jc_rew s (jc_shownEntry s n (s 21 0)) url state push)
def jc_aim (s : js_S) (k : Nat) (delta : Int32) : Int64 := (nI (jc_place s (k - 1) 0)).toInt64 + delta.toInt64
def jc_go2 (s : js_S) (t : Int32) : js_S := js_up (jc_mv s t 40) 21 0 t
def jc_go1 (s : js_S) (k : Nat) (delta : Int32) : Int32 × js_S :=
  if lg_cmp (jc_aim s k delta) 0 < 0 then (-7, s) else
  if lg_cmp (jc_aim s k delta) (nI k).toInt64 < 0 then (s 20 (ix (jc_aim s k delta).toInt32), jc_go2 s (s 20 (ix (jc_aim s k delta).toInt32)))
  else (-7, s)
def jc_go (s : js_S) (delta : Int32) : Int32 × js_S := jc_go1 (jc_cu s 40).1 (jc_cu s 40).2 delta
def jc_detach (s : js_S) (n : Int32) : Int32 × js_S :=
  if n = 0 then (-3, s) else if jc_shownEntry s n (s 21 0) = -1 then (-4, s) else
  (jc_settle (jc_gone (jc_takeOut s (s 15 (ix (jc_shownEntry s n (s 21 0)))))) 21 0, jc_settle (jc_gone (jc_takeOut s (s 15 (ix (jc_shownEntry s n (s 21 0)))))))
def jc_url (s : js_S) (n : Int32) : Int32 := if jc_shownEntry s n (s 21 0) = -1 then -4 else s 17 (ix (jc_shownEntry s n (s 21 0)))
def jc_state (s : js_S) (n : Int32) : Int64 := if jc_shownEntry s n (s 21 0) = -1 then 1099511627776 else (s 18 (ix (jc_shownEntry s n (s 21 0)))).toInt64
def jc_step (s : js_S) (n : Int32) : Int32 := if jc_shownEntry s n (s 21 0) = -1 then -4 else s 16 (ix (jc_shownEntry s n (s 21 0)))
def jc_origin (s : js_S) (n : Int32) : Int32 := if jc_shownEntry s n (s 21 0) = -1 then -4 else s 10 (ix (s 19 (ix (jc_shownEntry s n (s 21 0)))))
def jc_numOf (x : Int32) : Int32 := if x = -1 then -7 else x
def jc_frame (s : js_S) (n k : Int32) : Int32 :=
  if jc_shownEntry s n (s 21 0) = -1 then -4 else if k = 0 then jc_numOf (s 12 (ix (s 19 (ix (jc_shownEntry s n (s 21 0)))))) else if k = 1 then jc_numOf (s 13 (ix (s 19 (ix (jc_shownEntry s n (s 21 0)))))) else -7
def jc_entries (s : js_S) (n : Int32) : Int32 := if jc_shownEntry s n (s 21 0) = -1 then -4 else nI (jc_cntO s (s 15 (ix (jc_shownEntry s n (s 21 0)))) 40)
def jc_length (s : js_S) : Int32 × js_S := (nI (jc_cu s 40).2, (jc_cu s 40).1)
def jc_count (s : js_S) (k : Int32) : Int32 :=
  if k = 0 then nI (jc_cntS s (s 21 0) 40) else if k = 1 then nI (jc_cntN s 40) else if k = 2 then nI (jc_cntE s 2147483647 40) else if k = 3 then s 22 0 else if k = 4 then s 23 0 else if k = 5 then s 24 0 else -7
