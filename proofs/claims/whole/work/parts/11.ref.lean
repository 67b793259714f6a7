/-! The reference as functions of a store: array number (or field), row -> value. -/
def jm_frag (x : Int32) : Int32 := if x = -1 then 0 else x - x / 8 * 8
def jm_btw (v lo hi : Int32) : Int32 := js_b (lo ≤ v ∧ v ≤ hi)
def jm_content (s : js_S) (page a b strict : Int32) : Int32 × js_S :=
  if jm_btw page 0 31 = 0 ∨ jm_btw a (-2) 255 = 0 ∨ jm_btw b (-2) 255 = 0 then (0, s)
  else (1, js_up (js_up (js_up (js_up s 0 (ix page) 0) 1 (ix page) a) 2 (ix page) b) 3 (ix page) strict)
def jm_detour (s : js_S) (page url : Int32) : Int32 × js_S :=
  if jm_btw page 0 31 = 0 ∨ jm_btw url 0 255 = 0 then (0, s) else (1, js_up (js_up s 0 (ix page) 1) 1 (ix page) url)
def jm_fault (s : js_S) (page : Int32) : Int32 × js_S := if jm_btw page 0 31 = 0 then (0, s) else (1, js_up s 0 (ix page) 2)
/-- a new opaque origin for the document d -/
def jm_opq (s : js_S) (d : Nat) : js_S := js_up (js_up s 22 0 (s 22 0 + 1)) 11 d (3 + (s 22 0 + 1))
def jm_fd (s : js_S) : Nat → js_S
  | 0 => s
  | k + 1 => if s 0 (ix (s 25 0 / 8)) = 1 then jm_fd (js_up s 25 0 (if s 1 (ix (s 25 0 / 8)) - s 1 (ix (s 25 0 / 8)) / 8 * 8 = 0 then s 1 (ix (s 25 0 / 8)) + (s 25 0 - s 25 0 / 8 * 8) else s 1 (ix (s 25 0 / 8)))) k else s
def jm_mk0 (s : js_S) (d : Nat) : js_S := js_up (js_up (js_up s 10 d 1) 13 d (-1)) 14 d (-1)
def jm_under (s : js_S) (nav : Int32) : Int32 := js_b (0 ≤ s 16 (ix nav) ∧ s 12 (ix (s 16 (ix nav))) ≠ 0)
def jm_mk1 (s : js_S) (d : Nat) (under : Int32) : js_S :=
  if s 0 (ix (s 25 0 / 8)) ≠ 0 then jm_opq (js_up s 12 d 0) d
  else if under ≠ 0 ∨ s 3 (ix (s 25 0 / 8)) ≠ 0 then jm_opq (js_up s 12 d 1) d
  else js_up (js_up s 12 d 0) 11 d (s 25 0 / 64)
def jm_mkB (s : js_S) (d : Nat) (nav url under : Int32) : js_S :=
  if url = -1 then
    (if 0 ≤ s 16 (ix nav) ∧ under = 0 then js_up s 11 d (s 11 (ix (s 16 (ix nav)))) else jm_opq s d)
  else jm_mk1 (jm_fd s 4) d under
/-- make: the document's row is js_free s there 47 0 -/
def jm_make (s : js_S) (nav url : Int32) : js_S :=
  jm_mkB (js_up (js_up (jm_mk0 s (js_free s 10 47 0)) 25 0 url) 12 (js_free s 10 47 0) (jm_under (jm_mk0 s (js_free s 10 47 0)) nav)) (js_free s 10 47 0) nav url (jm_under (jm_mk0 s (js_free s 10 47 0)) nav)
def jm_wr (s : js_S) (e : Nat) (nav step url d : Int32) : js_S :=
  js_up (js_up (js_up (js_up (js_up (js_up s 9 e 1) 4 e nav) 5 e step) 6 e url) 7 e 0) 8 e d
def jm_write (s : js_S) (nav step url d : Int32) : js_S := jm_wr s (js_free s 9 47 0) nav step url d
def jm_ff0 (s : js_S) (d : Int32) (nav : Nat) : js_S :=
  if js_up (js_up s 15 nav 1) 16 nav d 13 (ix d) < 0 then js_up (js_up (js_up s 15 nav 1) 16 nav d) 13 (ix d) (nI nav) else js_up (js_up (js_up s 15 nav 1) 16 nav d) 14 (ix d) (nI nav)
/-- frameFor: the navigable's row is js_free s exists 46 1 -/
def jm_frameFor (s : js_S) (d url step : Int32) : js_S :=
  jm_write (jm_make (jm_ff0 s d (js_free s 15 46 1)) (nI (js_free s 15 46 1)) url) (nI (js_free s 15 46 1)) step (jm_make (jm_ff0 s d (js_free s 15 46 1)) (nI (js_free s 15 46 1)) url 25 0) (nI (js_free (jm_ff0 s d (js_free s 15 46 1)) 10 47 0))
/-- paperOf from row e on, k rows more -/
def jm_po (s : js_S) (nav : Int32) : Nat → Nat → Int32
  | 0, _ => -1
  | k + 1, e => if s 9 e ≠ 0 ∧ s 4 e = nav then s 8 e else jm_po s nav k (e + 1)
def jm_wanted (s : js_S) (url k most : Int32) : Int32 :=
  if url = -1 ∨ s 0 (ix (url / 8)) ≠ 0 ∨ most ≤ k then -2
  else if k = 0 then (if s 1 (ix (url / 8)) = -2 then s 2 (ix (url / 8)) else s 1 (ix (url / 8)))
  else (if s 1 (ix (url / 8)) = -2 then -2 else s 2 (ix (url / 8)))
def jm_lm (s : js_S) (d step : Int32) : js_S :=
  js_up (if jm_wanted s (s 25 0) 0 1 ≠ -2 then jm_frameFor s d (jm_wanted s (s 25 0) 0 1) step else s) 25 0 (s 25 0)
def jm_loadMiddle (s : js_S) (nav url step : Int32) : js_S := jm_lm (jm_make s nav url) (nI (js_free s 10 47 0)) step
def jm_lwi (s : js_S) (f step : Int32) : js_S :=
  if jm_wanted s (s 25 0) 0 1 ≠ -2 then jm_frameFor s (jm_po s f 48 0) (jm_wanted s (s 25 0) 0 1) step else s
def jm_lw (s : js_S) (d to step k : Int32) : js_S :=
  if jm_wanted s to k 2 ≠ -2 then jm_lwi (jm_frameFor s d (jm_wanted s to k 2) step) (nI (js_free s 15 46 1)) step else s
def jm_loadWindow (s : js_S) (url step : Int32) : js_S :=
  js_up (jm_lw (jm_lw (jm_make s 0 url) (nI (js_free s 10 47 0)) (jm_make s 0 url 25 0) step 0) (nI (js_free s 10 47 0)) (jm_make s 0 url 25 0) step 1) 25 0 (jm_make s 0 url 25 0)
/-- deep, from row e on: 1 or 2 -/
def jm_dp (s : js_S) (a : Int32) : Nat → Nat → Int32
  | 0, _ => 2
  | k + 1, e => if s 9 e ≠ 0 ∧ s 4 e = 0 ∧ s 8 e = a then 1 else jm_dp s a k (e + 1)
def jm_deep (s : js_S) (nav : Int32) : Int32 := if nav = 0 then 0 else jm_dp s (s 16 (ix nav)) 48 0
def jm_load (s : js_S) (nav url step : Int32) : js_S :=
  if jm_deep s nav = 0 then jm_loadWindow s url step else if jm_deep s nav = 1 then jm_loadMiddle s nav url step else jm_make s nav url
def jm_keep (s : js_S) (n : Int32) : js_S := if 0 ≤ n then js_up s 20 (ix n) 1 else s
def jm_m0 (s : js_S) : Nat → js_S
  | 0 => s
  | k + 1 => js_up (js_up (js_up (jm_m0 s k) 19 k 0) 20 k (js_b (k = 0))) 17 k (js_b (k = 0))
def jm_me (s : js_S) (e : Nat) : js_S :=
  if s 9 e ≠ 0 ∧ s 20 (ix (s 4 e)) ≠ 0 then
    jm_keep (jm_keep (js_up s 19 (ix (s 8 e)) 1) (js_up s 19 (ix (s 8 e)) 1 13 (ix (s 8 e)))) (jm_keep (js_up s 19 (ix (s 8 e)) 1) (js_up s 19 (ix (s 8 e)) 1 13 (ix (s 8 e))) 14 (ix (s 8 e)))
  else s
def jm_m1 (s : js_S) : Nat → js_S
  | 0 => s
  | e + 1 => jm_me (jm_m1 s e) e
def jm_m2 (s : js_S) : Nat → js_S
  | 0 => s
  | k + 1 => js_up (js_up (js_up (jm_m2 s k) 15 k (js_b (jm_m2 s k 15 k ≠ 0 ∧ jm_m2 s k 20 k ≠ 0))) 10 k (js_b (jm_m2 s k 10 k ≠ 0 ∧ jm_m2 s k 19 k ≠ 0))) 9 k (js_b (jm_m2 s k 9 k ≠ 0 ∧ jm_m2 s k 20 (ix (jm_m2 s k 4 k)) ≠ 0))
/-- presentOf, over the first e rows: the best row, its step -/
def jm_pr (s : js_S) (nav : Int32) : Nat → Int32 × Int32
  | 0 => (0, -1)
  | e + 1 => if s 9 e ≠ 0 ∧ s 4 e = nav ∧ s 5 e ≤ s 21 0 ∧ (jm_pr s nav e).2 < s 5 e then (nI e, s 5 e) else jm_pr s nav e
def jm_presentOf (s : js_S) (nav : Int32) : Int32 := (jm_pr s nav 48).1
def jm_show (s : js_S) (d : Int32) : js_S :=
  let s1 := if 0 ≤ s 13 (ix d) then js_up s 17 (ix (s 13 (ix d))) 1 else s
  if 0 ≤ s1 14 (ix d) then js_up s1 17 (ix (s1 14 (ix d))) 1 else s1
def jm_m3 (s : js_S) : Nat → js_S
  | 0 => s
  | n + 1 => if jm_m3 s n 17 n ≠ 0 then jm_show (jm_m3 s n) (jm_m3 s n 8 (ix (jm_presentOf (jm_m3 s n) (nI n)))) else jm_m3 s n
def jm_mark (s : js_S) : js_S :=
  let a := jm_m1 (jm_m1 (jm_m1 (jm_m0 s 48) 48) 48) 48
  jm_m3 (jm_m3 (jm_m3 (jm_m2 a 48) 48) 48) 48
def jm_isShown (s : js_S) (n : Int32) : Int32 := js_b (0 ≤ n ∧ n ≤ 47 ∧ s 17 (ix n) ≠ 0)
def jm_us (s : js_S) (st : Int32) : Nat → Nat → Int32
  | 0, _ => 0
  | k + 1, e => if s 9 e ≠ 0 ∧ s 5 e = st then 1 else jm_us s st k (e + 1)
def jm_used (s : js_S) (st : Int32) : Int32 := jm_us s st 48 0
/-- settle's loop, at most k times -/
def jm_st (s : js_S) : Nat → js_S
  | 0 => s
  | k + 1 => if 0 < s 21 0 ∧ jm_used s (s 21 0) = 0 then jm_st (js_up s 21 0 (s 21 0 - 1)) k else s
def jm_settle (s : js_S) : js_S := jm_mark (jm_st s (ix (s 21 0)))
def jm_fu (s : js_S) (push : Int32) : Nat → Nat
  | 0 => 0
  | e + 1 => if s 9 e ≠ 0 ∧ (push = 0 ∨ s 5 e ≤ s 21 0) then jm_fu s push e + 1 else jm_fu s push e
def jm_full (s : js_S) (push : Int32) : Int32 := js_b (36 ≤ jm_fu s push 48)
def jm_co (s : js_S) : Nat → js_S
  | 0 => s
  | e + 1 => js_up (jm_co s e) 9 e (js_b (jm_co s e 9 e ≠ 0 ∧ jm_co s e 5 e ≤ jm_co s e 21 0))
def jm_cutOff (s : js_S) : js_S := jm_mark (jm_co s 48)
def jm_fin (s : js_S) (e to state p : Int32) : js_S := jm_settle (jm_mark (js_up (js_up (js_up s 6 (ix e) to) 7 (ix e) state) 8 (ix e) p))
def jm_en2 (s : js_S) (n e to state p push : Int32) : js_S :=
  if push ≠ 0 then
    let s1 := js_up s 21 0 (s 21 0 + 1)
    jm_fin (jm_write s1 n (s1 21 0) to p) (nI (js_free s1 9 47 0)) to state p
  else jm_fin s e to state p
def jm_en1 (s : js_S) (n e url state push d : Int32) : js_S :=
  if d < 0 then
    let s1 := jm_load s n url (if push ≠ 0 then s 21 0 + 1 else s 5 (ix e))
    jm_en2 s1 n e (s1 25 0) state (nI (js_free s 10 47 0)) push
  else jm_en2 s n e url state d push
def jm_enter (s : js_S) (n url state push d : Int32) : js_S :=
  if push ≠ 0 then jm_en1 (jm_cutOff s) n (jm_presentOf (jm_cutOff s) n) url state push d else jm_en1 s n (jm_presentOf s n) url state push d
def jm_within (old url : Int32) : Int32 := js_b (url ≠ -1 ∧ jm_frag url ≠ 0 ∧ old ≠ -1 ∧ old / 8 = url / 8)
def jm_nav (s : js_S) (n url e push : Int32) : js_S :=
  let w := jm_within (s 6 (ix e)) url
  let s1 := if w ≠ 0 ∧ url ≠ s 6 (ix e) then js_up s 24 0 (s 24 0 + 1) else s
  jm_enter s1 n url 0 push (if w ≠ 0 then s1 8 (ix e) else -1)
def jm_navigate (s : js_S) (n url rep : Int32) : Int32 × js_S :=
  if jm_btw url (-1) 255 = 0 then (-3, s) else
  if jm_isShown s n = 0 then (-4, s) else
  if jm_full s (js_b (rep = 0 ∧ url ≠ s 6 (ix (jm_presentOf s n)))) ≠ 0 then (-5, s) else
  (jm_nav s n url (jm_presentOf s n) (js_b (rep = 0 ∧ url ≠ s 6 (ix (jm_presentOf s n)))) 21 0, jm_nav s n url (jm_presentOf s n) (js_b (rep = 0 ∧ url ≠ s 6 (ix (jm_presentOf s n)))))
def jm_rew (s : js_S) (n url state push e : Int32) : js_S := jm_enter s n (if url = -1 then s 6 (ix e) else url) state push (s 8 (ix e))
def jm_forb (old url : Int32) : Bool := decide (url ≠ -1 ∧ (old = -1 ∨ old / 64 ≠ url / 64 ∨ (old / 64 = 3 ∧ old / 8 ≠ url / 8)))
def jm_rewrite (s : js_S) (n url state push : Int32) : Int32 × js_S :=
  if jm_btw url (-1) 255 = 0 then (-3, s) else
  if jm_isShown s n = 0 then (-4, s) else
  if jm_forb (s 6 (ix (jm_presentOf s n))) url = true then (-6, s) else
  if jm_full s push ≠ 0 then (-5, s) else
  (jm_rew s n url state push (jm_presentOf s n) 21 0, jm_rew s n url state push (jm_presentOf s n))
def jm_cu (s : js_S) : Nat → Nat
  | 0 => 0
  | k + 1 => if jm_used s (nI k) ≠ 0 then jm_cu s k + 1 else jm_cu s k
def jm_sa (s : js_S) (n : Int64) : Nat → Nat → Nat → Int32
  | 0, _, _ => -1
  | k + 1, t, b => if jm_used s (nI t) ≠ 0 then (if lN b = n then nI t else jm_sa s n k (t + 1) (b + 1)) else jm_sa s n k (t + 1) b
def jm_stepAt (s : js_S) (n : Int64) : Int32 := jm_sa s n 601 0 0
def jm_g1 (s : js_S) : Nat → js_S
  | 0 => s
  | n + 1 => js_up (jm_g1 s n) 18 n (if jm_g1 s n 17 n ≠ 0 then jm_presentOf (jm_g1 s n) (nI n) else -1)
def jm_gm (s : js_S) (e t : Int32) : js_S :=
  if 0 ≤ e ∧ 0 ≤ t ∧ e ≠ t ∧ s 8 (ix e) = s 8 (ix t) then
    js_up (js_up s 23 0 (s 23 0 + 1)) 24 0 (if jm_frag (s 6 (ix e)) = jm_frag (s 6 (ix t)) then s 24 0 else s 24 0 + 1)
  else s
def jm_g2 (s : js_S) : Nat → js_S
  | 0 => s
  | n + 1 => jm_gm (jm_g2 s n) (if jm_g2 s n 17 n ≠ 0 then jm_presentOf (jm_g2 s n) (nI n) else -1) (jm_g2 s n 18 n)
def jm_go (s : js_S) (delta : Int32) : Int32 × js_S :=
  let to := jm_stepAt s (lN (jm_cu s (ix (s 21 0))) + delta.toInt64)
  if to < 0 then (-7, s) else
    let s2 := jm_g2 (jm_mark (js_up (jm_g1 s 48) 21 0 to)) 48
    (s2 21 0, s2)
def jm_tk (s : js_S) (n : Int32) : js_S :=
  let d := s 16 (ix n)
  let s1 := if s 13 (ix d) = n then js_up s 13 (ix d) (s 14 (ix d)) else s
  js_up s1 14 (ix d) (-1)
def jm_detach (s : js_S) (n : Int32) : Int32 × js_S :=
  if n = 0 then (-3, s) else if jm_isShown s n = 0 then (-4, s) else
  (jm_settle (jm_mark (jm_tk s n)) 21 0, jm_settle (jm_mark (jm_tk s n)))
def jm_url (s : js_S) (n : Int32) : Int32 := if jm_isShown s n ≠ 0 then s 6 (ix (jm_presentOf s n)) else -4
def jm_state (s : js_S) (n : Int32) : Int64 := if jm_isShown s n ≠ 0 then (s 7 (ix (jm_presentOf s n))).toInt64 else 1099511627776
def jm_step (s : js_S) (n : Int32) : Int32 := if jm_isShown s n ≠ 0 then s 5 (ix (jm_presentOf s n)) else -4
def jm_origin (s : js_S) (n : Int32) : Int32 := if jm_isShown s n ≠ 0 then s 11 (ix (s 8 (ix (jm_presentOf s n)))) else -4
def jm_frame (s : js_S) (n k : Int32) : Int32 :=
  if jm_isShown s n = 0 then -4 else
    let d := s 8 (ix (jm_presentOf s n))
    let f := if k = 0 then s 13 (ix d) else if k = 1 then s 14 (ix d) else -1
    if f < 0 then -7 else f
def jm_cntO (s : js_S) (o : Int32) : Nat → Nat
  | 0 => 0
  | e + 1 => if s 9 e ≠ 0 ∧ s 4 e = o then jm_cntO s o e + 1 else jm_cntO s o e
def jm_entries (s : js_S) (n : Int32) : Int32 := if jm_isShown s n ≠ 0 then nI (jm_cntO s n 48) else -4
def jm_length (s : js_S) : Int32 := nI (jm_cu s 601)
def jm_cntF (s : js_S) (f : Nat) : Nat → Nat
  | 0 => 0
  | i + 1 => if s f i ≠ 0 then jm_cntF s f i + 1 else jm_cntF s f i
def jm_count (s : js_S) (k : Int32) : Int32 :=
  if k = 0 then nI (jm_cntF s 17 48) else if k = 1 then nI (jm_cntF s 15 48) else if k = 2 then nI (jm_cntF s 9 48) else if k = 3 then s 23 0 else if k = 4 then s 24 0 else if k = 5 then s 22 0 else -7
