/-! The reference as functions of a store: array number (or field), row -> value. -/
def jm_frag (x : Int32) : Int32 := if x = -1 then 0 else x - x / 8 * 8
def jm_btw (v lo hi : Int32) : Int32 := if v < lo then 0 else if hi < v then 0 else 1
def jm_content (s : js_S) (page a b strict : Int32) : Int32 × js_S :=
  if jm_btw page 0 31 = 0 ∨ jm_btw a (-2) 255 = 0 ∨ jm_btw b (-2) 255 = 0 then (0, s)
  else (1, js_up (js_up (js_up (js_up s 0 (ix page) 0) 1 (ix page) a) 2 (ix page) b) 3 (ix page) strict)
def jm_detour (s : js_S) (page url : Int32) : Int32 × js_S :=
  if jm_btw page 0 31 = 0 ∨ jm_btw url 0 255 = 0 then (0, s) else (1, js_up (js_up s 0 (ix page) 1) 1 (ix page) url)
def jm_fault (s : js_S) (page : Int32) : Int32 × js_S := if jm_btw page 0 31 = 0 then (0, s) else (1, js_up s 0 (ix page) 2)
/-- a new opaque origin for the document d -/
def jm_opq (s : js_S) (d : Nat) : js_S := js_up (js_up s 22 0 (s 22 0 + 1)) 11 d (3 + (s 22 0 + 1))
def jm_fd (s : js_S) : Nat → js_S
  | 0 => s
  | k + 1 => if s 0 (ix (s 25 0 / 8)) = 1 then jm_fd (js_up s 25 0 (if s 1 (ix (s 25 0 / 8)) - s 1 (ix (s 25 0 / 8)) / 8 * 8 = 0 then s 1 (ix (s 25 0 / 8)) + (s 25 0 - s 25 0 / 8 * 8) else s 1 (ix (s 25 0 / 8)))) k else s
def jm_mk0 (s : js_S) (d : Nat) : js_S := js_up (js_up (js_up s 10 d 1) 13 d (-1)) 14 d (-1)
def jm_under (s : js_S) (nav : Int32) : Int32 := if s 16 (ix nav) < 0 then 0 else if s 12 (ix (s 16 (ix nav))) = 0 then 0 else 1
def jm_mb (s : js_S) (under : Int32) : Int32 := if under = 0 then (if s 3 (ix (s 25 0 / 8)) = 0 then 0 else 1) else 1
def jm_mkC (s : js_S) (d : Nat) (b : Int32) : js_S :=
  if js_up s 12 d b 12 d = 0 then js_up (js_up s 12 d b) 11 d (js_up s 12 d b 25 0 / 64) else jm_opq (js_up s 12 d b) d
def jm_mk1 (s : js_S) (d : Nat) (under : Int32) : js_S :=
  if s 0 (ix (s 25 0 / 8)) = 0 then jm_mkC s d (jm_mb s under) else jm_opq (js_up s 12 d 0) d
def jm_mkA (s : js_S) (d : Nat) (up under : Int32) : js_S := if up < 0 then jm_opq s d else if under = 0 then js_up s 11 d (s 11 (ix up)) else jm_opq s d
def jm_mkB (s : js_S) (d : Nat) (up url under : Int32) : js_S := if url = -1 then jm_mkA s d up under else jm_mk1 (jm_fd s 4) d under
def jm_mkS (s : js_S) (d : Nat) (url under : Int32) : js_S := js_up (js_up s 25 0 url) 12 d under
/-- make: the document's row is js_free s there 47 0 -/
def jm_make (s : js_S) (nav url : Int32) : js_S :=
  jm_mkB (jm_mkS (jm_mk0 s (js_free s 10 47 0)) (js_free s 10 47 0) url (jm_under (jm_mk0 s (js_free s 10 47 0)) nav)) (js_free s 10 47 0) (jm_mk0 s (js_free s 10 47 0) 16 (ix nav)) url (jm_under (jm_mk0 s (js_free s 10 47 0)) nav)
def jm_wr (s : js_S) (e : Nat) (nav step url d : Int32) : js_S :=
  js_up (js_up (js_up (js_up (js_up (js_up s 9 e 1) 4 e nav) 5 e step) 6 e url) 7 e 0) 8 e d
def jm_write (s : js_S) (nav step url d : Int32) : js_S := jm_wr s (js_free s 9 47 0) nav step url d
def jm_ff1 (s : js_S) (d : Int32) (nav : Nat) : js_S := js_up (js_up s 15 nav 1) 16 nav d
def jm_ff0 (s : js_S) (d : Int32) (nav : Nat) : js_S :=
  if 0 ≤ jm_ff1 s d nav 13 (ix d) then js_up (jm_ff1 s d nav) 14 (ix d) (nI nav) else js_up (jm_ff1 s d nav) 13 (ix d) (nI nav)
/-- frameFor: the navigable's row is js_free s exists 46 1 -/
def jm_frameFor (s : js_S) (d url step : Int32) : js_S :=
  jm_write (jm_make (jm_ff0 s d (js_free s 15 46 1)) (nI (js_free s 15 46 1)) url) (nI (js_free s 15 46 1)) step (jm_make (jm_ff0 s d (js_free s 15 46 1)) (nI (js_free s 15 46 1)) url 25 0) (nI (js_free (jm_ff0 s d (js_free s 15 46 1)) 10 47 0))
/-- paperOf from row e on, k rows more -/
def jm_po (s : js_S) (nav : Int32) : Nat → Nat → Int32
  | 0, _ => -1
  | k + 1, e => if s 9 e ≠ 0 ∧ s 4 e = nav then s 8 e else jm_po s nav k (e + 1)
def jm_wanted (s : js_S) (url k most : Int32) : Int32 :=
  if url = -1 ∨ s 0 (ix (url / 8)) ≠ 0 ∨ ¬ k < most then -2
  else if k = 0 then (if s 1 (ix (url / 8)) = -2 then s 2 (ix (url / 8)) else s 1 (ix (url / 8)))
  else (if s 1 (ix (url / 8)) = -2 then -2 else s 2 (ix (url / 8)))
def jm_lm (s : js_S) (d step : Int32) : js_S :=
  js_up (if jm_wanted s (s 25 0) 0 1 ≠ -2 then jm_frameFor s d (jm_wanted s (s 25 0) 0 1) step else s) 25 0 (s 25 0)
def jm_loadMiddle (s : js_S) (nav url step : Int32) : js_S := jm_lm (jm_make s nav url) (nI (js_free s 10 47 0)) step
def jm_lwi (s : js_S) (f step : Int32) : js_S :=
  if jm_wanted s (s 25 0) 0 1 ≠ -2 then jm_frameFor s (jm_po s f 48 0) (jm_wanted s (s 25 0) 0 1) step else s
def jm_lw (s : js_S) (d to step k : Int32) : js_S :=
  if jm_wanted s to k 2 ≠ -2 then jm_lwi (jm_frameFor s d (jm_wanted s to k 2) step) (nI (js_free s 15 46 1)) step else s
def jm_loadWindow (s : js_S) (url step : Int32) : js_S :=
  js_up (jm_lw (jm_lw (jm_make s 0 url) (nI (js_free s 10 47 0)) (jm_make s 0 url 25 0) step 0) (nI (js_free s 10 47 0)) (jm_make s 0 url 25 0) step 1) 25 0 (jm_make s 0 url 25 0)
/-- deep, from row e on: 1 or 2 -/
def jm_dp (s : js_S) (a : Int32) : Nat → Nat → Int32
  | 0, _ => 2
  | k + 1, e => if s 9 e ≠ 0 ∧ s 4 e = 0 ∧ s 8 e = a then 1 else jm_dp s a k (e + 1)
def jm_deep (s : js_S) (nav : Int32) : Int32 := if nav = 0 then 0 else jm_dp s (s 16 (ix nav)) 48 0
def jm_load (s : js_S) (nav url step : Int32) : js_S :=
  if jm_deep s nav = 0 then jm_loadWindow s url step else if jm_deep s nav = 1 then jm_loadMiddle s nav url step else jm_make s nav url
def jm_keep (s : js_S) (n : Int32) : js_S := if n < 0 then s else js_up s 20 (ix n) 1
def jm_k0 (k : Nat) : Int32 := if nI k = 0 then 1 else 0
def jm_m0 (s : js_S) : Nat → js_S
  | 0 => s
  | k + 1 => js_up (js_up (js_up (jm_m0 s k) 19 k 0) 20 k (jm_k0 k)) 17 k (jm_k0 k)
def jm_me2 (s : js_S) (e : Nat) : js_S := jm_keep s (s 14 (ix (s 8 e)))
def jm_me1 (s : js_S) (e : Nat) : js_S := jm_keep s (s 13 (ix (s 8 e)))
def jm_me (s : js_S) (e : Nat) : js_S :=
  if s 9 e = 0 then s else if s 20 (ix (s 4 e)) = 0 then s else jm_me2 (jm_me1 (js_up s 19 (ix (s 8 e)) 1) e) e
def jm_m1 (s : js_S) : Nat → js_S
  | 0 => s
  | e + 1 => jm_me (jm_m1 s e) e
def jm_an (a b : Int32) : Int32 := if a = 0 then 0 else if b = 0 then 0 else 1
def jm_n1 (s : js_S) (k : Nat) : js_S := js_up s 15 k (jm_an (s 15 k) (s 20 k))
def jm_n2 (s : js_S) (k : Nat) : js_S := js_up s 10 k (jm_an (s 10 k) (s 19 k))
def jm_n3 (s : js_S) (k : Nat) : js_S := js_up s 9 k (jm_an (s 9 k) (s 20 (ix (s 4 k))))
def jm_m2 (s : js_S) : Nat → js_S
  | 0 => s
  | k + 1 => jm_n3 (jm_n2 (jm_n1 (jm_m2 s k) k) k) k
/-- presentOf, over the first e rows: the best row, its step -/
def jm_pr (s : js_S) (nav : Int32) : Nat → Int32 × Int32
  | 0 => (0, -1)
  | e + 1 => if s 9 e ≠ 0 ∧ s 4 e = nav ∧ ¬ s 21 0 < s 5 e ∧ ¬ s 5 e ≤ (jm_pr s nav e).2 then (nI e, s 5 e) else jm_pr s nav e
def jm_presentOf (s : js_S) (nav : Int32) : Int32 := (jm_pr s nav 48).1
def jm_sh1 (s : js_S) (d : Int32) : js_S := if s 13 (ix d) < 0 then s else js_up s 17 (ix (s 13 (ix d))) 1
def jm_sh2 (s : js_S) (d : Int32) : js_S := if s 14 (ix d) < 0 then s else js_up s 17 (ix (s 14 (ix d))) 1
def jm_show (s : js_S) (d : Int32) : js_S := jm_sh2 (jm_sh1 s d) d
def jm_m3 (s : js_S) : Nat → js_S
  | 0 => s
  | n + 1 => if jm_m3 s n 17 n = 0 then jm_m3 s n else jm_show (jm_m3 s n) (jm_m3 s n 8 (ix (jm_presentOf (jm_m3 s n) (nI n))))
def jm_mkA3 (s : js_S) : js_S := jm_m1 (jm_m1 (jm_m1 s 48) 48) 48
def jm_mkB3 (s : js_S) : js_S := jm_m3 (jm_m3 (jm_m3 s 48) 48) 48
def jm_mark (s : js_S) : js_S := jm_mkB3 (jm_m2 (jm_mkA3 (jm_m0 s 48)) 48)
def jm_isShown (s : js_S) (n : Int32) : Int32 := if jm_btw n 0 47 = 0 then 0 else if s 17 (ix n) = 0 then 0 else 1
def jm_us (s : js_S) (st : Int32) : Nat → Nat → Int32
  | 0, _ => 0
  | k + 1, e => if s 9 e ≠ 0 ∧ s 5 e = st then 1 else jm_us s st k (e + 1)
def jm_used (s : js_S) (st : Int32) : Int32 := jm_us s st 48 0
/-- settle's loop, at most k times -/
def jm_st (s : js_S) : Nat → js_S
  | 0 => s
  | k + 1 => if jm_used s (s 21 0) = 0 then jm_st (js_up s 21 0 (s 21 0 - 1)) k else s
def jm_settle (s : js_S) : js_S := jm_mark (jm_st s (ix (s 21 0)))
def jm_fu (s : js_S) (push : Int32) : Nat → Nat
  | 0 => 0
  | e + 1 => if s 9 e ≠ 0 ∧ (push = 0 ∨ ¬ s 21 0 < s 5 e) then jm_fu s push e + 1 else jm_fu s push e
def jm_full (s : js_S) (push : Int32) : Int32 := if nI (jm_fu s push 48) < 36 then 0 else 1
def jm_cb (s : js_S) (e : Nat) : Int32 := if s 9 e = 0 then 0 else if s 21 0 < s 5 e then 0 else 1
def jm_co (s : js_S) : Nat → js_S
  | 0 => s
  | e + 1 => js_up (jm_co s e) 9 e (jm_cb (jm_co s e) e)
def jm_cutOff (s : js_S) : js_S := jm_mark (jm_co s 48)
def jm_fin (s : js_S) (e to state p : Int32) : js_S := jm_settle (jm_mark (js_up (js_up (js_up s 6 (ix e) to) 7 (ix e) state) 8 (ix e) p))
def jm_en3 (s : js_S) (n to state p : Int32) : js_S := jm_fin (jm_write s n (s 21 0) to p) (nI (js_free s 9 47 0)) to state p
def jm_en2 (s : js_S) (n e to state p push : Int32) : js_S :=
  if push = 0 then jm_fin s e to state p else jm_en3 (js_up s 21 0 (s 21 0 + 1)) n to state p
def jm_stp (s : js_S) (e push : Int32) : Int32 := if push = 0 then s 5 (ix e) else s 21 0 + 1
def jm_en1 (s : js_S) (n e url state push d : Int32) : js_S :=
  if 0 ≤ d then jm_en2 s n e url state d push
  else jm_en2 (jm_load s n url (jm_stp s e push)) n e (jm_load s n url (jm_stp s e push) 25 0) state (nI (js_free s 10 47 0)) push
def jm_enter (s : js_S) (n url state push d : Int32) : js_S :=
  if push = 0 then jm_en1 s n (jm_presentOf s n) url state push d else jm_en1 (jm_cutOff s) n (jm_presentOf (jm_cutOff s) n) url state push d
def jm_within (old url : Int32) : Int32 := if url = -1 then 0 else if jm_frag url = 0 then 0 else if old = -1 then 0 else if old / 8 = url / 8 then 1 else 0
def jm_push (rep url old : Int32) : Int32 := if rep = 0 then (if url = old then 0 else 1) else 0
def jm_nh (s : js_S) (url old w : Int32) : js_S := if w = 0 then s else if url = old then s else js_up s 24 0 (s 24 0 + 1)
def jm_nd (s : js_S) (e w : Int32) : Int32 := if w = 0 then -1 else s 8 (ix e)
def jm_nav (s : js_S) (n url e push w : Int32) : js_S := jm_enter s n url 0 push (jm_nd s e w)
def jm_navF (s : js_S) (n url e push : Int32) : Int32 × js_S :=
  if jm_full s push = 0 then (jm_nav (jm_nh s url (s 6 (ix e)) (jm_within (s 6 (ix e)) url)) n url e push (jm_within (s 6 (ix e)) url) 21 0, jm_nav (jm_nh s url (s 6 (ix e)) (jm_within (s 6 (ix e)) url)) n url e push (jm_within (s 6 (ix e)) url)) else (-5, s)
def jm_navigate (s : js_S) (n url rep : Int32) : Int32 × js_S :=
  if jm_btw url (-1) 255 = 0 then (-3, s) else
  if jm_isShown s n = 0 then (-4, s) else
  jm_navF s n url (jm_presentOf s n) (jm_push rep url (s 6 (ix (jm_presentOf s n))))
def jm_rew (s : js_S) (n url state push e : Int32) : js_S := jm_enter s n (if url = -1 then s 6 (ix e) else url) state push (s 8 (ix e))
def jm_forb (old url : Int32) : Int32 := if url = -1 then 0 else if old = -1 then 1 else if old / 64 = url / 64 then (if old / 64 = 3 then (if old / 8 = url / 8 then 0 else 1) else 0) else 1
def jm_rewrite (s : js_S) (n url state push : Int32) : Int32 × js_S :=
  if jm_btw url (-1) 255 = 0 then (-3, s) else
  if jm_isShown s n = 0 then (-4, s) else
  if jm_forb (s 6 (ix (jm_presentOf s n))) url = 0 then
    (if jm_full s push = 0 then (jm_rew s n url state push (jm_presentOf s n) 21 0, jm_rew s n url state push (jm_presentOf s n)) else (-5, s))
  else (-6, s)
def jm_cu (s : js_S) : Nat → Nat
  | 0 => 0
  | k + 1 => if jm_used s (nI k) ≠ 0 then jm_cu s k + 1 else jm_cu s k
def jm_sa (s : js_S) (n : Int64) : Nat → Nat → Nat → Int32
  | 0, _, _ => -1
  | k + 1, t, b => if jm_used s (nI t) = 0 then jm_sa s n k (t + 1) b else if lg_cmp (lN b) n = 0 then nI t else jm_sa s n k (t + 1) (b + 1)
def jm_stepAt (s : js_S) (n : Int64) : Int32 := jm_sa s n 601 0 0
def jm_g1 (s : js_S) : Nat → js_S
  | 0 => s
  | n + 1 => js_up (jm_g1 s n) 18 n (if jm_g1 s n 17 n = 0 then -1 else jm_presentOf (jm_g1 s n) (nI n))
def jm_gh (s : js_S) (e t : Int32) : js_S := js_up s 24 0 (if jm_frag (s 6 (ix e)) = jm_frag (s 6 (ix t)) then s 24 0 else s 24 0 + 1)
def jm_gm (s : js_S) (e t : Int32) : js_S :=
  if e < 0 then s else if t < 0 then s else if e = t then s else if s 8 (ix e) = s 8 (ix t) then jm_gh (js_up s 23 0 (s 23 0 + 1)) e t else s
def jm_ge (s : js_S) (n : Nat) : Int32 := if s 17 n = 0 then -1 else jm_presentOf s (nI n)
def jm_g2 (s : js_S) : Nat → js_S
  | 0 => s
  | n + 1 => jm_gm (jm_g2 s n) (jm_ge (jm_g2 s n) n) (jm_g2 s n 18 n)
def jm_go2 (s : js_S) (to : Int32) : js_S := jm_g2 (jm_mark (js_up (jm_g1 s 48) 21 0 to)) 48
def jm_go1 (s : js_S) (to : Int32) : Int32 × js_S := if 0 ≤ to then (jm_go2 s to 21 0, jm_go2 s to) else (-7, s)
def jm_go (s : js_S) (delta : Int32) : Int32 × js_S := jm_go1 s (jm_stepAt s (lN (jm_cu s (ix (s 21 0))) + delta.toInt64))
def jm_tk1 (s : js_S) (n d : Int32) : js_S := if s 13 (ix d) = n then js_up s 13 (ix d) (s 14 (ix d)) else s
def jm_tk (s : js_S) (n : Int32) : js_S := js_up (jm_tk1 s n (s 16 (ix n))) 14 (ix (s 16 (ix n))) (-1)
def jm_detach (s : js_S) (n : Int32) : Int32 × js_S :=
  if n = 0 then (-3, s) else if jm_isShown s n = 0 then (-4, s) else
  (jm_settle (jm_mark (jm_tk s n)) 21 0, jm_settle (jm_mark (jm_tk s n)))
def jm_url (s : js_S) (n : Int32) : Int32 := if jm_isShown s n = 0 then -4 else s 6 (ix (jm_presentOf s n))
def jm_state (s : js_S) (n : Int32) : Int64 := if jm_isShown s n = 0 then 1099511627776 else (s 7 (ix (jm_presentOf s n))).toInt64
def jm_step (s : js_S) (n : Int32) : Int32 := if jm_isShown s n = 0 then -4 else s 5 (ix (jm_presentOf s n))
def jm_origin (s : js_S) (n : Int32) : Int32 := if jm_isShown s n = 0 then -4 else s 11 (ix (s 8 (ix (jm_presentOf s n))))
def jm_fr (s : js_S) (d k : Int32) : Int32 := if k = 0 then s 13 (ix d) else if k = 1 then s 14 (ix d) else -1
def jm_frame (s : js_S) (n k : Int32) : Int32 :=
  if jm_isShown s n = 0 then -4 else if 0 ≤ jm_fr s (s 8 (ix (jm_presentOf s n))) k then jm_fr s (s 8 (ix (jm_presentOf s n))) k else -7
def jm_cntO (s : js_S) (o : Int32) : Nat → Nat
  | 0 => 0
  | e + 1 => if s 9 e ≠ 0 ∧ s 4 e = o then jm_cntO s o e + 1 else jm_cntO s o e
def jm_entries (s : js_S) (n : Int32) : Int32 := if jm_isShown s n = 0 then -4 else nI (jm_cntO s n 48)
def jm_length (s : js_S) : Int32 := nI (jm_cu s 601)
def jm_cntF (s : js_S) (f : Nat) : Nat → Nat
  | 0 => 0
  | i + 1 => if s f i ≠ 0 then jm_cntF s f i + 1 else jm_cntF s f i
def jm_count (s : js_S) (k : Int32) : Int32 :=
  if k = 0 then nI (jm_cntF s 17 48) else if k = 1 then nI (jm_cntF s 15 48) else if k = 2 then nI (jm_cntF s 9 48) else if k = 3 then s 23 0 else if k = 4 then s 24 0 else if k = 5 then s 22 0 else -7
