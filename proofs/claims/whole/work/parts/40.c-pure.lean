def f_within (v lo hi : Int32) : Int32 := if lo ≤ v then (if v ≤ hi then v else hi) else lo
def f_prm (N : Nat) : Nat → Nat → Int32
  | 0, _ => 1
  | k + 1, d => if N % d = 0 then 0 else f_prm N k (d + 1)
def f_half (x : Int64) : Int64 := x / 65536 / 65536
def f_rst (x : Int64) : Int64 := x - x / 65536 / 65536 * 65536 * 65536
def f_upper (x : Int64) : Int64 := if 0 ≤ lg_cmp (f_rst x) 0 then (if 0 ≤ lg_cmp (f_half x) 0 then f_half x else f_half x + 4294967296) else (if 0 ≤ lg_cmp (f_half x - 1) 0 then f_half x - 1 else f_half x - 1 + 4294967296)
def f_lrem (x y : Int64) : Int64 := x - x / y * y
def f_lower (x : Int64) : Int64 := if 0 ≤ lg_cmp (f_lrem x 4294967296) 0 then f_lrem x 4294967296 else f_lrem x 4294967296 + 4294967296
def g_halves (w : Int32) : Int32 := (w &&& 65535) + ((w >>> ((16 : Int32) &&& 31)) &&& 65535)
def g_fold1 (t : Int32) : Int32 := f_rem t 65536 + t / 65536
def g_fold : Nat → Int32 → Int32
  | 0, t => t
  | k + 1, t => if t ≤ 65535 then t else g_fold k (g_fold1 t)
def g_cks (w0 w1 w2 w3 w4 : Int32) : Int32 := 65535 - g_fold 20 (g_halves w0 + g_halves w1 + ((w2 >>> ((16 : Int32) &&& 31)) &&& 65535) + g_halves w3 + g_halves w4)
def g_all (w0 w1 w2 w3 w4 : Int32) : Int32 := g_fold 20 (g_halves w0 + g_halves w1 + g_halves w2 + g_halves w3 + g_halves w4)
def g_hd (w0 w1 w2 w3 w4 : Int32) : Int32 :=
  if (w0 >>> ((24 : Int32) &&& 31)) &&& 255 = 69 then
    if g_all w0 w1 w2 w3 w4 = 65535 then
      if w0 &&& 65535 < 40 then 3 else if w0 &&& 65535 ≤ 1480 then
        if f_rem w1 16384 = 0 then
          if (w2 >>> ((24 : Int32) &&& 31)) &&& 255 = 0 then 5 else
            if (w2 >>> ((16 : Int32) &&& 31)) &&& 255 = 6 then
              if w4 = 167772161 then 0 else 7
            else 6
        else 4
      else 3
    else 2
  else 1
def g_dbl (y : Int64) : Int64 := if 0 ≤ lg_cmp y 0 then y + y else y + y + 1
def g_turn : Nat → Int64 → Int64
  | 0, y => y
  | k + 1, y => g_turn k (g_dbl y)
def g_mix (a b n m : Nat) (w : Nat → Int64) : Nat → Int64 := vp_updL (vp_updL (vp_updL (vp_updL w a (w a + w b)) b (g_turn n (vp_updL w a (w a + w b) b))) b (g_turn n (vp_updL w a (w a + w b) b) ^^^ vp_updL (vp_updL w a (w a + w b)) b (g_turn n (vp_updL w a (w a + w b) b)) a)) a (g_turn m (vp_updL (vp_updL (vp_updL w a (w a + w b)) b (g_turn n (vp_updL w a (w a + w b) b))) b (g_turn n (vp_updL w a (w a + w b) b) ^^^ vp_updL (vp_updL w a (w a + w b)) b (g_turn n (vp_updL w a (w a + w b) b)) a) a))
def g_round (w : Nat → Int64) : Nat → Int64 := g_mix 2 1 17 32 (g_mix 0 3 21 0 (g_mix 2 3 16 0 (g_mix 0 1 13 32 w)))
def g_iter : Nat → (Nat → Int64) → Nat → Int64
  | 0, w => w
  | k + 1, w => g_iter k (g_round w)
def g_in (y : Int64) (w : Nat → Int64) : Nat → Int64 := vp_updL (g_iter 2 (vp_updL w 3 (w 3 ^^^ y))) 0 (g_iter 2 (vp_updL w 3 (w 3 ^^^ y)) 0 ^^^ y)
def g_ini (k0 k1 : Int64) (w : Nat → Int64) : Nat → Int64 := vp_updL (vp_updL (vp_updL (vp_updL w 0 (k0 ^^^ 8317987319222330741)) 1 (k1 ^^^ 7237128888997146477)) 2 (k0 ^^^ 7816392313619706465)) 3 (k1 ^^^ 8387220255154660723)
def g_mid (k0 k1 x : Int64) (w : Nat → Int64) : Nat → Int64 := g_in 576460752303423488 (g_in x (g_ini k0 k1 w))
def g_end (k0 k1 x : Int64) (w : Nat → Int64) : Nat → Int64 := g_iter 4 (vp_updL (g_mid k0 k1 x w) 2 (g_mid k0 k1 x w 2 ^^^ 255))
def g_dig (k0 k1 x : Int64) (w : Nat → Int64) : Int64 := g_end k0 k1 x w 0 ^^^ g_end k0 k1 x w 1 ^^^ g_end k0 k1 x w 2 ^^^ g_end k0 k1 x w 3
def g_join (s p : Int32) : Int64 := Int32.toInt64 s * 4294967296 + (if 0 ≤ p then Int32.toInt64 p else Int32.toInt64 p + 4294967296)
def g_kept (w0 w1 w2 w3 w4 kpt : Int32) : Int32 := if g_hd w0 w1 w2 w3 w4 = 0 then 1 else kpt
def g_head (w0 w1 w2 w3 w4 : Int32) (hd : Nat → Int32) : Nat → Int32 := if g_hd w0 w1 w2 w3 w4 = 0 then upd (upd (upd (upd (upd hd 0 w0) 1 w1) 2 w2) 3 w3) 4 w4 else hd
def g_is (b : Int32) (n : Nat) : Int32 := if b < 0 then 0 else if nI n ≤ b then 0 else 1
