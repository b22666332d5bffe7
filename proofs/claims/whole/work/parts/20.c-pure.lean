def f_ck (w : Nat → Int32) (t : Nat) : Nat → Int32 := upd w (t + 2) (w (t + 2) + f_cks (w t) (w (t + 1)) (w (t + 2)) (w (t + 3)) (w (t + 4)))
def f_fwd (w kp : Nat → Int32) (st b k : Int32) : Nat → Int32 := va_cpy kp (f_ck (upd (upd (upd (upd (upd (upd w 0 (1157627928 + (kp 0 &&& 65535))) 1 (st * 65536)) 2 1076822016) 3 (167772416 + b)) 4 (167772672 + k)) 5 2048) 0) 0 6 5
def f_ans (w : Nat → Int32) (st s : Int32) : Nat → Int32 := f_ck (upd (upd (upd (upd (upd w 11 1157627944) 12 (st * 65536)) 13 1074135040) 14 167772161) 15 s) 11
def f_zero : Nat → Nat → (Nat → Int32) → Nat → Int32
  | 0, _, w => w
  | k + 1, j, w => f_zero k (j + 1) (upd w j 0)
def f_pat (fl : Int32) : Int32 := if fl = 2 then 4 else if fl = 16 then 16 else 2
def f_relP (P : Nat → Bool) : Nat → Nat → (Nat → Int32) → Int32 → (Nat → Int32) × Int32
  | 0, _, use, cnt => (use, cnt)
  | k + 1, j, use, cnt => if P j then f_relP P k (j + 1) (f_ru use j) (f_rn use cnt j) else f_relP P k (j + 1) use cnt
def f_old (lu pat : Nat → Int32) (t : Int32) (j : Nat) : Bool := !decide (t - lu j ≤ pat j)
def f_dn (up sv : Nat → Int32) (j : Nat) : Bool := up (sv j).toNatClampNeg == 0
def f_eslot (fl : Int32) (use src prt : Nat → Int32) (s p : Int32) : Int32 := if fl = 2 then f_fot use src prt 8 s p else f_find use src prt 8 s p
def f_enew (fl : Int32) (use src prt : Nat → Int32) (s p : Int32) : Int32 := if fl = 2 then f_new use src prt 8 s p else -1
def f_relu (use : Nat → Int32) (j : Int32) : Nat → Int32 := if j = -1 then use else f_ru use j.toNatClampNeg
def f_reln (use : Nat → Int32) (cnt j : Int32) : Int32 := if j = -1 then cnt else f_rn use cnt j.toNatClampNeg
def f_euse (fl : Int32) (use src prt : Nat → Int32) (s p : Int32) : Nat → Int32 := if fl = 4 then f_relu use (f_eslot fl use src prt s p) else f_put use (f_enew fl use src prt s p) 1
def f_ecnt (fl cnt : Int32) (use src prt : Nat → Int32) (s p : Int32) : Int32 := if fl = 4 then f_reln use cnt (f_eslot fl use src prt s p) else f_inc cnt (f_enew fl use src prt s p)
def f_eput (fl : Int32) (f use src prt : Nat → Int32) (s p v : Int32) : Nat → Int32 := if fl = 4 then f else f_put f (f_eslot fl use src prt s p) v
def f_seton (on o : Int32) : Int32 := if on = o then 0 else 1
def f_onuse (on o : Int32) (use : Nat → Int32) (cnt : Int32) : (Nat → Int32) × Int32 := if on = o then (use, cnt) else if o = 0 then f_all 10 0 use cnt else (use, cnt)
def f_gr (j : Int32) : Int32 := if j = -1 then 4 else 1
def f_gor (nx : Nat → Int32) (j : Nat) (sq fl : Int32) : Int32 := if sq = nx j then (if fl = 16 then 2 else 5) else 3
def f_goi (nx f : Nat → Int32) (j : Nat) (sq fl : Int32) : Nat → Int32 := if sq = nx j then (if fl = 16 then upd f j (f j + 1) else f) else f
def f_gou (nx use : Nat → Int32) (j : Nat) (sq fl : Int32) : Nat → Int32 := if sq = nx j then (if fl = 16 then use else f_ru use j) else use
def f_gon (nx use : Nat → Int32) (cnt : Int32) (j : Nat) (sq fl : Int32) : Int32 := if sq = nx j then (if fl = 16 then cnt else f_rn use cnt j) else cnt
def f_rslot (fl : Int32) (use src prt : Nat → Int32) (s p : Int32) : Int32 := if fl = 2 then f_fot use src prt 10 s p else f_find use src prt 10 s p
def f_rnew (fl : Int32) (use src prt : Nat → Int32) (s p : Int32) : Int32 := if fl = 2 then f_new use src prt 10 s p else -1
/-- what a server does with a segment: answer, taken, next, data, in use, count -/
def f_rec (nx dt use src prt : Nat → Int32) (cnt s p sq fl : Int32) : Int32 × Int32 × (Nat → Int32) × (Nat → Int32) × (Nat → Int32) × Int32 :=
  if fl = 2 then (f_gr (f_fot use src prt 10 s p), 0, f_put nx (f_fot use src prt 10 s p) (sq + 1), f_put dt (f_fot use src prt 10 s p) 0, f_put use (f_new use src prt 10 s p) 1, f_inc cnt (f_new use src prt 10 s p))
  else if fl = 4 then (0, 0, nx, dt, f_relu use (f_find use src prt 10 s p), f_reln use cnt (f_find use src prt 10 s p))
  else if f_find use src prt 10 s p = -1 then (4, 0, nx, dt, use, cnt)
  else (f_gor nx (f_find use src prt 10 s p).toNatClampNeg sq fl, f_goi nx dt (f_find use src prt 10 s p).toNatClampNeg sq fl (f_find use src prt 10 s p).toNatClampNeg, f_goi nx nx (f_find use src prt 10 s p).toNatClampNeg sq fl, f_goi nx dt (f_find use src prt 10 s p).toNatClampNeg sq fl, f_gou nx use (f_find use src prt 10 s p).toNatClampNeg sq fl, f_gon nx use cnt (f_find use src prt 10 s p).toNatClampNeg sq fl)
