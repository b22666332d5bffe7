def f_rt (lv : Nat → Int32) : Nat → Nat → Int32 → Int32
  | 0, _, _ => -1
  | k + 1, j, bf => if lv j = 0 then f_rt lv k (j + 1) bf else if bf = 0 then nI j else f_rt lv k (j + 1) (bf + (-1))
def f_liv (lv : Nat → Int32) (B : Nat) : Nat := f_count (fun j => !(lv j == 0)) B 0 0
def f_route (lv : Nat → Int32) (B : Nat) (h : Int64) : Int32 := f_rt lv B 0 (Int64.toInt32 (zlushr (zlushr h 32 * Int32.toInt64 (nI (f_liv lv B))) 32))
/-- every balancer's object stands in T, with its answer to 'is it live?' -/
def f_TB (rb : Nat → Option Nat) (T : va_W) (B : Nat) (lv : Nat → Int32) : Prop := ∀ j, j < B → ∃ (q o : Nat) (fs : List Value), rb j = some o ∧ T[q]? = some (cO o 1 fs) ∧ fs[4]? = some (.int (lv j))
def f_dm (mt tk : Int32) (nx dt use src prt : Nat → Int32) (cnt s p sq fl : Int32) : Int32 × Int32 × (Nat → Int32) × (Nat → Int32) × (Nat → Int32) × Int32 := if mt = 0 then (0, tk, nx, dt, use, cnt) else f_rec nx dt use src prt cnt s p sq fl
def f_dt (mt x : Int32) : Int32 := if mt = 0 then 0 else x
def f_ds (mt : Int32) (f : Nat → Int32) (j v : Int32) : Nat → Int32 := if mt = 0 then f else f_put f j v
def f_dw (rp sst s : Int32) (w : Nat → Int32) : Nat → Int32 := if rp = 0 then f_zero 5 11 w else f_ans w sst s
def f_dst (rp sst : Int32) : Int32 := if rp = 0 then sst else f_next sst
