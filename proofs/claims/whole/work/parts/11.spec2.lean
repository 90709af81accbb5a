def wNx (nx : Nat → Option Nat) (l : Option Nat) (k : Nat) : Nat → Option Nat := match l with
  | none => upo nx k none
  | some l => upo (upo nx k none) l (some k)
def wFw (fw : Nat → Option Nat) (l : Option Nat) (j k : Nat) : Nat → Option Nat := match l with
  | none => upo fw j (some k)
  | some _ => fw
def fWrote (f : Nat → Int32) : Nat → Int32 := upd f 9 (f 9 + 1)
def fSetF (g ro f v : Nat → Int32) : Nat → Int32 := fWrote (if fRefusal g ro f v = 0 then fCarry f (v 1) (v 3) else f)
def fSetR (g ro f v : Nat → Int32) : Int32 := if fRefusal g ro f v = 0 then fCarry f (v 1) (v 3) 3 else -1 - fRefusal g ro f v
def fSetG (g ro f v : Nat → Int32) : Nat → Int32 := if fRefusal g ro f v = 1 then upd g 11 (g 11 &&& ((1 : Int32) <<< (v 1 &&& 31) ^^^ (-1))) else g
theorem up2_k1 {ev : Nat → Nat → Int32} {k : Nat} {v : Int32} : up2 ev k 4 v k 1 = ev k 1 := by rw [up2_eq]; rfl
theorem up2_k3 {ev : Nat → Nat → Int32} {k : Nat} {v : Int32} : up2 ev k 4 v k 3 = ev k 3 := by rw [up2_eq]; rfl
def cntSt (d : Nat → Nat → Int32) (x : Int32) : Nat → Int32
  | 0 => 0
  | n + 1 => cntSt d x n + (if d n 3 = x then 1 else 0)
def fCount (d : Nat → Nat → Int32) (n : Nat) (what : Int32) : Int32 := if what < 10 then -1 else if what ≤ 17 then cntSt d (what - 10) n else -1
theorem x_ltn {x a : Int32} {i n : Nat} (hx : x = nI i) (ha : a = nI n) (h : ¬ a ≤ x) (hi : i < 2 ^ 31) (hn : n < 2 ^ 31) : i < n := by
  subst hx ha
  rw [nI_leI hn hi] at h
  omega
theorem x_gen {x a : Int32} {i n : Nat} (hx : x = nI i) (ha : a = nI n) (h : a ≤ x) (hi : i ≤ n) (hn : n < 2 ^ 31) : i = n := by
  subst hx ha
  rw [nI_leI hn (by omega)] at h
  omega
theorem fDeclAt_at {g : Nat → Int32} {x : Int32} {i n : Nat} (hg : g 3 = nI n) (hn : n ≤ 20) (hx : x = nI i) (hi : i < n) : fDeclAt g x = some i := by
  subst hx
  have h0 : ¬ nI i < 0 := nI_pos (by omega)
  have h1 : ¬ g 3 ≤ nI i := by rw [hg, nI_leI (by omega) (by omega)]; omega
  have h2 : ¬ (20 : Int32) ≤ nI i := by rw [show (20 : Int32) = nI 20 from rfl, nI_leI (by omega) (by omega)]; omega
  simp [fDeclAt, h0, h1, h2, nI_clamp (show i < 2 ^ 31 by omega)]
theorem fDeclAt_none {g : Nat → Int32} {x : Int32} {i n : Nat} (hg : g 3 = nI n) (hn : n ≤ 20) (hx : x = nI i) (hi : i < n) (h : fDeclAt g x = none) : False := by
  rw [fDeclAt_at hg hn hx hi] at h; cases h
theorem fDeclAt_some {g : Nat → Int32} {x : Int32} {i n j : Nat} (hg : g 3 = nI n) (hn : n ≤ 20) (hx : x = nI i) (hi : i < n) (h : fDeclAt g x = some j) : j = i := by
  rw [fDeclAt_at hg hn hx hi] at h; cases h; rfl
