abbrev TS : Type := (Nat → Int32) × Option Nat × (Nat → Nat → Int32) × (Nat → Option Nat) × (Nat → Option Nat) × (Nat → Nat → Int32) × (Nat → Option Nat)
def tStep (ro : Nat → Int32) (ed : Nat → Nat) (k : Nat) (q : TS) : TS := match q with
  | (g, _, d, fw, lw, ev, nx) => (fSetG (upd g 7 (g 7 - 1)) ro (d (ed k)) (ev k), nx k, upf d (ed k) (fSetF (upd g 7 (g 7 - 1)) ro (d (ed k)) (ev k)), wFw fw (lw (ed k)) (ed k) k, upo lw (ed k) (some k), up2 ev k 4 (fSetR (upd g 7 (g 7 - 1)) ro (d (ed k)) (ev k)), wNx nx (lw (ed k)) k)
def tRun (t : Int32) (ro : Nat → Int32) (ed : Nat → Nat) : List Nat → TS → Nat → TS × Nat
  | [], q, n => (q, n)
  | k :: L, q, n => if t < q.2.2.2.2.2.1 k 3 then (q, n) else if (20 : Int32) ≤ nI n then (q, n) else tRun t ro ed L (tStep ro ed k q) (n + 1)
def fTickC (g : Nat → Int32) (t : Int32) : Int32 := if t < g 8 then 1 else if t ≤ 100000 then 0 else 1
