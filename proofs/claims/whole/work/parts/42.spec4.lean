theorem m_inL {x M : Int32} {n N : Nat} (hx : x = nI n) (h : x < M) (hn : n < 2 ^ 31) (hM : M = nI N) (hN : N < 2 ^ 31) : vp_in x N := by
  subst hx hM
  rw [nI_ltI hn hN] at h
  exact vp_in_nI h hN
theorem fWrittenAt_mem {f : Nat → Int32} {wr : List Nat} {v : Int32} {k : Nat} (h : fWrittenAt f wr v = some k) : k ∈ wr := by
  unfold fWrittenAt at h
  split at h
  · cases h
  · split at h
    · exact List.mem_of_getElem? h
    · cases h
section X42
variable {p : Program} {l : Launch} {e : Env} {R : Room} {s : State} {m : MethodId} {args : Array Value} {below : List Frame} {meth : Method} {c : Code} {H : Heap} {locs : List Loc} {cells slots : Nat} {Q : State → Prop}
variable {cc : ByteArray} {pc : Nat} {ls : Array Slot} {rest : List Value} {A : Nat → Prop} {H0 : Heap} {G : va_G}
variable {cI cD cE : ClassId} {aX aR aD aE : Nat} {dA eA : Nat → Nat} {g ro : Nat → Int32} {fst : Option Nat} {nD nE : Nat} {d : Nat → Nat → Int32} {fw lw : Nat → Option Nat} {ed : Nat → Nat} {ev : Nat → Nat → Int32} {nx : Nat → Option Nat} {w : va_W}
theorem x_stR {i x : Int32} (hin : vp_in i 12) (hx : p.tables.exec = Jvm.exec) (hb : c.code = cc) (hK : va_K G vwCl (xTys cI cD cE) s) (hP : va_P G vwCl w H) (hD : va_D A w) (hS : va_S A H0 H locs) (hR : RX cI cD cE aX aR aD aE dA eA g ro fst nD nE d fw lw ed ev nx w) (hdg : decode cc pc = .ok (.iastore, 1))
    (kk : ∀ (w' : va_W) (H1 : Heap) (locs1 : List Loc), RX cI cD cE aX aR aD aE dA eA g (upd ro i.toNatClampNeg x) fst nD nE d fw lw ed ev nx w' → va_P G vwCl w' H1 → va_D A w' → va_S A H0 H1 locs1 → W p l e R s m args below meth c H1 locs1 cells slots Q (F0 m (pc + 1) ls rest)) : W p l e R s m args below meth c H locs cells slots Q (F0 m pc ls (.int x :: .int i :: .ref aR :: rest)) :=
  va_iast hx hb hK hP hD hS 1 0 hR.r rfl hin hdg (fun H1 locs1 hP hD hS => kk _ H1 locs1 hR.setR hP hD hS)
end X42
def fPersonC (g : Nat → Int32) (v : Int32) : Int32 := if fWithin v 2 = 0 then 1 else if g 1 < 12 then 0 else 2
def fHoursR (a b : Int32) : Int32 := if a < 0 then 0 else if 24 < b then 0 else if a < b then 1 else 0
def fHours (g : Nat → Int32) (a b : Int32) : Nat → Int32 := if fHoursR a b = 0 then g else upd (upd g 9 a) 10 b
def fFailsR (g : Nat → Int32) (k on : Int32) : Int32 := if fWithin k 9 = 0 then 0 else if fBit (g 11) k = on then 0 else 1
def fFails (g : Nat → Int32) (k on : Int32) : Nat → Int32 := if fFailsR g k on = 0 then g else upd g 11 (g 11 ^^^ (1 : Int32) <<< (k &&& 31))
def fCountR (g : Nat → Int32) (d : Nat → Nat → Int32) (nD : Nat) (x : Int32) : Int32 := if x = 0 then g 1 else if x = 1 then g 3 else if x = 2 then g 5 else if x = 3 then g 7 else if x = 4 then g 8 else fCount d nD x
def fBarC (g : Nat → Int32) (d9 k : Int32) : Int32 := match fDeclAt g d9 with
  | none => 1
  | some _ => if fWithin k 7 = 0 then 1 else 0
def fBarN (f : Nat → Int32) (k on : Int32) : Int32 := if fOver f = 0 then (if fBit (f 5) k = on then 1 else 0) else 1
def fBarF (g f : Nat → Int32) (k on : Int32) : Nat → Int32 := if on = 0 then fRelease (upd f 5 (f 5 ^^^ (1 : Int32) <<< (k &&& 31))) (g 8) else upd f 5 (f 5 ^^^ (1 : Int32) <<< (k &&& 31))
def fBarD (g : Nat → Int32) (d : Nat → Nat → Int32) (d9 k on : Int32) : Nat → Nat → Int32 := match fDeclAt g d9 with
  | none => d
  | some j => if fBarN (d j) k on = 0 then upf d j (fBarF g (d j) k on) else d
def fBarR (g : Nat → Int32) (d : Nat → Nat → Int32) (d9 k on : Int32) : Int32 := match fDeclAt g d9 with
  | none => 0
  | some j => if fBarN (d j) k on = 0 then fBC (fBarF g (d j) k on 5) else -1
def fInvC (g : Nat → Int32) (d9 w9 y : Int32) : Int32 := match fDeclAt g d9 with
  | none => 1
  | some _ => if fPerson g w9 = 0 then 1 else if fWithin y 9 = 0 then 1 else 0
def fInvD (g ro : Nat → Int32) (d : Nat → Nat → Int32) (d9 w9 y : Int32) : Nat → Nat → Int32 := match fDeclAt g d9 with
  | none => d
  | some j => if fRole g ro w9 = 1 then upf d j (fReq (d j) w9 y (g 8)) else d
def fInvR (g ro : Nat → Int32) (d : Nat → Nat → Int32) (d9 w9 y : Int32) : Int32 := match fDeclAt g d9 with
  | none => 0
  | some j => if fRole g ro w9 = 1 then fReqR (d j) w9 y else 0
def fLookV (f : Nat → Int32) (x : Int32) : Int32 := if x = 0 then f 3 else if x = 1 then f 1 else if x = 2 then f 2 else if x = 3 then f 4 else if x = 4 then f 5 else if x = 5 then f 9 else if x = 6 then f 6 else if x = 7 then f 7 else f 8
def fIn8 (x : Int32) : Int32 := if x = 0 then 0 else if x = 1 then 0 else if x = 2 then 0 else if x = 3 then 0 else if x = 4 then 0 else if x = 5 then 0 else if x = 6 then 0 else if x = 7 then 0 else if x = 8 then 0 else 1
def fLookC (g : Nat → Int32) (d9 x : Int32) : Int32 := match fDeclAt g d9 with
  | none => 1
  | some _ => if x = 0 then 0 else if x = 1 then 0 else if x = 2 then 0 else if x = 3 then 0 else if x = 4 then 0 else if x = 5 then 0 else if x = 6 then 0 else if x = 7 then 0 else if x = 8 then 0 else 1
def fLookR (g : Nat → Int32) (d : Nat → Nat → Int32) (d9 x : Int32) : Int32 := match fDeclAt g d9 with
  | none => 0
  | some j => if x = 0 then d j 3 else if x = 1 then d j 1 else if x = 2 then d j 2 else if x = 3 then d j 4 else if x = 4 then d j 5 else if x = 5 then d j 9 else if x = 6 then d j 6 else if x = 7 then d j 7 else d j 8
def fWritC (g : Nat → Int32) (d9 : Int32) : Int32 := match fDeclAt g d9 with
  | none => 1
  | some _ => 0
def fWritR (g : Nat → Int32) (d ev : Nat → Nat → Int32) (wr : Nat → List Nat) (d9 i9 : Int32) : Int32 := match fDeclAt g d9 with
  | none => 0
  | some j => match fWrittenAt (d j) (wr j) i9 with
    | none => -1
    | some k => 16 * (ev k 4 + 8) + ev k 1
def fOfC (g : Nat → Int32) (e9 x : Int32) : Int32 := match fEvAt g e9 with
  | none => 1
  | some _ => if x = 0 then 0 else if x = 1 then 0 else if x = 2 then 0 else if x = 3 then 0 else if x = 4 then 0 else if x = 5 then 0 else 1
def fOfR (g : Nat → Int32) (d : Nat → Nat → Int32) (ed : Nat → Nat) (ev : Nat → Nat → Int32) (e9 x : Int32) : Int32 := match fEvAt g e9 with
  | none => 0
  | some k => if x = 0 then d (ed k) 0 else if x = 1 then ev k 1 else if x = 2 then ev k 2 else if x = 3 then ev k 3 else if x = 4 then (if fWaits (ev k) = 0 then 0 else 1) else ev k 4
