-- WHAT EACH METHOD OF THE CLASS ANSWERS AND DOES, over the numbers of its state
def fWithin (v l : Int32) : Int32 := if v < 0 then 0 else if l < v then 0 else 1
def fPerson (g : Nat → Int32) (v : Int32) : Int32 := if v < 0 then 0 else if g 1 ≤ v then 0 else if 12 ≤ v then 0 else 1
def fRole (g ro : Nat → Int32) (v : Int32) : Int32 := if fPerson g v = 0 then -1 else ro v.toNatClampNeg
def fDeclAt (g : Nat → Int32) (v : Int32) : Option Nat := if v < 0 then none else if g 3 ≤ v then none else if 20 ≤ v then none else some v.toNatClampNeg
def fEvAt (g : Nat → Int32) (v : Int32) : Option Nat := if v < 0 then none else if g 5 ≤ v then none else if 120 ≤ v then none else some v.toNatClampNeg
def fBit (x k : Int32) : Int32 := if x &&& (1 : Int32) <<< (k &&& 31) = 0 then 0 else 1
def fMarked (f : Nat → Int32) (k : Int32) : Int32 := if f 4 &&& k = 0 then 0 else 1
def fOver (f : Nat → Int32) : Int32 := if f 3 = 6 then 1 else if f 3 = 7 then 1 else 0
def fIs (b : Prop) (h : Decidable b) : Int32 := if b then 1 else 0
def fStateAllows (f : Nat → Int32) (a : Int32) : Int32 :=
  if a = 0 then (if f 3 = 0 then 1 else 0)
  else if a = 1 then (if f 3 = 0 then 1 else if f 3 = 1 then 1 else if f 3 = 2 then 1 else 0)
  else if a = 2 then (if f 3 = 1 then 1 else 0)
  else if a = 3 then (if f 3 = 2 then 1 else 0)
  else if a = 4 then (if f 3 = 3 then 1 else 0)
  else if a = 5 then (if f 3 = 3 then 1 else 0)
  else if a = 6 then (if f 3 = 2 then 1 else if f 3 = 3 then 1 else 0)
  else if a = 7 then (if f 3 = 4 then (if f 1 = 0 then 0 else 1) else 0)
  else if a = 8 then (if f 3 = 4 then (if f 1 = 0 then 1 else if f 3 = 5 then 1 else 0) else if f 3 = 5 then 1 else 0)
  else if a = 9 then (if f 3 = 2 then 1 else if f 3 = 3 then 1 else 0)
  else 0
def fMarksAllow (f : Nat → Int32) (a : Int32) : Int32 :=
  if a = 1 then (if fMarked f 1 = 0 then 1 else 0)
  else if a = 2 then (if f 1 = 1 then 1 else if fMarked f 1 = 0 then 0 else 1)
  else if a = 6 then (if fMarked f 2 = 0 then 1 else 0)
  else if a = 9 then fMarked f 4
  else 1
def fBecome (f : Nat → Int32) (n t : Int32) : Nat → Int32 := upd (upd (upd f 3 n) 6 t) 7 (-1)
def fRelease (f : Nat → Int32) (t : Int32) : Nat → Int32 :=
  if f 3 = 2 then (if f 5 = 0 then (if fMarked f 4 = 0 then (if fMarked f 1 = 0 then f else if f 1 = 0 then (if fMarked f 2 = 0 then f else fBecome f 4 t) else fBecome f 4 t) else f) else f) else f
def fAct (f : Nat → Int32) (a t : Int32) : Nat → Int32 :=
  if a = 0 then fBecome f 1 t
  else if a = 1 then upd f 4 (f 4 ||| 1)
  else if a = 2 then fBecome f 2 t
  else if a = 3 then fBecome f 3 t
  else if a = 4 then fBecome f 2 t
  else if a = 5 then fBecome (upd f 4 (f 4 ||| 4)) 2 t
  else if a = 6 then upd f 4 (f 4 ||| 2)
  else if a = 7 then fBecome f 5 t
  else if a = 8 then fBecome f 7 t
  else if a = 9 then upd f 4 (f 4 &&& (-5))
  else f
def fCarry (f : Nat → Int32) (a t : Int32) : Nat → Int32 := fRelease (fAct f a t) t
def fInv (f : Nat → Int32) (why t : Int32) : Nat → Int32 := fBecome (upd f 8 why) 6 t
def fTwoR (f : Nat → Int32) (who : Int32) : Int32 := if f 7 = -1 then 2 else if f 7 = who then 0 else 1
def fTwo (f : Nat → Int32) (who why t : Int32) : Nat → Int32 := if f 7 = -1 then upd f 7 who else if f 7 = who then f else fInv f why t
def fReqR (f : Nat → Int32) (who why : Int32) : Int32 :=
  if f 3 = 0 then 1 else if f 3 = 1 then 1 else if f 3 = 2 then (if why = 0 then 0 else 1) else if f 3 = 3 then (if why = 0 then 0 else 1) else if f 3 = 4 then (if why = 0 then 0 else fTwoR f who) else 0
def fReq (f : Nat → Int32) (who why t : Int32) : Nat → Int32 :=
  if f 3 = 0 then fInv f why t else if f 3 = 1 then fInv f why t else if f 3 = 2 then (if why = 0 then f else fInv f why t) else if f 3 = 3 then (if why = 0 then f else fInv f why t) else if f 3 = 4 then (if why = 0 then f else fTwo f who why t) else f
def fOfficers (k : Int32) : Int32 := if k < 2 then (if k = 8 then 1 else 0) else if k ≤ 5 then 1 else if k = 8 then 1 else 0
def fOpen (g : Nat → Int32) (t : Int32) : Int32 := if t - t / 24 * 24 < g 9 then 0 else if g 10 ≤ t - t / 24 * 24 then 0 else 1
def fMayTell (g ro : Nat → Int32) (f : Nat → Int32) (v : Nat → Int32) : Int32 :=
  if v 1 = 0 then (if v 2 = f 2 then 1 else 0)
  else if v 1 = 1 then (if fRole g ro (v 2) = 0 then 1 else if fRole g ro (v 2) = 2 then 1 else 0)
  else if v 1 = 6 then (if v 2 = f 2 then 1 else 0)
  else if v 1 = 7 then (if fRole g ro (v 2) = 2 then 1 else 0)
  else if v 1 = 9 then (if v 2 = f 2 then 1 else 0)
  else (if fRole g ro (v 2) = 1 then 1 else 0)
def fRefusal (g ro : Nat → Int32) (f : Nat → Int32) (v : Nat → Int32) : Int32 :=
  if fBit (g 11) (v 1) = 0 then
    (if fMayTell g ro f v = 0 then 2
     else if fOfficers (v 1) = 0 then (if fStateAllows f (v 1) = 0 then 4 else if fMarksAllow f (v 1) = 0 then 5 else 0)
     else if fOpen g (v 3) = 0 then 3
     else if fStateAllows f (v 1) = 0 then 4 else if fMarksAllow f (v 1) = 0 then 5 else 0)
  else 1
def fAhead (a b : Nat → Int32) : Int32 := if a 3 < b 3 then 1 else if a 3 = b 3 then (if b 1 ≤ a 1 then 0 else 1) else 0
def fWaits (a : Nat → Int32) : Int32 := if a 4 = -1 then 1 else 0
theorem fBit01 (x k : Int32) : fBit x k = 0 ∨ fBit x k = 1 := by unfold fBit; split <;> simp
theorem fMarked01 (f : Nat → Int32) (k : Int32) : fMarked f k = 0 ∨ fMarked f k = 1 := by unfold fMarked; split <;> simp
theorem nz01 {r x : Int32} (e : r = x) (h : x = 0 ∨ x = 1) : narrow .boolean (.int r) = .int r := by subst e; rcases h with h | h <;> rw [h] <;> rfl
theorem x_sw0_9 (x : Int32) : x = 0 ∨ x = 1 ∨ x = 2 ∨ x = 3 ∨ x = 4 ∨ x = 5 ∨ x = 6 ∨ x = 7 ∨ x = 8 ∨ x = 9 ∨ ((x.toInt < 0 ∨ 9 < x.toInt) ∧ ¬ x = 0 ∧ ¬ x = 1 ∧ ¬ x = 2 ∧ ¬ x = 3 ∧ ¬ x = 4 ∧ ¬ x = 5 ∧ ¬ x = 6 ∧ ¬ x = 7 ∧ ¬ x = 8 ∧ ¬ x = 9) := by
  by_cases h0 : x = 0
  · simp [h0]
  by_cases h1 : x = 1
  · simp [h1]
  by_cases h2 : x = 2
  · simp [h2]
  by_cases h3 : x = 3
  · simp [h3]
  by_cases h4 : x = 4
  · simp [h4]
  by_cases h5 : x = 5
  · simp [h5]
  by_cases h6 : x = 6
  · simp [h6]
  by_cases h7 : x = 7
  · simp [h7]
  by_cases h8 : x = 8
  · simp [h8]
  by_cases h9 : x = 9
  · simp [h9]
  have a0 := lv_neT (a := 0) h0 rfl
  have a1 := lv_neT (a := 1) h1 rfl
  have a2 := lv_neT (a := 2) h2 rfl
  have a3 := lv_neT (a := 3) h3 rfl
  have a4 := lv_neT (a := 4) h4 rfl
  have a5 := lv_neT (a := 5) h5 rfl
  have a6 := lv_neT (a := 6) h6 rfl
  have a7 := lv_neT (a := 7) h7 rfl
  have a8 := lv_neT (a := 8) h8 rfl
  have a9 := lv_neT (a := 9) h9 rfl
  refine Or.inr (Or.inr (Or.inr (Or.inr (Or.inr (Or.inr (Or.inr (Or.inr (Or.inr (Or.inr (⟨by omega, h0, h1, h2, h3, h4, h5, h6, h7, h8, h9⟩))))))))))
theorem x_sw1_9 (x : Int32) : x = 1 ∨ x = 2 ∨ x = 3 ∨ x = 4 ∨ x = 5 ∨ x = 6 ∨ x = 7 ∨ x = 8 ∨ x = 9 ∨ ((x.toInt < 1 ∨ 9 < x.toInt) ∧ ¬ x = 1 ∧ ¬ x = 2 ∧ ¬ x = 3 ∧ ¬ x = 4 ∧ ¬ x = 5 ∧ ¬ x = 6 ∧ ¬ x = 7 ∧ ¬ x = 8 ∧ ¬ x = 9) := by
  by_cases h1 : x = 1
  · simp [h1]
  by_cases h2 : x = 2
  · simp [h2]
  by_cases h3 : x = 3
  · simp [h3]
  by_cases h4 : x = 4
  · simp [h4]
  by_cases h5 : x = 5
  · simp [h5]
  by_cases h6 : x = 6
  · simp [h6]
  by_cases h7 : x = 7
  · simp [h7]
  by_cases h8 : x = 8
  · simp [h8]
  by_cases h9 : x = 9
  · simp [h9]
  have a1 := lv_neT (a := 1) h1 rfl
  have a2 := lv_neT (a := 2) h2 rfl
  have a3 := lv_neT (a := 3) h3 rfl
  have a4 := lv_neT (a := 4) h4 rfl
  have a5 := lv_neT (a := 5) h5 rfl
  have a6 := lv_neT (a := 6) h6 rfl
  have a7 := lv_neT (a := 7) h7 rfl
  have a8 := lv_neT (a := 8) h8 rfl
  have a9 := lv_neT (a := 9) h9 rfl
  refine Or.inr (Or.inr (Or.inr (Or.inr (Or.inr (Or.inr (Or.inr (Or.inr (Or.inr (⟨by omega, h1, h2, h3, h4, h5, h6, h7, h8, h9⟩)))))))))
theorem x_sw0_4 (x : Int32) : x = 0 ∨ x = 1 ∨ x = 2 ∨ x = 3 ∨ x = 4 ∨ ((x.toInt < 0 ∨ 4 < x.toInt) ∧ ¬ x = 0 ∧ ¬ x = 1 ∧ ¬ x = 2 ∧ ¬ x = 3 ∧ ¬ x = 4) := by
  by_cases h0 : x = 0
  · simp [h0]
  by_cases h1 : x = 1
  · simp [h1]
  by_cases h2 : x = 2
  · simp [h2]
  by_cases h3 : x = 3
  · simp [h3]
  by_cases h4 : x = 4
  · simp [h4]
  have a0 := lv_neT (a := 0) h0 rfl
  have a1 := lv_neT (a := 1) h1 rfl
  have a2 := lv_neT (a := 2) h2 rfl
  have a3 := lv_neT (a := 3) h3 rfl
  have a4 := lv_neT (a := 4) h4 rfl
  refine Or.inr (Or.inr (Or.inr (Or.inr (Or.inr (⟨by omega, h0, h1, h2, h3, h4⟩)))))
theorem x_sw0_8 (x : Int32) : x = 0 ∨ x = 1 ∨ x = 2 ∨ x = 3 ∨ x = 4 ∨ x = 5 ∨ x = 6 ∨ x = 7 ∨ x = 8 ∨ ((x.toInt < 0 ∨ 8 < x.toInt) ∧ ¬ x = 0 ∧ ¬ x = 1 ∧ ¬ x = 2 ∧ ¬ x = 3 ∧ ¬ x = 4 ∧ ¬ x = 5 ∧ ¬ x = 6 ∧ ¬ x = 7 ∧ ¬ x = 8) := by
  by_cases h0 : x = 0
  · simp [h0]
  by_cases h1 : x = 1
  · simp [h1]
  by_cases h2 : x = 2
  · simp [h2]
  by_cases h3 : x = 3
  · simp [h3]
  by_cases h4 : x = 4
  · simp [h4]
  by_cases h5 : x = 5
  · simp [h5]
  by_cases h6 : x = 6
  · simp [h6]
  by_cases h7 : x = 7
  · simp [h7]
  by_cases h8 : x = 8
  · simp [h8]
  have a0 := lv_neT (a := 0) h0 rfl
  have a1 := lv_neT (a := 1) h1 rfl
  have a2 := lv_neT (a := 2) h2 rfl
  have a3 := lv_neT (a := 3) h3 rfl
  have a4 := lv_neT (a := 4) h4 rfl
  have a5 := lv_neT (a := 5) h5 rfl
  have a6 := lv_neT (a := 6) h6 rfl
  have a7 := lv_neT (a := 7) h7 rfl
  have a8 := lv_neT (a := 8) h8 rfl
  refine Or.inr (Or.inr (Or.inr (Or.inr (Or.inr (Or.inr (Or.inr (Or.inr (Or.inr (⟨by omega, h0, h1, h2, h3, h4, h5, h6, h7, h8⟩)))))))))
theorem x_sw0_5 (x : Int32) : x = 0 ∨ x = 1 ∨ x = 2 ∨ x = 3 ∨ x = 4 ∨ x = 5 ∨ ((x.toInt < 0 ∨ 5 < x.toInt) ∧ ¬ x = 0 ∧ ¬ x = 1 ∧ ¬ x = 2 ∧ ¬ x = 3 ∧ ¬ x = 4 ∧ ¬ x = 5) := by
  by_cases h0 : x = 0
  · simp [h0]
  by_cases h1 : x = 1
  · simp [h1]
  by_cases h2 : x = 2
  · simp [h2]
  by_cases h3 : x = 3
  · simp [h3]
  by_cases h4 : x = 4
  · simp [h4]
  by_cases h5 : x = 5
  · simp [h5]
  have a0 := lv_neT (a := 0) h0 rfl
  have a1 := lv_neT (a := 1) h1 rfl
  have a2 := lv_neT (a := 2) h2 rfl
  have a3 := lv_neT (a := 3) h3 rfl
  have a4 := lv_neT (a := 4) h4 rfl
  have a5 := lv_neT (a := 5) h5 rfl
  refine Or.inr (Or.inr (Or.inr (Or.inr (Or.inr (Or.inr (⟨by omega, h0, h1, h2, h3, h4, h5⟩))))))
