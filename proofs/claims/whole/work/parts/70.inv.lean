-- CLASS AND REFERENCE: what ties their numbers
theorem pa_fits : ∀ s, s < 8 → ∀ kd, kd < 3 → ∀ a, a < 10 → fStateAllows (fun k => if k = 3 then nI s else nI kd) (nI a) = mFits (nI s) (nI kd) (nI a) := by decide +kernel
theorem pa_marks : ∀ m, m < 8 → ∀ kd, kd < 3 → ∀ a, a < 10 → fMarksAllow (fun k => if k = 4 then nI m else nI kd) (nI a) = mMarked (nI m) (nI kd) (nI a) := by decide +kernel
theorem pa_off : ∀ a, a < 10 → fOfficers (nI a) = mOff (nI a) := by decide +kernel
theorem pa_has1 : ∀ m, m < 8 → fMarked (fun _ => nI m) 1 = mHas (nI m) 1 := by decide +kernel
theorem pa_has2 : ∀ m, m < 8 → fMarked (fun _ => nI m) 2 = mHas (nI m) 2 := by decide +kernel
theorem pa_has4 : ∀ m, m < 8 → fMarked (fun _ => nI m) 4 = mHas (nI m) 4 := by decide +kernel
theorem pa_ones : ∀ b, b < 256 → fBC (nI b) = onesL (nI b) 8 := by decide +kernel
theorem pa_bit : ∀ b, b < 256 → ∀ k, k < 8 → fBit (nI b) (nI k) = (if (nI b >>> (nI k &&& 31)) &&& 1 = 1 then 1 else 0) := by decide +kernel
theorem pa_flip : ∀ b, b < 256 → ∀ k, k < 8 → ∃ b', b' < 256 ∧ nI b ^^^ (1 : Int32) <<< (nI k &&& 31) = nI b' ∧ (fBit (nI b) (nI k) = 0 → nI b + (1 : Int32) <<< (nI k &&& 31) = nI b') ∧ (¬ fBit (nI b) (nI k) = 0 → nI b + -((1 : Int32) <<< (nI k &&& 31)) = nI b') := by
  intro b hb k hk
  refine ⟨b ^^^ 2 ^ k, ?_, ?_⟩
  · revert b k; decide +kernel
  · revert b k; decide +kernel
/-- numbers -/
def iNum (g h : Nat → Int32) (nP nD nE : Nat) : Prop := g 1 = nI nP ∧ h 2 = nI nP ∧ nP ≤ 12 ∧ g 3 = nI nD ∧ h 4 = nI nD ∧ nD ≤ 20 ∧ g 5 = nI nE ∧ h 13 = nI nE ∧ nE ≤ 120 ∧ g 8 = h 1 ∧ g 9 = h 22 ∧ g 10 = h 23
def iRol (ro : Nat → Int32) (ar : Nat → Nat → Int32) (nP : Nat) : Prop := ∀ i, i < nP → ro i = ar 3 i ∧ (ar 3 i = 0 ∨ ar 3 i = 1 ∨ ar 3 i = 2)
/-- a declaration's row -/
def iRow (f : Nat → Int32) (ar : Nat → Nat → Int32) (j : Nat) : Prop := (∀ k, 1 ≤ k → k ≤ 8 → f k = ar (k + 4) j) ∧ (∃ kd, kd < 3 ∧ f 1 = nI kd) ∧ (∃ s, s < 8 ∧ f 3 = nI s) ∧ (∃ m, m < 8 ∧ f 4 = nI m) ∧ (∃ b, b < 256 ∧ f 5 = nI b)
def iDec (d : Nat → Nat → Int32) (ar : Nat → Nat → Int32) (nD : Nat) : Prop := (∀ j, j < nD → d j 0 = nI j ∧ iRow (d j) ar j) ∧ ∀ j, nD ≤ j → ar 7 j = 0 ∧ ar 8 j = 0 ∧ ar 9 j = 0 ∧ ar 10 j = 0 ∧ ar 12 j = 0
def iFail (g : Nat → Int32) (ar : Nat → Nat → Int32) : Prop := ∀ k, k < 10 → fBit (g 11) (nI k) = ar 24 k
/-- events -/
def iEv (ed : Nat → Nat) (ev : Nat → Nat → Int32) (ar : Nat → Nat → Int32) (nP nD nE : Nat) : Prop := ∀ k, k < nE → ed k < nD ∧ ar 14 k = nI (ed k) ∧ (∃ a, a < 10 ∧ ev k 1 = nI a) ∧ ar 15 k = ev k 1 ∧ (∃ p, p < nP ∧ ev k 2 = nI p) ∧ ar 16 k = ev k 2 ∧ ar 17 k = ev k 3 ∧ ar 19 k = ev k 4 ∧ (ar 18 k = 0 ∨ ar 18 k = 1) ∧ (ar 18 k = 1 ↔ ev k 4 = -1)
def bef (ev : Nat → Nat → Int32) (a b : Nat) : Prop := ev a 3 < ev b 3 ∨ (ev a 3 = ev b 3 ∧ (ev a 1 < ev b 1 ∨ (ev a 1 = ev b 1 ∧ a < b)))
/-- those that wait -/
def iWai (g : Nat → Int32) (fst : Option Nat) (ev : Nat → Nat → Int32) (nx : Nat → Option Nat) (ar : Nat → Nat → Int32) (nE : Nat) (wl : List Nat) : Prop :=
  Chain nx wl fst ∧ wl.Nodup ∧ wl.Pairwise (bef ev) ∧ g 7 = nI wl.length ∧ wl.length ≤ 20 ∧ ∀ k, k ∈ wl ↔ k < nE ∧ ar 18 k = 1
/-- those that are written -/
def iWri (d : Nat → Nat → Int32) (fw lw : Nat → Option Nat) (ed : Nat → Nat) (nx : Nat → Option Nat) (ar : Nat → Nat → Int32) (nD nE : Nat) (wr : Nat → List Nat) : Prop :=
  ∀ j, j < nD → Chain nx (wr j) (fw j) ∧ lw j = (wr j).getLast? ∧ d j 9 = nI (wr j).length ∧ (wr j).Pairwise (fun a b => ar 20 a < ar 20 b) ∧ ∀ k, k ∈ wr j ↔ k < nE ∧ ed k = j ∧ ar 18 k = 0
def iTur (h : Nat → Int32) (ar : Nat → Nat → Int32) (nE : Nat) (wl : List Nat) : Prop := ∃ T, T + wl.length = nE ∧ h 21 = nI T ∧ ∀ k, k < nE → ar 18 k = 0 → ∃ t, t < T ∧ ar 20 k = nI t
def INV (g ro : Nat → Int32) (fst : Option Nat) (nD nE : Nat) (d : Nat → Nat → Int32) (fw lw : Nat → Option Nat) (ed : Nat → Nat) (ev : Nat → Nat → Int32) (nx : Nat → Option Nat) (h : Nat → Int32) (ar : Nat → Nat → Int32) (nP : Nat) (wl : List Nat) (wr : Nat → List Nat) : Prop :=
  iNum g h nP nD nE ∧ iRol ro ar nP ∧ iDec d ar nD ∧ iFail g ar ∧ iEv ed ev ar nP nD nE ∧ iWai g fst ev nx ar nE wl ∧ iWri d fw lw ed nx ar nD nE wr ∧ iTur h ar nE wl
theorem fits_eq {f : Nat → Int32} {ar : Nat → Nat → Int32} {j : Nat} (hr : iRow f ar j) {a : Nat} (ha : a < 10) : fStateAllows f (nI a) = mFits (ar 7 j) (ar 5 j) (nI a) := by
  obtain ⟨h0, ⟨kd, hkd, e1⟩, ⟨s, hs, e3⟩, -⟩ := hr
  rw [show fStateAllows f (nI a) = fStateAllows (fun k => if k = 3 then f 3 else f 1) (nI a) from rfl, ← h0 3 (by omega) (by omega), ← h0 1 (by omega) (by omega), e1, e3]
  exact pa_fits s hs kd hkd a ha
theorem marks_eq {f : Nat → Int32} {ar : Nat → Nat → Int32} {j : Nat} (hr : iRow f ar j) {a : Nat} (ha : a < 10) : fMarksAllow f (nI a) = mMarked (ar 8 j) (ar 5 j) (nI a) := by
  obtain ⟨h0, ⟨kd, hkd, e1⟩, -, ⟨m, hm, e4⟩, -⟩ := hr
  rw [show fMarksAllow f (nI a) = fMarksAllow (fun k => if k = 4 then f 4 else f 1) (nI a) from rfl, ← h0 4 (by omega) (by omega), ← h0 1 (by omega) (by omega), e1, e4]
  exact pa_marks m hm kd hkd a ha
theorem has_eq {f : Nat → Int32} {ar : Nat → Nat → Int32} {j : Nat} (hr : iRow f ar j) : fMarked f 1 = mHas (ar 8 j) 1 ∧ fMarked f 2 = mHas (ar 8 j) 2 ∧ fMarked f 4 = mHas (ar 8 j) 4 := by
  obtain ⟨h0, -, -, ⟨m, hm, e4⟩, -⟩ := hr
  rw [show fMarked f 1 = fMarked (fun _ => f 4) 1 from rfl, show fMarked f 2 = fMarked (fun _ => f 4) 2 from rfl, show fMarked f 4 = fMarked (fun _ => f 4) 4 from rfl, ← h0 4 (by omega) (by omega), e4]
  exact ⟨pa_has1 m hm, pa_has2 m hm, pa_has4 m hm⟩
