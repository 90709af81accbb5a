theorem mSt_get {ar : Nat → Nat → Int32} {p j q i : Nat} {v : Int32} : mSt ar p j v q i = if q = p ∧ i = j then v else ar q i := by
  unfold mSt upf
  by_cases h : q = p
  · subst h; simp [upd]
  · simp [h]
theorem row8 {P : Nat → Prop} (h1 : P 1) (h2 : P 2) (h3 : P 3) (h4 : P 4) (h5 : P 5) (h6 : P 6) (h7 : P 7) (h8 : P 8) : ∀ k, 1 ≤ k → k ≤ 8 → P k := by
  intro k a b
  rcases (show k = 1 ∨ k = 2 ∨ k = 3 ∨ k = 4 ∨ k = 5 ∨ k = 6 ∨ k = 7 ∨ k = 8 by omega) with rfl | rfl | rfl | rfl | rfl | rfl | rfl | rfl <;> assumption
theorem iRow.all {f : Nat → Int32} {ar : Nat → Nat → Int32} {j : Nat} (h : iRow f ar j) : f 1 = ar 5 j ∧ f 2 = ar 6 j ∧ f 3 = ar 7 j ∧ f 4 = ar 8 j ∧ f 5 = ar 9 j ∧ f 6 = ar 10 j ∧ f 7 = ar 11 j ∧ f 8 = ar 12 j :=
  ⟨h.1 1 (by omega) (by omega), h.1 2 (by omega) (by omega), h.1 3 (by omega) (by omega), h.1 4 (by omega) (by omega), h.1 5 (by omega) (by omega), h.1 6 (by omega) (by omega), h.1 7 (by omega) (by omega), h.1 8 (by omega) (by omega)⟩
theorem iRow.mk' {f : Nat → Int32} {ar : Nat → Nat → Int32} {j : Nat} (h : f 1 = ar 5 j ∧ f 2 = ar 6 j ∧ f 3 = ar 7 j ∧ f 4 = ar 8 j ∧ f 5 = ar 9 j ∧ f 6 = ar 10 j ∧ f 7 = ar 11 j ∧ f 8 = ar 12 j) (h1 : ∃ kd, kd < 3 ∧ f 1 = nI kd) (h3 : ∃ s, s < 8 ∧ f 3 = nI s) (h4 : ∃ m, m < 8 ∧ f 4 = nI m) (h5 : ∃ b, b < 256 ∧ f 5 = nI b) : iRow f ar j :=
  ⟨row8 h.1 h.2.1 h.2.2.1 h.2.2.2.1 h.2.2.2.2.1 h.2.2.2.2.2.1 h.2.2.2.2.2.2.1 h.2.2.2.2.2.2.2, h1, h3, h4, h5⟩
/-- a state that changes -/
theorem bec_row {f : Nat → Int32} {ar : Nat → Nat → Int32} {j s : Nat} {t : Int32} (h : iRow f ar j) (hs : s < 8) (hne : ¬ f 3 = nI s) : iRow (fBecome f (nI s) t) (mBec ar j (nI s) t) j := by
  obtain ⟨a1, a2, a3, a4, a5, a6, a7, a8⟩ := h.all
  have hne' : ¬ ar 7 j = nI s := by rw [← a3]; exact hne
  refine iRow.mk' ?_ h.2.1 ⟨s, hs, rfl⟩ h.2.2.2.1 h.2.2.2.2
  simp [fBecome, mBec, hne', mSt_get, upd, a1, a2, a4, a5, a8]
theorem bec_off {ar : Nat → Nat → Int32} {j i p : Nat} {s t : Int32} (hi : i ≠ j) : mBec ar j s t p i = ar p i := by
  unfold mBec; split
  · rfl
  · simp [mSt_get, hi]
theorem rel_off {ar : Nat → Nat → Int32} {j i p : Nat} {t : Int32} (hi : i ≠ j) : mRel ar j t p i = ar p i := by
  unfold mRel; repeat' split
  all_goals first | rfl | exact bec_off hi
theorem hap_off {ar : Nat → Nat → Int32} {j i p : Nat} {k t : Int32} (hi : i ≠ j) : mHap ar j k t p i = ar p i := by
  unfold mHap; rw [rel_off hi, bec_off hi]; simp [mSt_get, hi]
theorem rel_09 {f : Nat → Int32} {t : Int32} : fRelease f t 0 = f 0 ∧ fRelease f t 9 = f 9 := by
  unfold fRelease; repeat' split
  all_goals exact ⟨rfl, rfl⟩
theorem act_09 {f : Nat → Int32} {a t : Int32} : fAct f a t 0 = f 0 ∧ fAct f a t 9 = f 9 := by
  unfold fAct; repeat' split
  all_goals exact ⟨rfl, rfl⟩
/-- release -/
theorem rel_row {f : Nat → Int32} {ar : Nat → Nat → Int32} {j : Nat} {t : Int32} (h : iRow f ar j) : iRow (fRelease f t) (mRel ar j t) j := by
  obtain ⟨a1, a2, a3, a4, a5, a6, a7, a8⟩ := h.all
  obtain ⟨b1, b2, b4⟩ := has_eq h
  obtain ⟨kd, hkd, ek⟩ := h.2.1
  have hk : 0 < ar 5 j ↔ ¬ ar 5 j = 0 := by
    rw [← a1, ek]
    rcases (show kd = 0 ∨ kd = 1 ∨ kd = 2 by omega) with rfl | rfl | rfl <;> decide
  have hb : ar 7 j = 2 → iRow (fBecome f 4 t) (mBec ar j 4 t) j := fun h2 => bec_row (s := 4) h (by omega) (by rw [a3, h2]; decide)
  unfold fRelease mRel
  rw [b1, b2, b4, a3, a5, a1]
  by_cases c1 : ar 7 j = 2
  · have hb := hb c1
    by_cases c5 : ar 5 j = 0
    · have c6 : ¬ 0 < ar 5 j := fun z => hk.mp z c5
      simp only [c1, c5, if_true, if_false]
      simp only [show ¬ (0 : Int32) < 0 by decide, if_false]
      repeat' split
      all_goals first | exact h | exact hb
    · have c6 : 0 < ar 5 j := hk.mpr c5
      simp only [c1, c5, c6, if_true, if_false]
      repeat' split
      all_goals first | exact h | exact hb
  · simp only [c1, if_false]; exact h
