def fActM (x a : Int32) : Int32 := if a = 1 then x ||| 1 else if a = 5 then x ||| 4 else if a = 6 then x ||| 2 else if a = 9 then x &&& (-5) else x
theorem pa_mk : ∀ m, m < 8 → ∀ a, a < 10 → (a = 9 → ¬ fMarked (fun _ => nI m) 4 = 0) → fActM (nI m) (nI a) = (nI m ||| mOr (nI a)) - (if nI a = 9 then 4 else 0) ∧ (fActM (nI m) (nI a)).toNatClampNeg < 8 ∧ fActM (nI m) (nI a) = nI (fActM (nI m) (nI a)).toNatClampNeg := by decide +kernel
theorem upd_self {f : Nat → Int32} {k : Nat} : upd f k (f k) = f := by
  funext i; unfold upd; by_cases h : i = k
  · subst h; exact if_pos rfl
  · exact if_neg h
def mMk (ar : Nat → Nat → Int32) (j : Nat) (k : Int32) : Nat → Nat → Int32 := mSt (mSt ar 8 j (ar 8 j ||| mOr k)) 8 j ((mSt ar 8 j (ar 8 j ||| mOr k)) 8 j - (if k = 9 then 4 else 0))
theorem mMk_get {ar : Nat → Nat → Int32} {j p i : Nat} {k : Int32} : mMk ar j k p i = if p = 8 ∧ i = j then (ar 8 j ||| mOr k) - (if k = 9 then 4 else 0) else ar p i := by
  unfold mMk; rw [mSt_get, mSt_get, mSt_get]
  by_cases h : p = 8 ∧ i = j
  · simp [h]
  · simp [h]
theorem mk_row {f : Nat → Int32} {ar : Nat → Nat → Int32} {j a : Nat} (h : iRow f ar j) (ha : a < 10) (h9 : a = 9 → ¬ fMarked f 4 = 0) : iRow (upd f 4 (fActM (f 4) (nI a))) (mMk ar j (nI a)) j := by
  obtain ⟨a1, a2, a3, a4, a5, a6, a7, a8⟩ := h.all
  obtain ⟨m, hm, e4⟩ := h.2.2.2.1
  obtain ⟨q1, q2, q3⟩ := pa_mk m hm a ha (fun z => by
    have := h9 z
    rw [show fMarked f 4 = fMarked (fun _ => f 4) 4 from rfl, e4] at this
    exact this)
  refine iRow.mk' ?_ h.2.1 h.2.2.1 ⟨(fActM (nI m) (nI a)).toNatClampNeg, q2, ?_⟩ h.2.2.2.2
  · simp only [mMk_get, upd]
    refine ⟨by simp [a1], by simp [a2], by simp [a3], ?_, by simp [a5], by simp [a6], by simp [a7], by simp [a8]⟩
    simp only [if_true, and_self]
    rw [← a4, e4, q1]
  · show fActM (f 4) (nI a) = _
    rw [e4]; exact q3
theorem st_of {f : Nat → Int32} {a : Nat} (ha : a < 10) (hs : ¬ fStateAllows f (nI a) = 0) : (a = 0 → f 3 = 0) ∧ (a = 2 → f 3 = 1) ∧ (a = 3 → f 3 = 2) ∧ (a = 4 → f 3 = 3) ∧ (a = 5 → f 3 = 3) ∧ (a = 7 → f 3 = 4) ∧ (a = 8 → f 3 = 4 ∨ f 3 = 5) := by
  refine ⟨?_, ?_, ?_, ?_, ?_, ?_, ?_⟩ <;> intro e <;> subst e <;> simp [fStateAllows, n0, n2, n3, n4, n5, n7, n8] at hs
  · exact hs
  · exact hs
  · exact hs
  · exact hs
  · exact hs
  · exact hs.1
  · by_cases h4 : f 3 = 4
    · exact Or.inl h4
    · simp [h4] at hs; exact Or.inr hs
theorem mBec_same {ar : Nat → Nat → Int32} {j : Nat} {s t : Int32} (h : ar 7 j = s) : mBec ar j s t = ar := if_pos h
theorem act_row {f : Nat → Int32} {ar : Nat → Nat → Int32} {j a : Nat} {t : Int32} (h : iRow f ar j) (ha : a < 10) (hs : ¬ fStateAllows f (nI a) = 0) (hm : ¬ fMarksAllow f (nI a) = 0) : iRow (fAct f (nI a) t) (mBec (mMk ar j (nI a)) j (mThen (nI a) (ar 7 j)) t) j := by
  have h9 : a = 9 → ¬ fMarked f 4 = 0 := fun z => by subst z; simpa [fMarksAllow, n9] using hm
  have h2 := mk_row h ha h9
  obtain ⟨s0, s2, s3, s4, s5, s7, s8⟩ := st_of ha hs
  have h7 : mMk ar j (nI a) 7 j = ar 7 j := by rw [mMk_get]; simp
  rcases lt10 ha with rfl | rfl | rfl | rfl | rfl | rfl | rfl | rfl | rfl | rfl
  · have e : fActM (f 4) (nI 0) = f 4 := by simp [fActM, n0]
    rw [e, upd_self] at h2
    exact bec_row (s := 1) h2 (by omega) (by rw [s0 rfl]; decide)
  · rw [show mThen (nI 1) (ar 7 j) = ar 7 j by simp [mThen, n1], mBec_same h7]
    exact h2
  · have e : fActM (f 4) (nI 2) = f 4 := by simp [fActM, n2]
    rw [e, upd_self] at h2
    exact bec_row (s := 2) h2 (by omega) (by rw [s2 rfl]; decide)
  · have e : fActM (f 4) (nI 3) = f 4 := by simp [fActM, n3]
    rw [e, upd_self] at h2
    exact bec_row (s := 3) h2 (by omega) (by rw [s3 rfl]; decide)
  · have e : fActM (f 4) (nI 4) = f 4 := by simp [fActM, n4]
    rw [e, upd_self] at h2
    exact bec_row (s := 2) h2 (by omega) (by rw [s4 rfl]; decide)
  · exact bec_row (s := 2) h2 (by omega) (by show ¬ f 3 = _; rw [s5 rfl]; decide)
  · rw [show mThen (nI 6) (ar 7 j) = ar 7 j by simp [mThen, n6], mBec_same h7]
    exact h2
  · have e : fActM (f 4) (nI 7) = f 4 := by simp [fActM, n7]
    rw [e, upd_self] at h2
    exact bec_row (s := 5) h2 (by omega) (by rw [s7 rfl]; decide)
  · have e : fActM (f 4) (nI 8) = f 4 := by simp [fActM, n8]
    rw [e, upd_self] at h2
    exact bec_row (s := 7) h2 (by omega) (by rcases s8 rfl with z | z <;> rw [z] <;> decide)
  · rw [show mThen (nI 9) (ar 7 j) = ar 7 j by simp [mThen, n9], mBec_same h7]
    exact h2
theorem hap_row {f : Nat → Int32} {ar : Nat → Nat → Int32} {j a : Nat} {t : Int32} (h : iRow f ar j) (ha : a < 10) (hs : ¬ fStateAllows f (nI a) = 0) (hm : ¬ fMarksAllow f (nI a) = 0) : iRow (fCarry f (nI a) t) (mHap ar j (nI a) t) j := rel_row (act_row h ha hs hm)
theorem carry_09 {f : Nat → Int32} {a t : Int32} : fCarry f a t 0 = f 0 ∧ fCarry f a t 9 = f 9 := ⟨rel_09.1.trans act_09.1, rel_09.2.trans act_09.2⟩
/-- no refusal: state and marks allow it -/
theorem ref0 {g ro f v : Nat → Int32} (h : fRefusal g ro f v = 0) : ¬ fStateAllows f (v 1) = 0 ∧ ¬ fMarksAllow f (v 1) = 0 ∧ fBit (g 11) (v 1) = 0 := by
  unfold fRefusal at h
  by_cases c1 : fBit (g 11) (v 1) = 0
  · by_cases c2 : fMayTell g ro f v = 0
    · simp [c1, c2] at h
    · by_cases c4 : fStateAllows f (v 1) = 0
      · by_cases c3 : fOfficers (v 1) = 0
        · simp [c1, c2, c3, c4] at h
        · by_cases c6 : fOpen g (v 3) = 0 <;> simp [c1, c2, c3, c4, c6] at h
      · by_cases c5 : fMarksAllow f (v 1) = 0
        · by_cases c3 : fOfficers (v 1) = 0
          · simp [c1, c2, c3, c4, c5] at h
          · by_cases c6 : fOpen g (v 3) = 0 <;> simp [c1, c2, c3, c4, c5, c6] at h
        · exact ⟨c4, c5, c1⟩
  · simp [c1] at h
theorem ref1 {g ro f v : Nat → Int32} : fRefusal g ro f v = 1 ↔ ¬ fBit (g 11) (v 1) = 0 := by
  constructor
  · intro h z
    unfold fRefusal at h
    rw [if_pos z] at h
    revert h
    repeat' split
    all_goals decide
  · intro h; unfold fRefusal; rw [if_neg h]
/-- the reasons are 0 to 5 -/
theorem ref_le {g ro f v : Nat → Int32} : ∃ y, y ≤ 5 ∧ fRefusal g ro f v = nI y := by
  unfold fRefusal
  repeat' split
  all_goals first | exact ⟨0, by omega, rfl⟩ | exact ⟨1, by omega, rfl⟩ | exact ⟨2, by omega, rfl⟩ | exact ⟨3, by omega, rfl⟩ | exact ⟨4, by omega, rfl⟩ | exact ⟨5, by omega, rfl⟩
