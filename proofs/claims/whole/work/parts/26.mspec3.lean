theorem m_inE {v a : Int32} {n N : Nat} (h0 : ¬ v < 0) (h : ¬ a ≤ v) (ha : a = nI n) (hn : n ≤ N) (hN : N < 2 ^ 31) : vp_in v N := by
  obtain ⟨j, hj, rfl⟩ := nI_of h0
  rw [ha, nI_leI (by omega) hj] at h
  exact vp_in_nI (by omega) hN
def mPick (ar : Nat → Nat → Int32) (t : Int32) (n : Nat) (f : Int32) : Int32 := if ar 18 n = 0 then f else if t < ar 17 n then f else if 0 ≤ f then
      (if ar 17 n < ar 17 f.toNatClampNeg then nI n else if ar 17 n = ar 17 f.toNatClampNeg then (if ar 15 f.toNatClampNeg ≤ ar 15 n then f else nI n) else f) else nI n
def mFirst (ar : Nat → Nat → Int32) (t : Int32) : Nat → Int32
  | 0 => -1
  | n + 1 => mPick ar t n (mFirst ar t n)
theorem mPick_or (ar : Nat → Nat → Int32) (t : Int32) (n : Nat) (f : Int32) : mPick ar t n f = f ∨ mPick ar t n f = nI n := by
  unfold mPick; repeat' split
  all_goals first | exact Or.inl rfl | exact Or.inr rfl
theorem mSt_ne {ar : Nat → Nat → Int32} {p j q : Nat} {v : Int32} (h : q ≠ p) : mSt ar p j v q = ar q := upf_ne h
theorem mSt_eq {ar : Nat → Nat → Int32} {p j : Nat} {v : Int32} : mSt ar p j v p = upd (ar p) j v := upf_eq
theorem mBec_ne {ar : Nat → Nat → Int32} {j q : Nat} {s t : Int32} (h7 : q ≠ 7) (h10 : q ≠ 10) (h11 : q ≠ 11) : mBec ar j s t q = ar q := by
  unfold mBec; split
  · rfl
  · rw [mSt_ne h11, mSt_ne h10, mSt_ne h7]
theorem mRel_ne {ar : Nat → Nat → Int32} {j q : Nat} {t : Int32} (h7 : q ≠ 7) (h10 : q ≠ 10) (h11 : q ≠ 11) : mRel ar j t q = ar q := by
  unfold mRel; repeat' split
  all_goals first | rfl | exact mBec_ne h7 h10 h11
theorem mHap_ne {ar : Nat → Nat → Int32} {j q : Nat} {k t : Int32} (h7 : q ≠ 7) (h8 : q ≠ 8) (h10 : q ≠ 10) (h11 : q ≠ 11) : mHap ar j k t q = ar q := by
  unfold mHap; rw [mRel_ne h7 h10 h11, mBec_ne h7 h10 h11, mSt_ne h8, mSt_ne h8]
theorem mWhyA_ne {ar : Nat → Nat → Int32} {e q : Nat} (h : q ≠ 24) : mWhyA ar e q = ar q := by
  unfold mWhyA; split
  · rfl
  · exact mSt_ne h
def mStB (h : Nat → Int32) (ar : Nat → Nat → Int32) (e : Nat) : Nat → Nat → Int32 := mSt (if mWhy h ar e = 0 then mHap (mWhyA ar e) (ar 14 e).toNatClampNeg (ar 15 e) (ar 17 e) else mWhyA ar e) 18 e 0
def mStepA (h : Nat → Int32) (ar : Nat → Nat → Int32) (e : Nat) : Nat → Nat → Int32 :=
  mSt (mSt (mStB h ar e) 19 e (if mWhy h ar e ≤ 0 then mStB h ar e 7 (ar 14 e).toNatClampNeg else -1 - mWhy h ar e)) 20 e (h 21)
def mStepH (h : Nat → Int32) : Nat → Int32 := upd h 21 (h 21 + 1)
theorem mStB_ne {h : Nat → Int32} {ar : Nat → Nat → Int32} {e q : Nat} (h7 : q ≠ 7) (h8 : q ≠ 8) (h10 : q ≠ 10) (h11 : q ≠ 11) (h18 : q ≠ 18) (h24 : q ≠ 24) : mStB h ar e q = ar q := by
  unfold mStB; rw [mSt_ne h18]; split
  · rw [mHap_ne h7 h8 h10 h11, mWhyA_ne h24]
  · exact mWhyA_ne h24
theorem mStep_ne {h : Nat → Int32} {ar : Nat → Nat → Int32} {e q : Nat} (h7 : q ≠ 7) (h8 : q ≠ 8) (h10 : q ≠ 10) (h11 : q ≠ 11) (h18 : q ≠ 18) (h19 : q ≠ 19) (h20 : q ≠ 20) (h24 : q ≠ 24) : mStepA h ar e q = ar q := by
  unfold mStepA; rw [mSt_ne h20, mSt_ne h19, mStB_ne h7 h8 h10 h11 h18 h24]
def mOk (ar : Nat → Nat → Int32) (n : Nat) : Prop := ∀ e, e < n → vp_in (ar 16 e) 12 ∧ vp_in (ar 14 e) 20 ∧ vp_in (ar 15 e) 10
theorem mOk_step {h : Nat → Int32} {ar : Nat → Nat → Int32} {e n : Nat} (hk : mOk ar n) : mOk (mStepA h ar e) n := by
  intro i hi
  rw [mStep_ne (q := 16), mStep_ne (q := 14), mStep_ne (q := 15)] <;> first | exact hk i hi | decide
def mDone (t : Int32) (nE : Nat) : Nat → (Nat → Int32) → (Nat → Nat → Int32) → Prop
  | 0, _, _ => False
  | n + 1, h, ar => mFirst ar t nE < 0 ∨ (¬ mFirst ar t nE < 0 ∧ mDone t nE n (mStepH h) (mStepA h ar (mFirst ar t nE).toNatClampNeg))
def mRun (t : Int32) (nE : Nat) : Nat → (Nat → Int32) → (Nat → Nat → Int32) → Int32 → (Nat → Int32) × (Nat → Nat → Int32) × Int32
  | 0, h, ar, c => (h, ar, c)
  | n + 1, h, ar, c => if mFirst ar t nE < 0 then (h, ar, c) else mRun t nE n (mStepH h) (mStepA h ar (mFirst ar t nE).toNatClampNeg) (c + 1)
def mTickC (h : Nat → Int32) (t : Int32) : Int32 := if mIn t (h 1) 100000 = 0 then 1 else 0
def mTickF (h : Nat → Int32) (ar : Nat → Nat → Int32) (N nE : Nat) (t : Int32) : (Nat → Int32) × (Nat → Nat → Int32) × Int32 := if mTickC h t = 0 then (upd (mRun t nE N (upd h 0 0) ar 0).1 1 t, (mRun t nE N (upd h 0 0) ar 0).2) else (upd h 0 1, ar, 0)
theorem mFirst_in {ar : Nat → Nat → Int32} {t : Int32} (n : Nat) (hn : n ≤ 120) (h : ¬ mFirst ar t n < 0) : ∃ j, j < n ∧ mFirst ar t n = nI j := by
  induction n with
  | zero => exact absurd (show (-1 : Int32) < 0 by decide) h
  | succ n ih =>
    have e0 : mFirst ar t (n + 1) = mPick ar t n (mFirst ar t n) := rfl
    rcases mPick_or ar t n (mFirst ar t n) with e | e
    · rw [e0, e] at h ⊢
      obtain ⟨j, hj, e2⟩ := ih (by omega) h
      exact ⟨j, by omega, e2⟩
    · exact ⟨n, by omega, e0.trans e⟩
def mAhead (ar : Nat → Nat → Int32) (d : Int32) (e : Nat) : Nat → Int32
  | 0 => 0
  | n + 1 => mAhead ar d e n + (if ar 14 n = d then (if ar 18 n = 0 then (if ar 20 e ≤ ar 20 n then 0 else 1) else 0) else 0)
/-- from e on: the first that is the i-th -/
def mWr (ar : Nat → Nat → Int32) (d i : Int32) (nE : Nat) : Nat → Nat → Int32
  | 0, _ => -1
  | n + 1, e => if ar 14 e = d then (if ar 18 e = 0 then (if mAhead ar d e nE = i then 16 * (ar 19 e + 8) + ar 15 e else mWr ar d i nE n (e + 1)) else mWr ar d i nE n (e + 1)) else mWr ar d i nE n (e + 1)
def mWrittenR (h : Nat → Int32) (ar : Nat → Nat → Int32) (nE : Nat) (d i : Int32) : Int32 := if mOne h d = 0 then 0 else mWr ar d i nE nE 0
theorem x_sw0_7 (x : Int32) : x = 0 ∨ x = 1 ∨ x = 2 ∨ x = 3 ∨ x = 4 ∨ x = 5 ∨ x = 6 ∨ x = 7 ∨ ((x.toInt < 0 ∨ 7 < x.toInt) ∧ ¬ x = 0 ∧ ¬ x = 1 ∧ ¬ x = 2 ∧ ¬ x = 3 ∧ ¬ x = 4 ∧ ¬ x = 5 ∧ ¬ x = 6 ∧ ¬ x = 7) := by
  by_cases h0 : x = 0
  · simp [h0]
  by_cases h1 : x = 1
  · simp [h1]
  by_cases h2 : x = 2
  · simp [h2]
  by_cases h3 : x = 3
  · simp [h3]
  by_cases h4 : x = 4
  · simp [h4]
  by_cases h5 : x = 5
  · simp [h5]
  by_cases h6 : x = 6
  · simp [h6]
  by_cases h7 : x = 7
  · simp [h7]
  have a0 := lv_neT (a := 0) h0 rfl
  have a1 := lv_neT (a := 1) h1 rfl
  have a2 := lv_neT (a := 2) h2 rfl
  have a3 := lv_neT (a := 3) h3 rfl
  have a4 := lv_neT (a := 4) h4 rfl
  have a5 := lv_neT (a := 5) h5 rfl
  have a6 := lv_neT (a := 6) h6 rfl
  have a7 := lv_neT (a := 7) h7 rfl
  refine Or.inr (Or.inr (Or.inr (Or.inr (Or.inr (Or.inr (Or.inr (Or.inr (⟨by omega, h0, h1, h2, h3, h4, h5, h6, h7⟩))))))))
theorem x_sw0_11 (x : Int32) : x = 0 ∨ x = 1 ∨ x = 2 ∨ x = 3 ∨ x = 4 ∨ x = 5 ∨ x = 6 ∨ x = 7 ∨ x = 8 ∨ x = 9 ∨ x = 10 ∨ x = 11 ∨ ((x.toInt < 0 ∨ 11 < x.toInt) ∧ ¬ x = 0 ∧ ¬ x = 1 ∧ ¬ x = 2 ∧ ¬ x = 3 ∧ ¬ x = 4 ∧ ¬ x = 5 ∧ ¬ x = 6 ∧ ¬ x = 7 ∧ ¬ x = 8 ∧ ¬ x = 9 ∧ ¬ x = 10 ∧ ¬ x = 11) := by
  by_cases h0 : x = 0
  · simp [h0]
  by_cases h1 : x = 1
  · simp [h1]
  by_cases h2 : x = 2
  · simp [h2]
  by_cases h3 : x = 3
  · simp [h3]
  by_cases h4 : x = 4
  · simp [h4]
  by_cases h5 : x = 5
  · simp [h5]
  by_cases h6 : x = 6
  · simp [h6]
  by_cases h7 : x = 7
  · simp [h7]
  by_cases h8 : x = 8
  · simp [h8]
  by_cases h9 : x = 9
  · simp [h9]
  by_cases h10 : x = 10
  · simp [h10]
  by_cases h11 : x = 11
  · simp [h11]
  have a0 := lv_neT (a := 0) h0 rfl
  have a1 := lv_neT (a := 1) h1 rfl
  have a2 := lv_neT (a := 2) h2 rfl
  have a3 := lv_neT (a := 3) h3 rfl
  have a4 := lv_neT (a := 4) h4 rfl
  have a5 := lv_neT (a := 5) h5 rfl
  have a6 := lv_neT (a := 6) h6 rfl
  have a7 := lv_neT (a := 7) h7 rfl
  have a8 := lv_neT (a := 8) h8 rfl
  have a9 := lv_neT (a := 9) h9 rfl
  have a10 := lv_neT (a := 10) h10 rfl
  have a11 := lv_neT (a := 11) h11 rfl
  refine Or.inr (Or.inr (Or.inr (Or.inr (Or.inr (Or.inr (Or.inr (Or.inr (Or.inr (Or.inr (Or.inr (Or.inr (⟨by omega, h0, h1, h2, h3, h4, h5, h6, h7, h8, h9, h10, h11⟩))))))))))))
