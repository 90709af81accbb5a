-- pure rows: indices
theorem x_in {v : Int32} {N : Nat} {M : Int32} (hM : M.toInt = N) (h0 : ¬ v < 0) (h : ¬ M ≤ v) : vp_in v N := by
  rw [vp_in_iff]
  rw [Int32.lt_iff_toInt_lt, Int32.toInt_zero] at h0
  rw [Int32.le_iff_toInt_le, hM] at h
  omega
theorem x_lt {v : Int32} {n : Nat} (h0 : ¬ v < 0) (h : ¬ nI n ≤ v) (hn : n < 2 ^ 31) : v.toNatClampNeg < n := by
  obtain ⟨j, hj, rfl⟩ := nI_of h0
  rw [nI_clamp hj]
  rw [nI_leI hn hj] at h
  omega
theorem x_nI {v : Int32} (h0 : ¬ v < 0) : v = nI v.toNatClampNeg := by
  obtain ⟨j, hj, rfl⟩ := nI_of h0
  rw [nI_clamp hj]
theorem fPerson_in {g : Nat → Int32} {v : Int32} (h : ¬ fPerson g v = 0) : vp_in v 12 := by
  unfold fPerson at h
  by_cases h0 : v < 0
  · simp [h0] at h
  · by_cases h1 : g 1 ≤ v
    · simp [h0, h1] at h
    · by_cases h2 : (12 : Int32) ≤ v
      · simp [h0, h1, h2] at h
      · exact x_in rfl h0 h2
theorem fDeclAt_lt {g : Nat → Int32} {v : Int32} {n j : Nat} (hg : g 3 = nI n) (hn : n ≤ 20) (h : fDeclAt g v = some j) : j < n := by
  unfold fDeclAt at h
  by_cases h0 : v < 0
  · simp [h0] at h
  · by_cases h1 : g 3 ≤ v
    · simp [h0, h1] at h
    · by_cases h2 : (20 : Int32) ≤ v
      · simp [h0, h1, h2] at h
      · simp [h0, h1, h2] at h
        rw [hg] at h1
        rw [← h]; exact x_lt h0 h1 (by omega)
theorem fEvAt_lt {g : Nat → Int32} {v : Int32} {n j : Nat} (hg : g 5 = nI n) (hn : n ≤ 120) (h : fEvAt g v = some j) : j < n := by
  unfold fEvAt at h
  by_cases h0 : v < 0
  · simp [h0] at h
  · by_cases h1 : g 5 ≤ v
    · simp [h0, h1] at h
    · by_cases h2 : (120 : Int32) ≤ v
      · simp [h0, h1, h2] at h
      · simp [h0, h1, h2] at h
        rw [hg] at h1
        rw [← h]; exact x_lt h0 h1 (by omega)
