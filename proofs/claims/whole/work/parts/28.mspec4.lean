theorem m_flt {ar : Nat → Nat → Int32} {t x : Int32} {n : Nat} (hx : x = mFirst ar t n) (h : ¬ x < 0) (hn : n ≤ 120) : x.toNatClampNeg < n := by
  subst hx
  obtain ⟨j, hj, e⟩ := mFirst_in n hn h
  rw [e, nI_clamp (by omega)]; exact hj
theorem m_fin {ar : Nat → Nat → Int32} {t x : Int32} {n : Nat} (hx : x = mFirst ar t n) (h : ¬ x < 0) (hn : n ≤ 120) : vp_in x 120 := by
  subst hx
  obtain ⟨j, hj, e⟩ := mFirst_in n hn h
  rw [e]; exact vp_in_nI (by omega) (by decide)
