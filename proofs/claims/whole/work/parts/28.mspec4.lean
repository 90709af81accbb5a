theorem m_flt {ar : Nat → Nat → Int32} {t x : Int32} {n : Nat} (hx : x = mFirst ar t n) (h : ¬ x < 0) (hn : n ≤ 120) : x.toNatClampNeg < n := by
  subst hx
  obtain ⟨j, hj, e⟩ := mFirst_in n hn h
  rw [e, nI_clamp (by omega)]; exact hj
theorem m_fin {ar : Nat → Nat → Int32} {t x : Int32} {n : Nat} (hx : x = mFirst ar t n) (h : ¬ x < 0) (hn : n ≤ 120) : vp_in x 120 := by
  subst hx
  obtain ⟨j, hj, e⟩ := mFirst_in n hn h
  rw [e]; exact vp_in_nI (by omega) (by decide)
theorem mWr_at {ar : Nat → Nat → Int32} {d i9 : Int32} {nE e : Nat} (h : e < nE) : mWr ar d i9 nE (nE - e) e = (if ar 14 e = d then (if ar 18 e = 0 then (if mAhead ar d e nE = i9 then 16 * (ar 19 e + 8) + ar 15 e else mWr ar d i9 nE (nE - (e + 1)) (e + 1)) else mWr ar d i9 nE (nE - (e + 1)) (e + 1)) else mWr ar d i9 nE (nE - (e + 1)) (e + 1)) := by
  rw [show nE - e = (nE - (e + 1)) + 1 by omega]; rfl
