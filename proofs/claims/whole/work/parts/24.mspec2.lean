theorem m_in {x : Int32} {n N : Nat} {M : Int32} (hx : x = nI n) (hn : n ≤ N) (hM : M = nI N) (hN : N < 2 ^ 31) (hne : ¬ x = M) : vp_in x N := by
  subst hx hM
  rw [nI_eq (by omega) hN] at hne
  exact vp_in_nI (by omega) hN
theorem m_inB {x a : Int32} {i n N : Nat} (hx : x = nI i) (ha : a = nI n) (h : ¬ a ≤ x) (hi : i < 2 ^ 31) (hn : n ≤ N) (hN : N < 2 ^ 31) : vp_in x N := by
  have := x_ltn hx ha h hi (by omega)
  subst hx
  exact vp_in_nI (by omega) hN
theorem mIn_in {k M : Int32} {N : Nat} (hM : M.toInt + 1 = N) (h : ¬ mIn k 0 M = 0) : vp_in k N := by
  unfold mIn at h
  by_cases h0 : k < 0
  · simp [h0] at h
  · by_cases h1 : M < k
    · simp [h0, h1] at h
    · rw [vp_in_iff]
      rw [Int32.lt_iff_toInt_lt, Int32.toInt_zero] at h0
      rw [Int32.lt_iff_toInt_lt] at h1
      omega
theorem mPers_in {h : Nat → Int32} {v : Int32} {n N : Nat} (hp : h 2 = nI n) (hn : n ≤ N) (hN : N < 2 ^ 31) (hx : ¬ mPers h v = 0) : vp_in v N := by
  unfold mPers at hx
  by_cases h0 : v < 0
  · simp [h0] at hx
  · by_cases h1 : h 2 ≤ v
    · simp [h0, h1] at hx
    · rw [hp] at h1
      obtain ⟨j, hj, rfl⟩ := nI_of h0
      rw [nI_leI (by omega) hj] at h1
      exact vp_in_nI (by omega) hN
theorem mOne_in {h : Nat → Int32} {v : Int32} {n N : Nat} (hp : h 4 = nI n) (hn : n ≤ N) (hN : N < 2 ^ 31) (hx : ¬ mOne h v = 0) : vp_in v N := by
  unfold mOne at hx
  by_cases h0 : v < 0
  · simp [h0] at hx
  · by_cases h1 : h 4 ≤ v
    · simp [h0, h1] at hx
    · rw [hp] at h1
      obtain ⟨j, hj, rfl⟩ := nI_of h0
      rw [nI_leI (by omega) hj] at h1
      exact vp_in_nI (by omega) hN
def mPersonC (h : Nat → Int32) (v : Int32) : Int32 := if mIn v 0 2 = 0 then 1 else if h 2 = 12 then 2 else 0
def mPersonH (h : Nat → Int32) (v : Int32) : Nat → Int32 := if mPersonC h v = 0 then upd (upd h 0 0) 2 (h 2 + 1) else upd h 0 (mPersonC h v)
def mPersonA (h : Nat → Int32) (ar : Nat → Nat → Int32) (v : Int32) : Nat → Nat → Int32 := if mPersonC h v = 0 then mSt ar 3 (h 2).toNatClampNeg v else ar
def mPersonR (h : Nat → Int32) (v : Int32) : Int32 := if mPersonC h v = 0 then h 2 + 1 - 1 else 0
def mDeclC (h : Nat → Int32) (ar : Nat → Nat → Int32) (k t : Int32) : Int32 := if mIn k 0 2 = 0 then 1 else if mPers h t = 0 then 1 else if ar 3 t.toNatClampNeg = 0 then (if h 4 = 20 then 2 else 0) else 1
def mDeclH (h : Nat → Int32) (ar : Nat → Nat → Int32) (k t : Int32) : Nat → Int32 := if mDeclC h ar k t = 0 then upd (upd h 0 0) 4 (h 4 + 1) else upd h 0 (mDeclC h ar k t)
def mDeclA (h : Nat → Int32) (ar : Nat → Nat → Int32) (k t : Int32) : Nat → Nat → Int32 := if mDeclC h ar k t = 0 then mSt (mSt (mSt ar 5 (h 4).toNatClampNeg k) 6 (h 4).toNatClampNeg t) 11 (h 4).toNatClampNeg (-1) else ar
def mDeclR (h : Nat → Int32) (ar : Nat → Nat → Int32) (k t : Int32) : Int32 := if mDeclC h ar k t = 0 then h 4 + 1 - 1 else 0
def mEvC (h : Nat → Int32) (ar : Nat → Nat → Int32) (n : Nat) (d k w t : Int32) : Int32 :=
  if mOne h d = 0 then 1 else if mIn k 0 9 = 0 then 1 else if mPers h w = 0 then 1 else if t ≤ h 1 then 1 else if t ≤ 100000 then (if h 13 = 120 then 2 else if mCntW ar n = 20 then 2 else 0) else 1
def mEvH (h : Nat → Int32) (ar : Nat → Nat → Int32) (n : Nat) (d k w t : Int32) : Nat → Int32 := if mEvC h ar n d k w t = 0 then upd (upd h 0 0) 13 (h 13 + 1) else upd h 0 (mEvC h ar n d k w t)
def mEvA (h : Nat → Int32) (ar : Nat → Nat → Int32) (n : Nat) (d k w t : Int32) : Nat → Nat → Int32 := if mEvC h ar n d k w t = 0 then mSt (mSt (mSt (mSt (mSt (mSt ar 14 (h 13).toNatClampNeg d) 15 (h 13).toNatClampNeg k) 16 (h 13).toNatClampNeg w) 17 (h 13).toNatClampNeg t) 18 (h 13).toNatClampNeg 1) 19 (h 13).toNatClampNeg (-1) else ar
def mEvR (h : Nat → Int32) (ar : Nat → Nat → Int32) (n : Nat) (d k w t : Int32) : Int32 := if mEvC h ar n d k w t = 0 then h 13 + 1 - 1 else 0
def mHoursR (a b : Int32) : Int32 := if mIn a 0 24 = 0 then 0 else if mIn b 0 24 = 0 then 0 else if a < b then 1 else 0
def mHours (h : Nat → Int32) (a b : Int32) : Nat → Int32 := if mHoursR a b = 0 then upd h 0 0 else upd (upd (upd h 0 0) 22 a) 23 b
def mFailsR (ar : Nat → Nat → Int32) (k on : Int32) : Int32 := if mIn k 0 9 = 0 then 0 else if ar 24 k.toNatClampNeg = on then 0 else 1
def mFailsA (ar : Nat → Nat → Int32) (k on : Int32) : Nat → Nat → Int32 := if mFailsR ar k on = 0 then ar else mSt ar 24 k.toNatClampNeg on
def mBarC (h : Nat → Int32) (d k : Int32) : Int32 := if mOne h d = 0 then 1 else if mIn k 0 7 = 0 then 1 else 0
def mBarN (ar : Nat → Nat → Int32) (j : Nat) (k on : Int32) : Int32 := if ar 7 j = 6 then 1 else if ar 7 j = 7 then 1 else if (ar 9 j >>> (k &&& 31)) &&& 1 = 1 then (if 1 = on then 1 else 0) else if 0 = on then 1 else 0
def mBarS (ar : Nat → Nat → Int32) (j : Nat) (k on : Int32) : Nat → Nat → Int32 := mSt ar 9 j (ar 9 j + (if on = 0 then -((1 : Int32) <<< (k &&& 31)) else (1 : Int32) <<< (k &&& 31)))
def mBarT (h : Nat → Int32) (ar : Nat → Nat → Int32) (j : Nat) (k on : Int32) : Nat → Nat → Int32 := if on = 0 then mRel (mBarS ar j k on) j (h 1) else mBarS ar j k on
def mBarA (h : Nat → Int32) (ar : Nat → Nat → Int32) (d k on : Int32) : Nat → Nat → Int32 := if mBarC h d k = 0 then (if mBarN ar d.toNatClampNeg k on = 0 then mBarT h ar d.toNatClampNeg k on else ar) else ar
def mBarR (h : Nat → Int32) (ar : Nat → Nat → Int32) (d k on : Int32) : Int32 := if mBarC h d k = 0 then (if mBarN ar d.toNatClampNeg k on = 0 then onesL (mBarT h ar d.toNatClampNeg k on 9 d.toNatClampNeg) 8 else -1) else 0
def mInvC (h : Nat → Int32) (d w y : Int32) : Int32 := if mOne h d = 0 then 1 else if mPers h w = 0 then 1 else if mIn y 0 9 = 0 then 1 else 0
def mInvV (ar : Nat → Nat → Int32) (j : Nat) (w y : Int32) : Int32 :=
  if ar 3 w.toNatClampNeg = 1 then (if 4 < ar 7 j then 0 else if ar 7 j ≤ 1 then (if ar 7 j = 4 then (if ar 11 j = w then 0 else if ar 11 j = -1 then 2 else 1) else 1) else if y = 0 then 0 else if ar 7 j = 4 then (if ar 11 j = w then 0 else if ar 11 j = -1 then 2 else 1) else 1) else 0
def mInvR (h : Nat → Int32) (ar : Nat → Nat → Int32) (d w y : Int32) : Int32 := if mInvC h d w y = 0 then mInvV ar d.toNatClampNeg w y else 0
def mInvA (h : Nat → Int32) (ar : Nat → Nat → Int32) (d w y : Int32) : Nat → Nat → Int32 := if mInvC h d w y = 0 then (if mInvV ar d.toNatClampNeg w y = 2 then mSt ar 11 d.toNatClampNeg w else if mInvV ar d.toNatClampNeg w y = 1 then mSt (mBec ar d.toNatClampNeg 6 (h 1)) 12 d.toNatClampNeg y else ar) else ar
def mLookC (h : Nat → Int32) (d x : Int32) : Int32 := if mOne h d = 0 then 1 else if mIn x 0 8 = 0 then 1 else 0
def mLookV (ar : Nat → Nat → Int32) (n : Nat) (d x : Int32) : Int32 :=
  if x = 0 then ar 7 d.toNatClampNeg else if x = 1 then ar 5 d.toNatClampNeg else if x = 2 then ar 6 d.toNatClampNeg else if x = 3 then ar 8 d.toNatClampNeg else if x = 4 then ar 9 d.toNatClampNeg else if x = 5 then mCntO ar d n else if x = 6 then ar 10 d.toNatClampNeg else if x = 7 then ar 11 d.toNatClampNeg else ar 12 d.toNatClampNeg
def mLookR (h : Nat → Int32) (ar : Nat → Nat → Int32) (n : Nat) (d x : Int32) : Int32 := if mLookC h d x = 0 then mLookV ar n d x else 0
def mOfC (h : Nat → Int32) (e x : Int32) : Int32 := if e < 0 then 1 else if h 13 ≤ e then 1 else if mIn x 0 5 = 0 then 1 else 0
def mOfV (ar : Nat → Nat → Int32) (e x : Int32) : Int32 :=
  if x = 0 then ar 14 e.toNatClampNeg else if x = 1 then ar 15 e.toNatClampNeg else if x = 2 then ar 16 e.toNatClampNeg else if x = 3 then ar 17 e.toNatClampNeg else if x = 4 then (if ar 18 e.toNatClampNeg = 0 then 0 else 1) else ar 19 e.toNatClampNeg
def mOfR (h : Nat → Int32) (ar : Nat → Nat → Int32) (e x : Int32) : Int32 := if mOfC h e x = 0 then mOfV ar e x else 0
def mCountR (h : Nat → Int32) (ar : Nat → Nat → Int32) (nD nE : Nat) (x : Int32) : Int32 :=
  if x < 10 then (if x = 0 then h 2 else if x = 1 then h 4 else if x = 2 then h 13 else if x = 3 then mCntW ar nE else if x = 4 then h 1 else -1) else if 18 ≤ x then -1 else mCntS ar (x - 10) nD
