-- WHAT EACH METHOD OF THE REFERENCE ANSWERS AND DOES
def mIn (v a b : Int32) : Int32 := if v < a then 0 else if b < v then 0 else 1
def mPers (h : Nat → Int32) (v : Int32) : Int32 := if v < 0 then 0 else if h 2 ≤ v then 0 else 1
def mOne (h : Nat → Int32) (v : Int32) : Int32 := if v < 0 then 0 else if h 4 ≤ v then 0 else 1
def mOff (k : Int32) : Int32 := if k ≤ 1 then (if k = 8 then 1 else 0) else if k < 6 then 1 else if k = 8 then 1 else 0
def mMay (k who rl tr : Int32) : Int32 := if mOff k = 0 then (if k = 1 then (if rl = 1 then 0 else 1) else if k = 7 then (if rl = 2 then 1 else 0) else if who = tr then 1 else 0) else if rl = 1 then 1 else 0
def mFits (s kd k : Int32) : Int32 :=
  if k = 0 then (if s = 0 then 1 else 0) else if k = 1 then (if 3 ≤ s then 0 else 1) else if k = 2 then (if s = 1 then 1 else 0) else if k = 3 then (if s = 2 then 1 else 0) else if k = 4 then (if s = 3 then 1 else 0) else if k = 5 then (if s = 3 then 1 else 0)
  else if k = 7 then (if s = 4 then (if kd ≤ 0 then 0 else 1) else 0) else if k = 8 then (if s = 4 then (if kd = 0 then 1 else if s = 5 then 1 else 0) else if s = 5 then 1 else 0) else (if s = 2 then 1 else if s = 3 then 1 else 0)
def mHas (mk m : Int32) : Int32 := if mk &&& m ≤ 0 then 0 else 1
def mMarked (mk kd k : Int32) : Int32 := if k = 1 then (if mHas mk 1 = 0 then 1 else 0) else if k = 2 then (if kd = 1 then 1 else if mHas mk 1 = 0 then 0 else 1) else if k = 6 then (if mHas mk 2 = 0 then 1 else 0) else if k = 9 then (if mHas mk 4 = 0 then 0 else 1) else 1
def mFM (s kd mk k : Int32) : Int32 := if mFits s kd k = 0 then 4 else if mMarked mk kd k = 0 then 5 else 0
def mWhyV (fl op cl k who rl tr tm s kd mk : Int32) : Int32 :=
  if fl = 0 then (if mMay k who rl tr = 0 then 2 else if mOff k = 0 then mFM s kd mk k else if tm - tm / 24 * 24 < op then 3 else if tm - tm / 24 * 24 < cl then mFM s kd mk k else 3) else 1
def mWhy (h : Nat → Int32) (ar : Nat → Nat → Int32) (e : Nat) : Int32 :=
  mWhyV (ar 24 (ar 15 e).toNatClampNeg) (h 22) (h 23) (ar 15 e) (ar 16 e) (ar 3 (ar 16 e).toNatClampNeg) (ar 6 (ar 14 e).toNatClampNeg) (ar 17 e) (ar 7 (ar 14 e).toNatClampNeg) (ar 5 (ar 14 e).toNatClampNeg) (ar 8 (ar 14 e).toNatClampNeg)
def mWhyA (ar : Nat → Nat → Int32) (e : Nat) : Nat → Nat → Int32 := if ar 24 (ar 15 e).toNatClampNeg = 0 then ar else mSt ar 24 (ar 15 e).toNatClampNeg 0
def mBec (ar : Nat → Nat → Int32) (j : Nat) (s t : Int32) : Nat → Nat → Int32 := if ar 7 j = s then ar else mSt (mSt (mSt ar 7 j s) 10 j t) 11 j (-1)
def mRel (ar : Nat → Nat → Int32) (j : Nat) (t : Int32) : Nat → Nat → Int32 :=
  if ar 7 j = 2 then (if ar 9 j = 0 then (if mHas (ar 8 j) 4 = 0 then (if mHas (ar 8 j) 1 = 0 then ar else if 0 < ar 5 j then mBec ar j 4 t else if mHas (ar 8 j) 2 = 0 then ar else mBec ar j 4 t) else ar) else ar) else ar
def mOr (k : Int32) : Int32 := if k = 1 then 1 else if k = 6 then 2 else if k = 5 then 4 else 0
def mThen (k s : Int32) : Int32 := if k = 0 then 1 else if k = 2 then 2 else if k = 4 then 2 else if k = 5 then 2 else if k = 3 then 3 else if k = 7 then 5 else if k = 8 then 7 else s
def mHap (ar : Nat → Nat → Int32) (j : Nat) (k t : Int32) : Nat → Nat → Int32 :=
  mRel (mBec (mSt (mSt ar 8 j (ar 8 j ||| mOr k)) 8 j ((mSt ar 8 j (ar 8 j ||| mOr k)) 8 j - (if k = 9 then 4 else 0))) j (mThen k (ar 7 j)) t) j t
def onesL (v : Int32) : Nat → Int32
  | 0 => 0
  | n + 1 => onesL v n + (v >>> (nI n &&& 31) &&& 1)
def mCntW (ar : Nat → Nat → Int32) : Nat → Int32
  | 0 => 0
  | n + 1 => mCntW ar n + (if ar 18 n = 0 then 0 else 1)
def mCntO (ar : Nat → Nat → Int32) (d : Int32) : Nat → Int32
  | 0 => 0
  | n + 1 => mCntO ar d n + (if ar 14 n = d then (if ar 18 n = 0 then 1 else 0) else 0)
def mCntS (ar : Nat → Nat → Int32) (x : Int32) : Nat → Int32
  | 0 => 0
  | n + 1 => mCntS ar x n + (if ar 7 n = x then 1 else 0)
theorem mHas01 (a b : Int32) : mHas a b = 0 ∨ mHas a b = 1 := by unfold mHas; split <;> simp
