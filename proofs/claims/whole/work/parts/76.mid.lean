theorem in8 : ∀ q, q ≤ 8 → mIn (nI q) 0 8 = 1 := by decide
theorem look_in (x : Int32) : (if x = 0 then 0 else if x = 1 then 0 else if x = 2 then 0 else if x = 3 then 0 else if x = 4 then 0 else if x = 5 then 0 else if x = 6 then 0 else if x = 7 then 0 else if x = 8 then (0 : Int32) else 1) = (if mIn x 0 8 = 0 then 1 else 0) := by
  rcases in_cases 8 (by omega) x with y | ⟨p, hp, rfl, -, y1⟩
  · have y : mIn x 0 8 = 0 := y
    have hn : ∀ q, q ≤ 8 → ¬ x = nI q := fun q hq e => by
      subst e
      rw [in8 q hq] at y; cases y
    have b0 := hn 0 (by omega); have b1 := hn 1 (by omega); have b2 := hn 2 (by omega); have b3 := hn 3 (by omega); have b4 := hn 4 (by omega); have b5 := hn 5 (by omega); have b6 := hn 6 (by omega); have b7 := hn 7 (by omega); have b8 := hn 8 (by omega)
    simp only [n0, n1, n2, n3, n4, n5, n6, n7, n8] at b0 b1 b2 b3 b4 b5 b6 b7 b8
    simp [y, b0, b1, b2, b3, b4, b5, b6, b7, b8]
  · have y1 : mIn (nI p) 0 8 = 1 := y1
    rw [y1]
    rcases (show p = 0 ∨ p = 1 ∨ p = 2 ∨ p = 3 ∨ p = 4 ∨ p = 5 ∨ p = 6 ∨ p = 7 ∨ p = 8 by omega) with rfl | rfl | rfl | rfl | rfl | rfl | rfl | rfl | rfl <;> rfl
/-- who and why: the answer, and what it does -/
theorem req_eq {f : Nat → Int32} {ar : Nat → Nat → Int32} {j p : Nat} {who y : Int32} (hr : iRow f ar j) (hp : p < 12) (hw : who = nI p) (hrl : ar 3 who.toNatClampNeg = 1) : fReqR f who y = mInvV ar j who y := by
  obtain ⟨a1, a2, a3, a4, a5, a6, a7, a8⟩ := hr.all
  obtain ⟨s, hs, es⟩ := hr.2.2.1
  have hne : ¬ who = -1 := fun z => by
    have := nI_pos (n := p) (by omega)
    rw [← hw, z] at this; exact this (by decide)
  unfold fReqR mInvV fTwoR
  rw [if_pos hrl, ← a3, ← a7, es]
  rcases (show s = 0 ∨ s = 1 ∨ s = 2 ∨ s = 3 ∨ s = 4 ∨ s = 5 ∨ s = 6 ∨ s = 7 by omega) with rfl | rfl | rfl | rfl | rfl | rfl | rfl | rfl
  · simp [n0]
  · simp [n1]
  · simp [n2, show ¬ (2 : Int32) ≤ 1 by decide, show ¬ (4 : Int32) < 2 by decide]
  · simp [n3, show ¬ (3 : Int32) ≤ 1 by decide, show ¬ (4 : Int32) < 3 by decide]
  · have k1 : ¬ (4 : Int32) ≤ 1 := by decide
    have k2 : ¬ (4 : Int32) < 4 := by decide
    by_cases c1 : y = 0
    · simp [n4, c1, k1]
    · by_cases c2 : f 7 = -1
      · have c3 : ¬ (-1 : Int32) = who := fun z => hne z.symm
        simp [n4, c1, k1, c2, c3]
      · by_cases c3 : f 7 = who <;> simp [n4, c1, k1, c2, c3, hne]
  · simp [n5, show (4 : Int32) < 5 by decide]
  · simp [n6, show (4 : Int32) < 6 by decide]
  · simp [n7, show (4 : Int32) < 7 by decide]
theorem req_do {f : Nat → Int32} {who y t : Int32} (hw : ¬ who = -1) : fReq f who y t = if fReqR f who y = 2 then upd f 7 who else if fReqR f who y = 1 then fInv f y t else f := by
  unfold fReq fReqR fTwo fTwoR
  by_cases c0 : f 3 = 0
  · simp [c0]
  · by_cases c1 : f 3 = 1
    · simp [c1]
    · by_cases c2 : f 3 = 2
      · by_cases c : y = 0 <;> simp [c2, c]
      · by_cases c3 : f 3 = 3
        · by_cases c : y = 0 <;> simp [c3, c]
        · by_cases c4 : f 3 = 4
          · by_cases c : y = 0
            · simp [c4, c]
            · by_cases e1 : f 7 = -1
              · simp [c4, c, e1]
              · by_cases e2 : f 7 = who <;> simp [c4, c, e1, e2, hw]
          · simp [c0, c1, c2, c3, c4]
/-- only from 0 to 4 -/
theorem req_st {f : Nat → Int32} {who y : Int32} (h : fReqR f who y = 1) : ¬ f 3 = 6 := by
  intro z; simp [fReqR, z] at h
section P76
variable {g ro : Nat → Int32} {fst : Option Nat} {nD nE nP : Nat} {d : Nat → Nat → Int32} {fw lw : Nat → Option Nat} {ed : Nat → Nat} {ev : Nat → Nat → Int32} {nx : Nat → Option Nat} {h : Nat → Int32} {ar : Nat → Nat → Int32} {wl : List Nat} {wr : Nat → List Nat}
/-- one declaration's row changes -/
theorem INV_dec {j : Nat} {F : Nat → Int32} {ar' : Nat → Nat → Int32} (I : INV g ro fst nD nE d fw lw ed ev nx h ar nP wl wr) (hj : j < nD) (hr : iRow F ar' j) (h0 : F 0 = d j 0) (h9 : F 9 = d j 9) (hoff : ∀ q i, i ≠ j → ar' q i = ar q i) (hq : ∀ q, q < 5 ∨ 12 < q → ar' q = ar q) : INV g ro fst nD nE (upf d j F) fw lw ed ev nx h ar' nP wl wr := by
  obtain ⟨iN, iR, iD, iF, iE, iWa, iWr, iT⟩ := I
  have q3 := hq 3 (by omega); have q14 := hq 14 (by omega); have q15 := hq 15 (by omega); have q16 := hq 16 (by omega); have q17 := hq 17 (by omega); have q18 := hq 18 (by omega); have q19 := hq 19 (by omega); have q20 := hq 20 (by omega); have q24 := hq 24 (by omega)
  refine ⟨iN, ?_, ⟨?_, ?_⟩, ?_, ?_, ?_, ?_, ?_⟩
  · unfold iRol; rw [q3]; exact iR
  · intro i hi
    by_cases e : i = j
    · subst e; rw [upf_eq]; exact ⟨h0.trans (iD.1 i hi).1, hr⟩
    · rw [upf_ne e]; exact ⟨(iD.1 i hi).1, iRow_congr (fun _ _ _ => rfl) (fun q _ _ => hoff q i e) (iD.1 i hi).2⟩
  · intro i hi
    have e : i ≠ j := by omega
    rw [hoff 7 i e, hoff 8 i e, hoff 9 i e, hoff 10 i e, hoff 12 i e]
    exact iD.2 i hi
  · unfold iFail; rw [q24]; exact iF
  · unfold iEv; rw [q14, q15, q16, q17, q18, q19]; exact iE
  · unfold iWai; rw [q18]; exact iWa
  · unfold iWri; rw [q18, q20]
    intro i hi
    obtain ⟨w1, w2, w3, w4⟩ := iWr i hi
    refine ⟨w1, w2, ?_, w4⟩
    by_cases e : i = j
    · subst e; rw [upf_eq, h9]; exact w3
    · rw [upf_ne e]; exact w3
  · unfold iTur; rw [q18, q20]; exact iT
theorem cntS_eq (I : INV g ro fst nD nE d fw lw ed ev nx h ar nP wl wr) (x : Int32) : ∀ n, n ≤ nD → cntSt d x n = mCntS ar x n
  | 0, _ => rfl
  | n + 1, hn => by
    show cntSt d x n + _ = mCntS ar x n + _
    rw [cntS_eq I x n (by omega), (I.2.2.1.1 n (by omega)).2.all.2.2.1]
theorem P_count (I : INV g ro fst nD nE d fw lw ed ev nx h ar nP wl wr) (x : Int32) : fCountR g d nD x = mCountR h ar nD nE x := by
  have hW := cntW_eq I
  have hS := cntS_eq I
  obtain ⟨⟨g1, h2, hnP, g3, h4, hnD, g5, h13, hnE, g8, g9, g10⟩, iR, iD, iF, iE, iWa, iWr, iT⟩ := I
  unfold fCountR mCountR fCount
  rw [g1, h2, g3, h4, g5, h13, g8, iWa.2.2.2.1, hW, hS (x - 10) nD (Nat.le_refl _)]
  by_cases c : x < 10
  · simp [c]
  · have c0 : ¬ x = 0 := fun z => c (by rw [z]; decide)
    have c1 : ¬ x = 1 := fun z => c (by rw [z]; decide)
    have c2 : ¬ x = 2 := fun z => c (by rw [z]; decide)
    have c3 : ¬ x = 3 := fun z => c (by rw [z]; decide)
    have c4 : ¬ x = 4 := fun z => c (by rw [z]; decide)
    by_cases c5 : x ≤ 17
    · have c6 : ¬ 18 ≤ x := fun z => by
        rw [Int32.le_iff_toInt_le] at z c5
        rw [show (17 : Int32).toInt = 17 from rfl] at c5
        rw [show (18 : Int32).toInt = 18 from rfl] at z
        omega
      simp [c, c0, c1, c2, c3, c4, c5, c6]
    · have c6 : 18 ≤ x := by
        rw [Int32.le_iff_toInt_le] at c5 ⊢
        rw [show (17 : Int32).toInt = 17 from rfl] at c5
        rw [show (18 : Int32).toInt = 18 from rfl]
        omega
      simp [c, c0, c1, c2, c3, c4, c5, c6]
theorem P_fails (I : INV g ro fst nD nE d fw lw ed ev nx h ar nP wl wr) (k on : Int32) (hon : on = 0 ∨ on = 1) : fFailsR g k on = mFailsR ar k on ∧ INV (fFails g k on) ro fst nD nE d fw lw ed ev nx (upd h 0 0) (mFailsA ar k on) nP wl wr := by
  have I0 := I
  obtain ⟨iN, iR, iD, iF, iE, iWa, iWr, iT⟩ := I
  rcases in_cases 9 (by omega) k with z | ⟨p, hp, z, zc, z1⟩
  · have z : mIn k 0 9 = 0 := z
    have e1 : fFailsR g k on = 0 := by simp [fFailsR, within_in, z]
    have e2 : mFailsR ar k on = 0 := by simp [mFailsR, z]
    refine ⟨by rw [e1, e2], ?_⟩
    unfold fFails mFailsA
    rw [if_pos e1, if_pos e2]; exact I0
  · have z1 : mIn k 0 9 = 1 := z1
    have hb := iF p (by omega)
    have e1 : fFailsR g k on = mFailsR ar k on := by simp [fFailsR, mFailsR, within_in, z1, zc, z, hb, nI_clamp (show p < 2 ^ 31 by omega)]
    refine ⟨e1, ?_⟩
    unfold fFails mFailsA
    rw [← e1]
    by_cases c : fFailsR g k on = 0
    · rw [if_pos c, if_pos c]; exact I0
    · rw [if_neg c, if_neg c, zc]
      have hbn : ¬ fBit (g 11) (nI p) = on := fun q => c (by simp [fFailsR, z, q])
      refine ⟨iN, iR, iDec_congr (fun q a b => mSt_ne (by omega)) iD, ?_, iE, iWa, iWr, iT⟩
      intro i hi
      show fBit (g 11 ^^^ _) (nI i) = _
      rw [z, bit_xor (by omega) hi, mSt_eq]
      by_cases e : i = p
      · subst e
        rw [if_pos rfl]
        show _ = if i = i then on else _
        rw [if_pos rfl]
        rcases hon with rfl | rfl
        · rw [if_neg hbn]
        · rcases fBit01 (g 11) (nI i) with q | q
          · rw [if_pos q]
          · exact absurd q hbn
      · rw [if_neg e]
        show _ = if i = p then on else _
        rw [if_neg e]; exact iF i hi
theorem P_look (I : INV g ro fst nD nE d fw lw ed ev nx h ar nP wl wr) (d9 x : Int32) : (if mLookC h d9 x = 0 then upd h 0 0 else upd h 0 1) 0 = fLookC g d9 x ∧ (fLookC g d9 x = 0 → fLookR g d d9 x = mLookR h ar nE d9 x) ∧ INV g ro fst nD nE d fw lw ed ev nx (if mLookC h d9 x = 0 then upd h 0 0 else upd h 0 1) ar nP wl wr := by
  have hC : fLookC g d9 x = mLookC h d9 x := by
    unfold fLookC mLookC
    rcases decl_cases I.1.2.2.2.1 I.1.2.2.2.2.1 I.1.2.2.2.2.2.1 d9 with ⟨z1, z2⟩ | ⟨j, hj, z, z0, z1, z2⟩
    · simp [z1, z2]
    · rw [z1, z2]
      exact (look_in x).trans (by simp)
  refine ⟨?_, ?_, by by_cases hc : mLookC h d9 x = 0 <;> simp only [hc, if_true, if_false] <;> exact I⟩
  · rw [hC]
    unfold mLookC
    by_cases c1 : mOne h d9 = 0
    · simp [c1, upd]
    · by_cases c2 : mIn x 0 8 = 0 <;> simp [c1, c2, upd]
  · intro hc
    rw [hC] at hc
    rcases decl_cases I.1.2.2.2.1 I.1.2.2.2.2.1 I.1.2.2.2.2.2.1 d9 with ⟨z1, z2⟩ | ⟨j, hj, z, z0, z1, z2⟩
    · simp [mLookC, z2] at hc
    · unfold fLookR mLookR mLookV
      rw [if_pos hc, z1, z0]
      obtain ⟨a1, a2, a3, a4, a5, a6, a7, a8⟩ := (I.2.2.1.1 j hj).2.all
      show (if x = 0 then d j 3 else if x = 1 then d j 1 else if x = 2 then d j 2 else if x = 3 then d j 4 else if x = 4 then d j 5 else if x = 5 then d j 9 else if x = 6 then d j 6 else if x = 7 then d j 7 else d j 8) = _
      rw [a1, a2, a3, a4, a5, a6, a7, a8, z, cntO_eq I hj]
theorem P_bar (I : INV g ro fst nD nE d fw lw ed ev nx h ar nP wl wr) (d9 k on : Int32) (hon : on = 0 ∨ on = 1) : (if mBarC h d9 k = 0 then upd h 0 0 else upd h 0 1) 0 = fBarC g d9 k ∧ (fBarC g d9 k = 0 → fBarR g d d9 k on = mBarR h ar d9 k on ∧ INV g ro fst nD nE (fBarD g d d9 k on) fw lw ed ev nx (if mBarC h d9 k = 0 then upd h 0 0 else upd h 0 1) (mBarA h ar d9 k on) nP wl wr) ∧ (¬ fBarC g d9 k = 0 → INV g ro fst nD nE d fw lw ed ev nx (if mBarC h d9 k = 0 then upd h 0 0 else upd h 0 1) (mBarA h ar d9 k on) nP wl wr) := by
  have hC : fBarC g d9 k = mBarC h d9 k := by
    unfold fBarC mBarC
    rcases decl_cases I.1.2.2.2.1 I.1.2.2.2.2.1 I.1.2.2.2.2.2.1 d9 with ⟨z1, z2⟩ | ⟨j, hj, z, z0, z1, z2⟩
    · simp [z1, z2]
    · rw [z1, z2]; simp [within_in]; rfl
  rw [hC]
  refine ⟨?_, fun hc => ?_, fun hc => ?_⟩
  · unfold mBarC
    by_cases c1 : mOne h d9 = 0
    · simp [c1, upd]
    · by_cases c2 : mIn k 0 7 = 0 <;> simp [c1, c2, upd]
  · rw [if_pos hc]
    rcases decl_cases I.1.2.2.2.1 I.1.2.2.2.2.1 I.1.2.2.2.2.2.1 d9 with ⟨z1, z2⟩ | ⟨j, hj, z, z0, z1, z2⟩
    · simp [mBarC, z2] at hc
    · rcases in_cases 7 (by omega) k with y | ⟨p, hp, y, yc, y1⟩
      · have y : mIn k 0 7 = 0 := y
        simp [mBarC, y, z2] at hc
      · have hrow := (I.2.2.1.1 j hj).2
        obtain ⟨a1, a2, a3, a4, a5, a6, a7, a8⟩ := hrow.all
        obtain ⟨b, hb, eb⟩ := hrow.2.2.2.2
        have hbit : fBit (d j 5) k = (if (ar 9 j >>> (k &&& 31)) &&& 1 = 1 then 1 else 0) := by rw [← a5, eb, y]; exact pa_bit b hb p (by omega)
        have hN : fBarN (d j) k on = mBarN ar j k on := by
          unfold fBarN mBarN fOver
          rw [a3, hbit]
          by_cases c6 : ar 7 j = 6
          · simp [c6]
          · by_cases c7 : ar 7 j = 7
            · simp [c7]
            · by_cases c8 : (ar 9 j >>> (k &&& 31)) &&& 1 = 1 <;> simp [c6, c7, c8]
        have hkeep : mBarA h ar d9 k on = (if mBarN ar j k on = 0 then mBarT h ar j k on else ar) := by unfold mBarA; rw [if_pos hc, z0]
        have hR : mBarR h ar d9 k on = (if mBarN ar j k on = 0 then onesL (mBarT h ar j k on 9 j) 8 else -1) := by unfold mBarR; rw [if_pos hc, z0]
        have hD : fBarD g d d9 k on = (if mBarN ar j k on = 0 then upf d j (fBarF g (d j) k on) else d) := by unfold fBarD; rw [z1, ← hN]
        have hRc : fBarR g d d9 k on = (if mBarN ar j k on = 0 then fBC (fBarF g (d j) k on 5) else -1) := by unfold fBarR; rw [z1, ← hN]
        rw [hkeep, hR, hD, hRc]
        by_cases c : mBarN ar j k on = 0
        · rw [if_pos c, if_pos c, if_pos c, if_pos c]
          have hbn : ¬ fBit (d j 5) k = on := fun q => by
            have c' := hN.trans c
            unfold fBarN at c'
            rw [if_pos q] at c'
            by_cases c9 : fOver (d j) = 0 <;> simp [c9] at c'
          obtain ⟨b', hb', x1, x2, x3⟩ := pa_flip b hb p (by omega)
          have hs : ar 9 j + (if on = 0 then -((1 : Int32) <<< (k &&& 31)) else (1 : Int32) <<< (k &&& 31)) = nI b' := by
            rw [← a5, eb, y]
            rw [eb, y] at hbn
            rcases hon with rfl | rfl
            · rw [if_pos rfl]; exact x3 hbn
            · rw [if_neg (by decide)]
              exact x2 (by rcases fBit01 (nI b) (nI p) with q | q; exact q; exact absurd q hbn)
          have hx : d j 5 ^^^ (1 : Int32) <<< (k &&& 31) = nI b' := by rw [eb, y]; exact x1
          have hS : mBarS ar j k on = mSt ar 9 j (nI b') := by unfold mBarS; rw [hs]
          have r1 : iRow (upd (d j) 5 (nI b')) (mSt ar 9 j (nI b')) j := by
            refine iRow.mk' ?_ hrow.2.1 hrow.2.2.1 hrow.2.2.2.1 ⟨b', hb', rfl⟩
            simp [mSt_get, upd, a1, a2, a3, a4, a6, a7, a8]
          have hT : mBarT h ar j k on = (if on = 0 then mRel (mSt ar 9 j (nI b')) j (h 1) else mSt ar 9 j (nI b')) := by unfold mBarT; rw [hS]
          have hF : fBarF g (d j) k on = (if on = 0 then fRelease (upd (d j) 5 (nI b')) (g 8) else upd (d j) 5 (nI b')) := by unfold fBarF; rw [hx]
          have r2 : iRow (fBarF g (d j) k on) (mBarT h ar j k on) j := by
            rw [hF, hT, I.1.2.2.2.2.2.2.2.2.2.1]
            by_cases c0 : on = 0
            · rw [if_pos c0, if_pos c0]; exact rel_row r1
            · rw [if_neg c0, if_neg c0]; exact r1
          refine ⟨?_, INV_dec I hj r2 ?_ ?_ ?_ ?_⟩
          · obtain ⟨b2, hb2, e2⟩ := r2.2.2.2.2
            rw [← r2.all.2.2.2.2.1, e2]; exact pa_ones b2 hb2
          · rw [hF]; split
            · exact rel_09.1
            · rfl
          · rw [hF]; split
            · exact rel_09.2
            · rfl
          · intro q i hi
            rw [hT]; split
            · rw [rel_off hi, mSt_get, if_neg (fun z => hi z.2)]
            · rw [mSt_get, if_neg (fun z => hi z.2)]
          · intro q hq
            rw [hT]; split
            · rw [mRel_ne (by omega) (by omega) (by omega), mSt_ne (by omega)]
            · rw [mSt_ne (by omega)]
        · rw [if_neg c, if_neg c, if_neg c, if_neg c]
          exact ⟨rfl, I⟩
  · rw [if_neg hc]
    unfold mBarA
    rw [if_neg hc]; exact I
theorem P_invalidate (I : INV g ro fst nD nE d fw lw ed ev nx h ar nP wl wr) (d9 w9 y : Int32) : (if mInvC h d9 w9 y = 0 then upd h 0 0 else upd h 0 1) 0 = fInvC g d9 w9 y ∧ (fInvC g d9 w9 y = 0 → fInvR g ro d d9 w9 y = mInvR h ar d9 w9 y ∧ INV g ro fst nD nE (fInvD g ro d d9 w9 y) fw lw ed ev nx (if mInvC h d9 w9 y = 0 then upd h 0 0 else upd h 0 1) (mInvA h ar d9 w9 y) nP wl wr) ∧ (¬ fInvC g d9 w9 y = 0 → INV g ro fst nD nE d fw lw ed ev nx (if mInvC h d9 w9 y = 0 then upd h 0 0 else upd h 0 1) (mInvA h ar d9 w9 y) nP wl wr) := by
  have hC : fInvC g d9 w9 y = mInvC h d9 w9 y := by
    unfold fInvC mInvC
    rcases decl_cases I.1.2.2.2.1 I.1.2.2.2.2.1 I.1.2.2.2.2.2.1 d9 with ⟨z1, z2⟩ | ⟨j, hj, z, z0, z1, z2⟩
    · simp [z1, z2]
    · rw [z1, z2]
      rcases pers_cases I.1.1 I.1.2.1 I.1.2.2.1 w9 with ⟨x1, x2⟩ | ⟨p, hp, x, x0, x1, x2⟩
      · simp [x1, x2]
      · simp [x1, x2, within_in]; rfl
  rw [hC]
  refine ⟨?_, fun hc => ?_, fun hc => ?_⟩
  · unfold mInvC
    by_cases c1 : mOne h d9 = 0
    · simp [c1, upd]
    · by_cases c3 : mPers h w9 = 0
      · simp [c1, c3, upd]
      · by_cases c2 : mIn y 0 9 = 0 <;> simp [c1, c2, c3, upd]
  · rw [if_pos hc]
    rcases decl_cases I.1.2.2.2.1 I.1.2.2.2.2.1 I.1.2.2.2.2.2.1 d9 with ⟨z1, z2⟩ | ⟨j, hj, z, z0, z1, z2⟩
    · simp [mInvC, z2] at hc
    · rcases pers_cases I.1.1 I.1.2.1 I.1.2.2.1 w9 with ⟨x1, x2⟩ | ⟨p, hp, x, x0, x1, x2⟩
      · simp [mInvC, x2] at hc
      · have hrow := (I.2.2.1.1 j hj).2
        have hro : fRole g ro w9 = ar 3 w9.toNatClampNeg := by rw [x, fRole_at I.1.1 I.1.2.2.1 hp, nI_clamp (by have := I.1.2.2.1; omega)]; exact (I.2.1 p hp).1
        have hne : ¬ w9 = -1 := fun q => by
          have := nI_pos (n := p) (by have := I.1.2.2.1; omega)
          rw [← x, q] at this; exact this (by decide)
        have hA : mInvA h ar d9 w9 y = (if mInvV ar j w9 y = 2 then mSt ar 11 j w9 else if mInvV ar j w9 y = 1 then mSt (mBec ar j 6 (h 1)) 12 j y else ar) := by unfold mInvA; rw [if_pos hc, z0]
        have hR : mInvR h ar d9 w9 y = mInvV ar j w9 y := by unfold mInvR; rw [if_pos hc, z0]
        have hFR : fInvR g ro d d9 w9 y = (if ar 3 w9.toNatClampNeg = 1 then fReqR (d j) w9 y else 0) := by unfold fInvR; rw [z1, ← hro]
        have hFD : fInvD g ro d d9 w9 y = (if ar 3 w9.toNatClampNeg = 1 then upf d j (fReq (d j) w9 y (g 8)) else d) := by unfold fInvD; rw [z1, ← hro]
        rw [hA, hR, hFR, hFD]
        by_cases c : ar 3 w9.toNatClampNeg = 1
        · have hV := req_eq (y := y) hrow (by have := I.1.2.2.1; omega) x c
          rw [if_pos c, if_pos c, ← hV, req_do hne]
          refine ⟨rfl, ?_⟩
          obtain ⟨a1, a2, a3, a4, a5, a6, a7, a8⟩ := hrow.all
          by_cases v2 : fReqR (d j) w9 y = 2
          · rw [if_pos v2, if_pos v2]
            refine INV_h0 0 (INV_dec I hj ?_ rfl rfl ?_ ?_)
            · refine iRow.mk' ?_ hrow.2.1 hrow.2.2.1 hrow.2.2.2.1 hrow.2.2.2.2
              simp [mSt_get, upd, a1, a2, a3, a4, a5, a6, a8]
            · intro q i hi; rw [mSt_get, if_neg (fun z => hi z.2)]
            · intro q hq; rw [mSt_ne (by omega)]
          · by_cases v1 : fReqR (d j) w9 y = 1
            · rw [if_neg v2, if_pos v1, if_neg v2, if_pos v1]
              have h6 : ¬ d j 3 = 6 := req_st v1
              have h6' : ¬ ar 7 j = 6 := by rw [← a3]; exact h6
              refine INV_h0 0 (INV_dec I hj ?_ rfl rfl ?_ ?_)
              · refine iRow.mk' ?_ hrow.2.1 ⟨6, by omega, rfl⟩ hrow.2.2.2.1 hrow.2.2.2.2
                unfold mBec
                rw [if_neg h6']
                simp [mSt_get, fInv, fBecome, upd, a1, a2, a4, a5, I.1.2.2.2.2.2.2.2.2.2.1]
              · intro q i hi; rw [mSt_get, if_neg (fun z => hi z.2), bec_off hi]
              · intro q hq; rw [mSt_ne (by omega), mBec_ne (by omega) (by omega) (by omega)]
            · rw [if_neg v2, if_neg v1, if_neg v2, if_neg v1, upf_self]; exact I
        · have hV : mInvV ar j w9 y = 0 := by unfold mInvV; rw [if_neg c]
          rw [if_neg c, if_neg c, hV]
          exact ⟨rfl, I⟩
  · rw [if_neg hc]
    unfold mInvA
    rw [if_neg hc]; exact I
end P76
