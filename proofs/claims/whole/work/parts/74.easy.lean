-- CALL BY CALL: the class and the reference answer alike, and what ties them is kept
theorem iRow_congr {f f' : Nat → Int32} {ar ar' : Nat → Nat → Int32} {j : Nat} (hf : ∀ k, 1 ≤ k → k ≤ 8 → f' k = f k) (ha : ∀ q, 5 ≤ q → q ≤ 12 → ar' q j = ar q j) (h : iRow f ar j) : iRow f' ar' j := by
  obtain ⟨h0, h1, h3, h4, h5⟩ := h
  refine ⟨fun k a b => by rw [hf k a b, ha (k + 4) (by omega) (by omega)]; exact h0 k a b, ?_, ?_, ?_, ?_⟩
  · rw [hf 1 (by omega) (by omega)]; exact h1
  · rw [hf 3 (by omega) (by omega)]; exact h3
  · rw [hf 4 (by omega) (by omega)]; exact h4
  · rw [hf 5 (by omega) (by omega)]; exact h5
theorem iDec_congr {d : Nat → Nat → Int32} {ar ar' : Nat → Nat → Int32} {nD : Nat} (ha : ∀ q, 5 ≤ q → q ≤ 12 → ar' q = ar q) (h : iDec d ar nD) : iDec d ar' nD := by
  refine ⟨fun j hj => ⟨(h.1 j hj).1, iRow_congr (fun _ _ _ => rfl) (fun q a b => by rw [ha q a b]) (h.1 j hj).2⟩, fun j hj => ?_⟩
  rw [ha 7 (by omega) (by omega), ha 8 (by omega) (by omega), ha 9 (by omega) (by omega), ha 10 (by omega) (by omega), ha 12 (by omega) (by omega)]
  exact h.2 j hj
theorem pers_cases {g h : Nat → Int32} {nP : Nat} (h1 : g 1 = nI nP) (h2 : h 2 = nI nP) (hn : nP ≤ 12) (v : Int32) : (fPerson g v = 0 ∧ mPers h v = 0) ∨ ∃ p, p < nP ∧ v = nI p ∧ v.toNatClampNeg = p ∧ fPerson g v = 1 ∧ mPers h v = 1 := by
  by_cases h0 : v < 0
  · left; simp [fPerson, mPers, h0]
  · obtain ⟨j, hj, rfl⟩ := nI_of h0
    by_cases hp : j < nP
    · right
      have a1 : ¬ nI nP ≤ nI j := by rw [nI_leI (by omega) hj]; omega
      have a2 : ¬ (12 : Int32) ≤ nI j := by rw [show (12 : Int32) = nI 12 from rfl, nI_leI (by omega) hj]; omega
      exact ⟨j, hp, rfl, nI_clamp hj, by simp [fPerson, h0, h1, a1, a2], by simp [mPers, h0, h2, a1]⟩
    · left
      have a1 : nI nP ≤ nI j := by rw [nI_leI (by omega) hj]; omega
      simp [fPerson, mPers, h0, h1, h2, a1]
theorem decl_cases {g h : Nat → Int32} {nD : Nat} (h1 : g 3 = nI nD) (h2 : h 4 = nI nD) (hn : nD ≤ 20) (v : Int32) : (fDeclAt g v = none ∧ mOne h v = 0) ∨ ∃ p, p < nD ∧ v = nI p ∧ v.toNatClampNeg = p ∧ fDeclAt g v = some p ∧ mOne h v = 1 := by
  by_cases h0 : v < 0
  · left; simp [fDeclAt, mOne, h0]
  · obtain ⟨j, hj, rfl⟩ := nI_of h0
    by_cases hp : j < nD
    · right
      have a1 : ¬ nI nD ≤ nI j := by rw [nI_leI (by omega) hj]; omega
      exact ⟨j, hp, rfl, nI_clamp hj, fDeclAt_at h1 hn rfl hp, by simp [mOne, h0, h2, a1]⟩
    · left
      have a1 : nI nD ≤ nI j := by rw [nI_leI (by omega) hj]; omega
      simp [fDeclAt, mOne, h0, h1, h2, a1]
theorem ev_cases {g h : Nat → Int32} {nE : Nat} (h1 : g 5 = nI nE) (h2 : h 13 = nI nE) (hn : nE ≤ 120) (v : Int32) : (fEvAt g v = none ∧ (v < 0 ∨ h 13 ≤ v)) ∨ ∃ p, p < nE ∧ v = nI p ∧ v.toNatClampNeg = p ∧ fEvAt g v = some p ∧ ¬ v < 0 ∧ ¬ h 13 ≤ v := by
  by_cases h0 : v < 0
  · left; simp [fEvAt, h0]
  · obtain ⟨j, hj, rfl⟩ := nI_of h0
    by_cases hp : j < nE
    · right
      have a1 : ¬ nI nE ≤ nI j := by rw [nI_leI (by omega) hj]; omega
      have a2 : ¬ (120 : Int32) ≤ nI j := by rw [show (120 : Int32) = nI 120 from rfl, nI_leI (by omega) hj]; omega
      exact ⟨j, hp, rfl, nI_clamp hj, by simp [fEvAt, h0, h1, a1, a2, nI_clamp hj], h0, by rw [h2]; exact a1⟩
    · left
      have a1 : nI nE ≤ nI j := by rw [nI_leI (by omega) hj]; omega
      simp [fEvAt, h0, h1, h2, a1]
theorem in_cases (c : Nat) (hc : c < 2 ^ 31) (v : Int32) : (mIn v 0 (nI c) = 0) ∨ ∃ p, p ≤ c ∧ v = nI p ∧ v.toNatClampNeg = p ∧ mIn v 0 (nI c) = 1 := by
  by_cases h0 : v < 0
  · left; simp [mIn, h0]
  · obtain ⟨j, hj, rfl⟩ := nI_of h0
    by_cases hp : j ≤ c
    · right
      have a1 : ¬ nI c < nI j := by rw [nI_ltI (by omega) hj]; omega
      exact ⟨j, hp, rfl, nI_clamp hj, by simp [mIn, h0, a1]⟩
    · left
      have a1 : nI c < nI j := by rw [nI_ltI (by omega) hj]; omega
      simp [mIn, h0, a1]
theorem within_in (v c : Int32) : fWithin v c = mIn v 0 c := rfl
theorem in5 : ∀ q, q ≤ 5 → mIn (nI q) 0 5 = 1 := by decide
section P74
variable {g ro : Nat → Int32} {fst : Option Nat} {nD nE nP : Nat} {d : Nat → Nat → Int32} {fw lw : Nat → Option Nat} {ed : Nat → Nat} {ev : Nat → Nat → Int32} {nx : Nat → Option Nat} {h : Nat → Int32} {ar : Nat → Nat → Int32} {wl : List Nat} {wr : Nat → List Nat}
theorem INV_h0 (x : Int32) (I : INV g ro fst nD nE d fw lw ed ev nx h ar nP wl wr) : INV g ro fst nD nE d fw lw ed ev nx (upd h 0 x) ar nP wl wr := I
theorem P_new : INV gNew (fun _ => 0) none 0 0 (fun _ _ => 0) (fun _ => none) (fun _ => none) (fun _ => 0) (fun _ _ => 0) (fun _ => none) hNew (fun _ _ => 0) 0 [] (fun _ => []) := by
  refine ⟨⟨rfl, rfl, by omega, rfl, rfl, by omega, rfl, rfl, by omega, rfl, rfl, rfl⟩, fun i hi => by omega, ⟨fun j hj => by omega, fun j _ => ⟨rfl, rfl, rfl, rfl, rfl⟩⟩, ?_, fun k hk => by omega, ⟨rfl, List.nodup_nil, List.Pairwise.nil, rfl, by decide, fun k => ⟨fun z => absurd z List.not_mem_nil, fun z => by omega⟩⟩, fun j hj => by omega, ⟨0, rfl, rfl, fun k hk => by omega⟩⟩
  intro k hk
  show fBit 0 (nI k) = 0
  unfold fBit
  rw [Int32.zero_and]; rfl
theorem P_person (I : INV g ro fst nD nE d fw lw ed ev nx h ar nP wl wr) (v : Int32) : mPersonH h v 0 = fPersonC g v ∧ (fPersonC g v = 0 → g 1 = mPersonR h v ∧ ∃ nP', INV (upd g 1 (g 1 + 1)) (upd ro (g 1).toNatClampNeg v) fst nD nE d fw lw ed ev nx (mPersonH h v) (mPersonA h ar v) nP' wl wr) ∧ (¬ fPersonC g v = 0 → INV g ro fst nD nE d fw lw ed ev nx (mPersonH h v) (mPersonA h ar v) nP wl wr) := by
  have I0 := I
  obtain ⟨⟨g1, h2, hnP, g3, h4, hnD, g5, h13, hnE, g8, g9, g10⟩, iR, iD, iF, iE, iWa, iWr, iT⟩ := I
  have hC : mPersonC h v = fPersonC g v := by
    unfold mPersonC fPersonC
    rw [within_in, g1, h2, show (12 : Int32) = nI 12 from rfl]
    by_cases c1 : mIn v 0 2 = 0
    · simp [c1]
    · by_cases c2 : nP = 12
      · subst c2; simp [c1]
      · have a : nI nP < nI 12 := by rw [nI_ltI (by omega) (by omega)]; omega
        have b : ¬ nI nP = nI 12 := by rw [nI_eq (by omega) (by omega)]; exact c2
        simp [c1, a, b]
  unfold mPersonH mPersonA mPersonR
  rw [hC]
  refine ⟨?_, fun hc => ?_, fun hc => ?_⟩
  · by_cases hc : fPersonC g v = 0
    · rw [if_pos hc, hc]; rfl
    · rw [if_neg hc]; rfl
  · rw [if_pos hc, if_pos hc, if_pos hc]
    have hv : v = 0 ∨ v = 1 ∨ v = 2 := by
      rcases in_cases 2 (by omega) v with z | ⟨p, hp, rfl, -, -⟩
      · have z : mIn v 0 2 = 0 := z
        simp [fPersonC, within_in, z] at hc
      · rcases (show p = 0 ∨ p = 1 ∨ p = 2 by omega) with rfl | rfl | rfl
        · exact Or.inl rfl
        · exact Or.inr (Or.inl rfl)
        · exact Or.inr (Or.inr rfl)
    have hlt : nP < 12 := by
      refine Nat.lt_of_le_of_ne hnP (fun z => ?_)
      have hc2 : mPersonC h v = 0 := hC.trans hc
      unfold mPersonC at hc2
      rw [h2, z, show nI 12 = 12 from rfl] at hc2
      by_cases c1 : mIn v 0 2 = 0 <;> simp [c1] at hc2
    have hcl : (g 1).toNatClampNeg = nP := by rw [g1]; exact nI_clamp (by omega)
    have hcl2 : (h 2).toNatClampNeg = nP := by rw [h2]; exact nI_clamp (by omega)
    rw [hcl, hcl2]
    refine ⟨by rw [g1, h2, ← nI_succ, nI_pred], nP + 1, ⟨?_, ?_, by omega, g3, h4, hnD, g5, h13, hnE, g8, g9, g10⟩, ?_, iDec_congr (fun q a b => mSt_ne (by omega)) iD, iF, ?_, iWa, iWr, iT⟩
    · show g 1 + 1 = _; rw [g1, nI_succ]
    · show h 2 + 1 = _; rw [h2, nI_succ]
    · intro i hi
      rw [mSt_eq]
      by_cases e : i = nP
      · subst e; simp only [upd, if_true]; exact ⟨trivial, hv⟩
      · simp only [upd, if_neg e]; exact iR i (by omega)
    · intro k hk
      obtain ⟨a1, a2, a3, a4, ⟨p, hp, a5⟩, a6⟩ := iE k hk
      exact ⟨a1, a2, a3, a4, ⟨p, by omega, a5⟩, a6⟩
  · rw [if_neg hc, if_neg hc]; exact I0
theorem P_declaration (I : INV g ro fst nD nE d fw lw ed ev nx h ar nP wl wr) (k t : Int32) : mDeclH h ar k t 0 = fDeclC g ro k t ∧ (fDeclC g ro k t = 0 → g 3 = mDeclR h ar k t ∧ INV (upd g 3 (g 3 + 1)) ro fst (nD + 1) nE (upf d nD (fNewD (g 3) k t)) (upo fw nD none) (upo lw nD none) ed ev nx (mDeclH h ar k t) (mDeclA h ar k t) nP wl (fun j => if j = nD then [] else wr j)) ∧ (¬ fDeclC g ro k t = 0 → INV g ro fst nD nE d fw lw ed ev nx (mDeclH h ar k t) (mDeclA h ar k t) nP wl wr) := by
  have I0 := I
  obtain ⟨⟨g1, h2, hnP, g3, h4, hnD, g5, h13, hnE, g8, g9, g10⟩, iR, iD, iF, iE, iWa, iWr, iT⟩ := I
  have hC : mDeclC h ar k t = fDeclC g ro k t := by
    unfold mDeclC fDeclC
    rw [within_in, g3, h4, show (20 : Int32) = nI 20 from rfl]
    by_cases c1 : mIn k 0 2 = 0
    · simp [c1]
    · rcases pers_cases g1 h2 hnP t with ⟨z1, z2⟩ | ⟨p, hp, z, z0, z1, z2⟩
      · have : fRole g ro t = -1 := by simp [fRole, z1]
        simp [c1, z2, this]
      · have : fRole g ro t = ar 3 p := by rw [z, fRole_at g1 hnP hp]; exact (iR p hp).1
        rw [this, z0]
        by_cases c3 : ar 3 p = 0
        · by_cases c2 : nD = 20
          · subst c2; simp [c1, z2, c3]
          · have a : nI nD < nI 20 := by rw [nI_ltI (by omega) (by omega)]; omega
            have b : ¬ nI nD = nI 20 := by rw [nI_eq (by omega) (by omega)]; exact c2
            simp [c1, z2, c3, a, b]
        · simp [c1, z2, c3]
  unfold mDeclH mDeclA mDeclR
  rw [hC]
  refine ⟨?_, fun hc => ?_, fun hc => ?_⟩
  · by_cases hc : fDeclC g ro k t = 0
    · rw [if_pos hc, hc]; rfl
    · rw [if_neg hc]; rfl
  · rw [if_pos hc, if_pos hc, if_pos hc]
    have hv : ∃ kd, kd < 3 ∧ k = nI kd := by
      rcases in_cases 2 (by omega) k with z | ⟨p, hp, z, -, -⟩
      · have z : mIn k 0 2 = 0 := z
        simp [fDeclC, within_in, z] at hc
      · exact ⟨p, by omega, z⟩
    have hlt : nD < 20 := by
      refine Nat.lt_of_le_of_ne hnD (fun z => ?_)
      unfold fDeclC at hc
      rw [g3, z] at hc
      by_cases c1 : fWithin k 2 = 0
      · simp [c1] at hc
      · by_cases c2 : fRole g ro t = 0
        · simp [c1, c2, show ¬ nI 20 < 20 by decide] at hc
        · simp [c1, c2] at hc
    have hcl : (h 4).toNatClampNeg = nD := by rw [h4]; exact nI_clamp (by omega)
    rw [hcl]
    have hoff : ∀ q i, i ≠ nD → mSt (mSt (mSt ar 5 nD k) 6 nD t) 11 nD (-1) q i = ar q i := fun q i hi => by simp [mSt_get, hi]
    refine ⟨by rw [g3, h4, ← nI_succ, nI_pred], ⟨g1, h2, hnP, ?_, ?_, by omega, g5, h13, hnE, g8, g9, g10⟩, iR, ⟨?_, ?_⟩, iF, ?_, iWa, ?_, iT⟩
    · show g 3 + 1 = _; rw [g3, nI_succ]
    · show h 4 + 1 = _; rw [h4, nI_succ]
    · intro j hj
      by_cases e : j = nD
      · subst e
        rw [upf_eq]
        obtain ⟨b1, b2, b3, b4, b5⟩ := iD.2 j (Nat.le_refl _)
        refine ⟨g3, iRow.mk' ?_ hv ⟨0, by omega, rfl⟩ ⟨0, by omega, rfl⟩ ⟨0, by omega, rfl⟩⟩
        simp [mSt_get, fNewD, b1, b2, b3, b4, b5]
      · rw [upf_ne e]
        exact ⟨(iD.1 j (by omega)).1, iRow_congr (fun _ _ _ => rfl) (fun q _ _ => hoff q j e) (iD.1 j (by omega)).2⟩
    · intro j hj
      rw [hoff 7 j (by omega), hoff 8 j (by omega), hoff 9 j (by omega), hoff 10 j (by omega), hoff 12 j (by omega)]
      exact iD.2 j (by omega)
    · intro e he
      obtain ⟨a1, a2⟩ := iE e he
      exact ⟨by omega, a2⟩
    · intro j hj
      by_cases e : j = nD
      · subst e
        simp only [upo_eq, upf_eq, if_true]
        refine ⟨rfl, rfl, rfl, List.Pairwise.nil, fun q => ⟨fun z => absurd z List.not_mem_nil, fun ⟨z1, z2, _⟩ => ?_⟩⟩
        have := (iE q z1).1; omega
      · simp only [upo_ne e, upf_ne e, if_neg e]
        exact iWr j (by omega)
  · rw [if_neg hc, if_neg hc]; exact I0
theorem P_hours (I : INV g ro fst nD nE d fw lw ed ev nx h ar nP wl wr) (a b : Int32) : fHoursR a b = mHoursR a b ∧ INV (fHours g a b) ro fst nD nE d fw lw ed ev nx (mHours h a b) ar nP wl wr := by
  have hC : fHoursR a b = mHoursR a b := by
    unfold fHoursR mHoursR mIn
    by_cases c1 : a < 0
    · simp [c1]
    · by_cases c2 : 24 < b
      · simp [c1, c2]
      · by_cases c3 : a < b
        · have d1 : ¬ b < 0 := fun z => by rw [Int32.lt_iff_toInt_lt] at *; rw [Int32.toInt_zero] at *; omega
          have d2 : ¬ 24 < a := fun z => by rw [Int32.lt_iff_toInt_lt] at *; omega
          simp [c1, c2, c3, d1, d2]
        · simp [c1, c2, c3]
  refine ⟨hC, ?_⟩
  unfold fHours mHours
  rw [← hC]
  by_cases hc : fHoursR a b = 0
  · rw [if_pos hc, if_pos hc]; exact I
  · rw [if_neg hc, if_neg hc]
    obtain ⟨⟨g1, h2, hnP, g3, h4, hnD, g5, h13, hnE, g8, g9, g10⟩, iR⟩ := I
    exact ⟨⟨g1, h2, hnP, g3, h4, hnD, g5, h13, hnE, g8, rfl, rfl⟩, iR⟩
theorem P_of (I : INV g ro fst nD nE d fw lw ed ev nx h ar nP wl wr) (e9 x : Int32) : (if mOfC h e9 x = 0 then upd h 0 0 else upd h 0 1) 0 = fOfC g e9 x ∧ (fOfC g e9 x = 0 → fOfR g d ed ev e9 x = mOfR h ar e9 x) ∧ INV g ro fst nD nE d fw lw ed ev nx (if mOfC h e9 x = 0 then upd h 0 0 else upd h 0 1) ar nP wl wr := by
  have I0 := I
  obtain ⟨⟨g1, h2, hnP, g3, h4, hnD, g5, h13, hnE, g8, g9, g10⟩, iR, iD, iF, iE, iWa, iWr, iT⟩ := I
  refine ⟨?_, ?_, by by_cases hc : mOfC h e9 x = 0 <;> simp only [hc, if_true, if_false] <;> exact I0⟩
  · unfold fOfC mOfC
    rcases ev_cases g5 h13 hnE e9 with ⟨z1, z2⟩ | ⟨k, hk, z, z0, z1, z2, z3⟩
    · rw [z1]
      rcases z2 with z2 | z2
      · simp [z2, upd]
      · by_cases z3 : e9 < 0 <;> simp [z2, z3, upd]
    · rw [z1]
      rcases in_cases 5 (by omega) x with y | ⟨p, hp, y, -, y1⟩
      · have y : mIn x 0 5 = 0 := y
        have hn : ∀ q, q ≤ 5 → ¬ x = nI q := fun q hq e => by
          subst e
          have : mIn (nI q) 0 5 = 1 := in5 q hq
          rw [this] at y; cases y
        have n0 := hn 0 (by omega); have n1 := hn 1 (by omega); have n2 := hn 2 (by omega); have n3 := hn 3 (by omega); have n4 := hn 4 (by omega); have n5 := hn 5 (by omega)
        simp only [show nI 0 = 0 from rfl, show nI 1 = 1 from rfl, show nI 2 = 2 from rfl, show nI 3 = 3 from rfl, show nI 4 = 4 from rfl, show nI 5 = 5 from rfl] at n0 n1 n2 n3 n4 n5
        simp [z2, z3, y, n0, n1, n2, n3, n4, n5, upd]
      · have y1 : mIn x 0 5 = 1 := y1
        simp only [z2, z3, y1, if_false]
        rcases (show p = 0 ∨ p = 1 ∨ p = 2 ∨ p = 3 ∨ p = 4 ∨ p = 5 by omega) with rfl | rfl | rfl | rfl | rfl | rfl <;> subst y <;> rfl
  · intro hc
    rcases ev_cases g5 h13 hnE e9 with ⟨z1, z2⟩ | ⟨k, hk, z, z0, z1, z2, z3⟩
    · simp [fOfC, z1] at hc
    · obtain ⟨a1, a2, a3, a4, a5, a6, a7, a8, a9, a10⟩ := iE k hk
      have hm : mOfC h e9 x = 0 := by
        rcases in_cases 5 (by omega) x with y | ⟨p, hp, y, -, y1⟩
        · have y : mIn x 0 5 = 0 := y
          have hn : ∀ q, q ≤ 5 → ¬ x = nI q := fun q hq e => by
            subst e
            have : mIn (nI q) 0 5 = 1 := in5 q hq
            rw [this] at y; cases y
          have n0 := hn 0 (by omega); have n1 := hn 1 (by omega); have n2 := hn 2 (by omega); have n3 := hn 3 (by omega); have n4 := hn 4 (by omega); have n5 := hn 5 (by omega)
          simp only [show nI 0 = 0 from rfl, show nI 1 = 1 from rfl, show nI 2 = 2 from rfl, show nI 3 = 3 from rfl, show nI 4 = 4 from rfl, show nI 5 = 5 from rfl] at n0 n1 n2 n3 n4 n5
          simp [fOfC, z1, n0, n1, n2, n3, n4, n5] at hc
        · have y1 : mIn x 0 5 = 1 := y1
          simp [mOfC, z2, z3, y1]
      unfold fOfR mOfR mOfV
      rw [if_pos hm, z1, z0]
      have hw : (if fWaits (ev k) = 0 then (0 : Int32) else 1) = (if ar 18 k = 0 then 0 else 1) := by
        unfold fWaits
        rcases a9 with b | b
        · have : ¬ ev k 4 = -1 := fun z => by have := a10.mpr z; rw [b] at this; cases this
          simp [b, this]
        · simp [b, a10.mp b]
      show (if x = 0 then d (ed k) 0 else if x = 1 then ev k 1 else if x = 2 then ev k 2 else if x = 3 then ev k 3 else if x = 4 then (if fWaits (ev k) = 0 then 0 else 1) else ev k 4) = _
      rw [hw, (iD.1 (ed k) a1).1, a2, a4, a6, a7, a8]
end P74
