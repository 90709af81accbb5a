def elig (ar : Nat → Nat → Int32) (t : Int32) (i : Nat) : Prop := ¬ ar 18 i = 0 ∧ ¬ t < ar 17 i
def befA (ar : Nat → Nat → Int32) (a b : Nat) : Prop := ar 17 a < ar 17 b ∨ (ar 17 a = ar 17 b ∧ (ar 15 a < ar 15 b ∨ (ar 15 a = ar 15 b ∧ a < b)))
theorem befA_tr {ar : Nat → Nat → Int32} {a b c : Nat} (h1 : befA ar a b) (h2 : befA ar b c) : befA ar a c := by
  unfold befA at *
  simp only [Int32.lt_iff_toInt_lt, ← Int32.toInt_inj] at *
  omega
theorem befA_as {ar : Nat → Nat → Int32} {a b : Nat} (h1 : befA ar a b) (h2 : befA ar b a) : False := by
  unfold befA at *
  simp only [Int32.lt_iff_toInt_lt, ← Int32.toInt_inj] at *
  omega
theorem first_min {ar : Nat → Nat → Int32} {t : Int32} : ∀ n, n ≤ 120 → (mFirst ar t n = -1 ∧ ∀ i, i < n → ¬ elig ar t i) ∨ ∃ m, m < n ∧ mFirst ar t n = nI m ∧ elig ar t m ∧ ∀ i, i < n → elig ar t i → i = m ∨ befA ar m i
  | 0, _ => Or.inl ⟨rfl, fun i hi => by omega⟩
  | n + 1, hn => by
    have e0 : mFirst ar t (n + 1) = mPick ar t n (mFirst ar t n) := rfl
    by_cases c1 : ar 18 n = 0
    · have e1 : mFirst ar t (n + 1) = mFirst ar t n := by rw [e0]; unfold mPick; rw [if_pos c1]
      have hne : ¬ elig ar t n := fun z => z.1 c1
      rcases first_min n (by omega) with ⟨a, b⟩ | ⟨m, a, b, c, d⟩
      · left; refine ⟨e1.trans a, fun i hi => ?_⟩
        by_cases q : i = n
        · subst q; exact hne
        · exact b i (by omega)
      · right; refine ⟨m, by omega, e1.trans b, c, fun i hi z => ?_⟩
        by_cases q : i = n
        · subst q; exact absurd z hne
        · exact d i (by omega) z
    · by_cases c2 : t < ar 17 n
      · have e1 : mFirst ar t (n + 1) = mFirst ar t n := by rw [e0]; unfold mPick; rw [if_neg c1, if_pos c2]
        have hne : ¬ elig ar t n := fun z => z.2 c2
        rcases first_min n (by omega) with ⟨a, b⟩ | ⟨m, a, b, c, d⟩
        · left; refine ⟨e1.trans a, fun i hi => ?_⟩
          by_cases q : i = n
          · subst q; exact hne
          · exact b i (by omega)
        · right; refine ⟨m, by omega, e1.trans b, c, fun i hi z => ?_⟩
          by_cases q : i = n
          · subst q; exact absurd z hne
          · exact d i (by omega) z
      · have he : elig ar t n := ⟨c1, c2⟩
        right
        rcases first_min n (by omega) with ⟨a, b⟩ | ⟨m, a, b, c, d⟩
        · refine ⟨n, by omega, ?_, he, fun i hi z => ?_⟩
          · rw [e0, a]; unfold mPick; rw [if_neg c1, if_neg c2, if_neg (by decide)]
          · by_cases q : i = n
            · exact Or.inl q
            · exact absurd z (b i (by omega))
        · have hm : (0 : Int32) ≤ nI m := nI_pos' (by omega)
          have hcl : (nI m).toNatClampNeg = m := nI_clamp (by omega)
          have e1 : mFirst ar t (n + 1) = (if ar 17 n < ar 17 m then nI n else if ar 17 n = ar 17 m then (if ar 15 m ≤ ar 15 n then nI m else nI n) else nI m) := by
            rw [e0, b]; unfold mPick; rw [if_neg c1, if_neg c2, if_pos hm, hcl]
          have keep : befA ar m n → mFirst ar t (n + 1) = nI m → ∃ m, m < n + 1 ∧ mFirst ar t (n + 1) = nI m ∧ elig ar t m ∧ ∀ i, i < n + 1 → elig ar t i → i = m ∨ befA ar m i := fun hb e => ⟨m, by omega, e, c, fun i hi z => by
            by_cases q : i = n
            · subst q; exact Or.inr hb
            · exact d i (by omega) z⟩
          have take : befA ar n m → mFirst ar t (n + 1) = nI n → ∃ m, m < n + 1 ∧ mFirst ar t (n + 1) = nI m ∧ elig ar t m ∧ ∀ i, i < n + 1 → elig ar t i → i = m ∨ befA ar m i := fun hb e => ⟨n, by omega, e, he, fun i hi z => by
            by_cases q : i = n
            · exact Or.inl q
            · right
              rcases d i (by omega) z with rfl | z
              · exact hb
              · exact befA_tr hb z⟩
          by_cases k1 : ar 17 n < ar 17 m
          · exact take (Or.inl k1) (by rw [e1, if_pos k1])
          · by_cases k2 : ar 17 n = ar 17 m
            · by_cases k3 : ar 15 m ≤ ar 15 n
              · refine keep (Or.inr ⟨k2.symm, ?_⟩) (by rw [e1, if_neg k1, if_pos k2, if_pos k3])
                by_cases k4 : ar 15 m = ar 15 n
                · exact Or.inr ⟨k4, a⟩
                · left
                  rw [Int32.lt_iff_toInt_lt]; rw [Int32.le_iff_toInt_le] at k3; rw [← Int32.toInt_inj] at k4; omega
              · exact take (Or.inr ⟨k2, Or.inl (Int32.not_le.mp k3)⟩) (by rw [e1, if_neg k1, if_pos k2, if_neg k3])
            · refine keep (Or.inl ?_) (by rw [e1, if_neg k1, if_neg k2])
              rw [Int32.lt_iff_toInt_lt] at k1 ⊢; rw [← Int32.toInt_inj] at k2; omega
theorem setG_ne {g ro f v : Nat → Int32} {q : Nat} (h : q ≠ 11) : fSetG g ro f v q = g q := by
  unfold fSetG; split
  · unfold upd; rw [if_neg h]
  · rfl
theorem nI_ne1 {m : Nat} (h : m < 2 ^ 31) : ¬ nI m = -1 := fun z => by
  have := nI_pos (n := m) h
  rw [z] at this; exact this (by decide)
def frst (t : Int32) (ev : Nat → Nat → Int32) : List Nat → Int32
  | [] => -1
  | k :: _ => if t < ev k 3 then -1 else nI k
section P78
variable {g ro : Nat → Int32} {fst : Option Nat} {nD nE nP : Nat} {d : Nat → Nat → Int32} {fw lw : Nat → Option Nat} {ed : Nat → Nat} {ev : Nat → Nat → Int32} {nx : Nat → Option Nat} {h : Nat → Int32} {ar : Nat → Nat → Int32} {wl : List Nat} {wr : Nat → List Nat}
theorem first_eq (I : INV g ro fst nD nE d fw lw ed ev nx h ar nP wl wr) (t : Int32) : mFirst ar t nE = frst t ev wl := by
  obtain ⟨⟨g1, h2, hnP, g3, h4, hnD, g5, h13, hnE, g8, g9, g10⟩, iR, iD, iF, iE, iWa, iWr, iT⟩ := I
  obtain ⟨wa1, wa2, wa3, wa4, wa5, wa6⟩ := iWa
  have hel : ∀ i, i < nE → elig ar t i → i ∈ wl ∧ ¬ t < ev i 3 := fun i hi z => by
    refine ⟨(wa6 i).mpr ⟨hi, ?_⟩, ?_⟩
    · rcases (iE i hi).2.2.2.2.2.2.2.2.1 with q | q
      · exact absurd q z.1
      · exact q
    · rw [← (iE i hi).2.2.2.2.2.2.1]; exact z.2
  have hbe : ∀ a b, a < nE → b < nE → bef ev a b → befA ar a b := fun a b ha hb z => by
    unfold befA; rw [(iE a ha).2.2.2.2.2.2.1, (iE b hb).2.2.2.2.2.2.1, (iE a ha).2.2.2.1, (iE b hb).2.2.2.1]; exact z
  rcases first_min (ar := ar) (t := t) nE hnE with ⟨a, b⟩ | ⟨m, a, b, c, q⟩
  · rw [a]
    cases wl with
    | nil => rfl
    | cons k L =>
      show _ = if t < ev k 3 then -1 else nI k
      have hk := (wa6 k).mp List.mem_cons_self
      by_cases z : t < ev k 3
      · rw [if_pos z]
      · refine absurd ⟨?_, ?_⟩ (b k hk.1)
        · rw [hk.2]; decide
        · rw [(iE k hk.1).2.2.2.2.2.2.1]; exact z
  · rw [b]
    obtain ⟨hm, ht⟩ := hel m a c
    cases wl with
    | nil => exact absurd hm List.not_mem_nil
    | cons k L =>
      show _ = if t < ev k 3 then -1 else nI k
      have hk := (wa6 k).mp List.mem_cons_self
      rcases List.mem_cons.mp hm with rfl | hm
      · rw [if_neg ht]
      · have hb := hbe k m hk.1 a ((List.pairwise_cons.mp wa3).1 m hm)
        have hkt : ¬ t < ev k 3 := fun z => by
          have := (List.pairwise_cons.mp wa3).1 m hm
          unfold bef at this
          simp only [Int32.lt_iff_toInt_lt, ← Int32.toInt_inj] at *
          omega
        rcases q k hk.1 ⟨by rw [hk.2]; decide, by rw [(iE k hk.1).2.2.2.2.2.2.1]; exact hkt⟩ with z | z
        · rw [z, if_neg ht]
        · exact (befA_as hb z).elim
theorem step_pre {k j a p : Nat} {t : Int32} (hN : iNum g h nP nD nE) (iR : iRol ro ar nP) (iF : iFail g ar) (hr : iRow (d j) ar j) (hj : j < nD) (ha : a < 10) (e1 : ev k 1 = nI a) (hp : p < nP) (e2 : ev k 2 = nI p) (a14 : ar 14 k = nI j) (a15 : ar 15 k = ev k 1) (a16 : ar 16 k = ev k 2) (a17 : ar 17 k = ev k 3) :
    ∃ (F : Nat → Int32) (ar1 : Nat → Nat → Int32) (r : Int32), mStepA h ar k = mSt (mSt (mSt ar1 18 k 0) 19 k r) 20 k (h 21) ∧ fSetF g ro (d j) (ev k) = fWrote F ∧ fSetR g ro (d j) (ev k) = r ∧ iRow F ar1 j ∧ F 0 = d j 0 ∧ F 9 = d j 9 ∧ ¬ r = -1 ∧ iFail (fSetG g ro (d j) (ev k)) ar1 ∧ (∀ q i, q ≠ 24 → i ≠ j → ar1 q i = ar q i) ∧ ∀ q, q ≠ 7 → q ≠ 8 → q ≠ 10 → q ≠ 11 → q ≠ 24 → ar1 q = ar q := by
  obtain ⟨g1, h2, hnP, g3, h4, hnD, g5, h13, hnE, g8, g9, g10⟩ := hN
  have hy := why_eq (e := k) (v := ev k) g1 hnP g9 g10 iR iF hr ha e1 hp e2 a14 (by omega) a15 a16 a17
  have hcj : (ar 14 k).toNatClampNeg = j := by rw [a14]; exact nI_clamp (by omega)
  have hca : (ar 15 k).toNatClampNeg = a := by rw [a15, e1]; exact nI_clamp (by omega)
  have hb := iF a ha
  unfold mStepA mStB mWhyA fSetF fSetR
  rw [hy, hcj, hca]
  by_cases y0 : fRefusal g ro (d j) (ev k) = 0
  · obtain ⟨s1, s2, s3⟩ := ref0 y0
    rw [e1] at s1 s2 s3
    have h24 : ar 24 a = 0 := by rw [← hb]; exact s3
    have hrow := hap_row (t := ev k 3) hr ha s1 s2
    rw [y0, if_pos h24, if_pos rfl, if_pos rfl, if_pos rfl, if_pos (show (0 : Int32) ≤ 0 by decide), a15, a17, e1]
    refine ⟨fCarry (d j) (nI a) (ev k 3), mHap ar j (nI a) (ev k 3), fCarry (d j) (nI a) (ev k 3) 3, ?_, rfl, rfl, hrow, carry_09.1, carry_09.2, ?_, ?_, fun q i _ hi => hap_off hi, fun q b7 b8 b10 b11 _ => mHap_ne b7 b8 b10 b11⟩
    · rw [mSt_ne (show (7 : Nat) ≠ 18 by decide), hrow.all.2.2.1]
    · obtain ⟨s, hs, es⟩ := hrow.2.2.1
      rw [es]; exact nI_ne1 (by omega)
    · have : fSetG g ro (d j) (ev k) = g := by unfold fSetG; rw [y0, if_neg (by decide)]
      rw [this]; unfold iFail; rw [mHap_ne (by decide) (by decide) (by decide) (by decide)]; exact iF
  · obtain ⟨m, hm, em⟩ := ref_le (g := g) (ro := ro) (f := d j) (v := ev k)
    have hm0 : 0 < m := Nat.pos_of_ne_zero (fun z => y0 (by rw [em, z]; rfl))
    have hle : ¬ fRefusal g ro (d j) (ev k) ≤ 0 := by rw [em]; exact nI_nle hm0 (by omega)
    rw [if_neg y0, if_neg y0, if_neg hle, if_neg y0]
    have hr1 : ¬ -1 - fRefusal g ro (d j) (ev k) = -1 := by
      rw [em]
      rcases (show m = 1 ∨ m = 2 ∨ m = 3 ∨ m = 4 ∨ m = 5 by omega) with rfl | rfl | rfl | rfl | rfl <;> decide
    by_cases y1 : fRefusal g ro (d j) (ev k) = 1
    · have hb1 := ref1.mp y1
      rw [e1] at hb1
      have h24 : ¬ ar 24 a = 0 := by rw [← hb]; exact hb1
      rw [if_neg h24]
      refine ⟨d j, mSt ar 24 a 0, _, rfl, rfl, rfl, iRow_congr (fun _ _ _ => rfl) (fun q _ _ => by rw [mSt_ne (by omega)]) hr, rfl, rfl, hr1, ?_, fun q i hq _ => by rw [mSt_ne hq], fun q _ _ _ _ hq => mSt_ne hq⟩
      have hG : fSetG g ro (d j) (ev k) 11 = g 11 &&& ((1 : Int32) <<< (nI a &&& 31) ^^^ (-1)) := by unfold fSetG; rw [if_pos y1, e1]; rfl
      intro i hi
      rw [hG, bit_clear ha hi, mSt_eq]
      show _ = if i = a then 0 else ar 24 i
      by_cases e : i = a
      · rw [if_pos e, if_pos e]
      · rw [if_neg e, if_neg e]; exact iF i hi
    · have hb1 : fBit (g 11) (nI a) = 0 := by
        have := mt ref1.mpr y1
        rw [e1] at this
        exact Decidable.not_not.mp this
      have h24 : ar 24 a = 0 := by rw [← hb]; exact hb1
      rw [if_pos h24]
      refine ⟨d j, ar, _, rfl, rfl, rfl, hr, rfl, rfl, hr1, ?_, fun _ _ _ _ => rfl, fun _ _ _ _ _ _ => rfl⟩
      have : fSetG g ro (d j) (ev k) = g := by unfold fSetG; rw [if_neg y1]
      rw [this]; exact iF
/-- one that waits is carried out, or refused, and written -/
theorem S_step {k : Nat} {L : List Nat} (I : INV g ro fst nD nE d fw lw ed ev nx h ar nP (k :: L) wr) : INV (fSetG (upd g 7 (g 7 - 1)) ro (d (ed k)) (ev k)) ro (nx k) nD nE (upf d (ed k) (fSetF (upd g 7 (g 7 - 1)) ro (d (ed k)) (ev k))) (wFw fw (lw (ed k)) (ed k) k) (upo lw (ed k) (some k)) ed (up2 ev k 4 (fSetR (upd g 7 (g 7 - 1)) ro (d (ed k)) (ev k))) (wNx nx (lw (ed k)) k) (mStepH h) (mStepA h ar k) nP L (fun j => if j = ed k then wr j ++ [k] else wr j) := by
  obtain ⟨iN, iR, iD, iF, iE, iWa, iWr, iT⟩ := I
  obtain ⟨wa1, wa2, wa3, wa4, wa5, wa6⟩ := iWa
  have hk := (wa6 k).mp List.mem_cons_self
  obtain ⟨a1, a14, ⟨a, ha, ea⟩, a15, ⟨p, hp, ep⟩, a16, a17, a19, a18, a18'⟩ := iE k hk.1
  have iN1 : iNum (upd g 7 (g 7 - 1)) h nP nD nE := iN
  have iF1 : iFail (upd g 7 (g 7 - 1)) ar := iF
  obtain ⟨F, ar1, r, s1, s2, s3, s4, s5, s6, s7, s8, s9, s10⟩ := step_pre (t := 0) iN1 iR iF1 (iD.1 (ed k) a1).2 a1 ha ea hp ep a14 a15 a16 a17
  have hG : ∀ q, q ≠ 11 → fSetG (upd g 7 (g 7 - 1)) ro (d (ed k)) (ev k) q = upd g 7 (g 7 - 1) q := fun q hq => setG_ne hq
  rw [s1, s2, s3]
  generalize fSetG (upd g 7 (g 7 - 1)) ro (d (ed k)) (ev k) = g' at s8 hG ⊢
  have har : ∀ q, q ≠ 18 → q ≠ 19 → q ≠ 20 → mSt (mSt (mSt ar1 18 k 0) 19 k r) 20 k (h 21) q = ar1 q := fun q b1 b2 b3 => by rw [mSt_ne b3, mSt_ne b2, mSt_ne b1]
  have hao : ∀ q i, i ≠ k → mSt (mSt (mSt ar1 18 k 0) 19 k r) 20 k (h 21) q i = ar1 q i := fun q i hi => by simp [mSt_get, hi]
  have n18 : mSt (mSt (mSt ar1 18 k 0) 19 k r) 20 k (h 21) 18 k = 0 := by simp [mSt_get]
  have n19 : mSt (mSt (mSt ar1 18 k 0) 19 k r) 20 k (h 21) 19 k = r := by simp [mSt_get]
  have n20 : mSt (mSt (mSt ar1 18 k 0) 19 k r) 20 k (h 21) 20 k = h 21 := by simp [mSt_get]
  generalize mSt (mSt (mSt ar1 18 k 0) 19 k r) 20 k (h 21) = ar' at har hao n18 n19 n20 ⊢
  have k3 : ar' 3 = ar 3 := by rw [har 3 (by decide) (by decide) (by decide), s10 3 (by decide) (by decide) (by decide) (by decide) (by decide)]
  have k14 : ar' 14 = ar 14 := by rw [har 14 (by decide) (by decide) (by decide), s10 14 (by decide) (by decide) (by decide) (by decide) (by decide)]
  have k15 : ar' 15 = ar 15 := by rw [har 15 (by decide) (by decide) (by decide), s10 15 (by decide) (by decide) (by decide) (by decide) (by decide)]
  have k16 : ar' 16 = ar 16 := by rw [har 16 (by decide) (by decide) (by decide), s10 16 (by decide) (by decide) (by decide) (by decide) (by decide)]
  have k17 : ar' 17 = ar 17 := by rw [har 17 (by decide) (by decide) (by decide), s10 17 (by decide) (by decide) (by decide) (by decide) (by decide)]
  have k18 : ∀ i, i ≠ k → ar' 18 i = ar 18 i := fun i hi => by rw [hao 18 i hi, s10 18 (by decide) (by decide) (by decide) (by decide) (by decide)]
  have k19 : ∀ i, i ≠ k → ar' 19 i = ar 19 i := fun i hi => by rw [hao 19 i hi, s10 19 (by decide) (by decide) (by decide) (by decide) (by decide)]
  have k20 : ∀ i, i ≠ k → ar' 20 i = ar 20 i := fun i hi => by rw [hao 20 i hi, s10 20 (by decide) (by decide) (by decide) (by decide) (by decide)]
  have k24 : ar' 24 = ar1 24 := har 24 (by decide) (by decide) (by decide)
  have kd : ∀ q i, 5 ≤ q → q ≤ 12 → i ≠ ed k → ar' q i = ar q i := fun q i b1 b2 hi => by rw [har q (by omega) (by omega) (by omega), s9 q i (by omega) hi]
  have hkL : k ∉ L := (List.nodup_cons.mp wa2).1
  have hL18 : ∀ b ∈ L, b < nE ∧ ar 18 b = 1 := fun b hb => (wa6 b).mp (List.mem_cons_of_mem _ hb)
  have hwr : ∀ j, j < nD → ∀ b ∈ wr j, b < nE ∧ ed b = j ∧ ar 18 b = 0 := fun j hj b hb => ((iWr j hj).2.2.2.2 b).mp hb
  have hne01 : ∀ b, ar 18 b = 1 → ar 18 b = 0 → False := fun b x y => by rw [x] at y; exact absurd y (by decide)
  obtain ⟨T, t1, t2, t3⟩ := iT
  -- the chains elsewhere
  have hnx : ∀ b, b ≠ k → (∀ l, lw (ed k) = some l → b ≠ l) → wNx nx (lw (ed k)) k b = nx b := fun b hb hl => by
    unfold wNx
    cases hlw : lw (ed k) with
    | none => show upo nx k none b = _; rw [upo_ne hb]
    | some x => show upo (upo nx k none) x (some k) b = _; rw [upo_ne (hl x hlw), upo_ne hb]
  have hlast : ∀ l, lw (ed k) = some l → l ∈ wr (ed k) := fun l hl => by
    rw [(iWr (ed k) a1).2.1] at hl; exact List.mem_of_getLast? hl
  refine ⟨?_, ?_, ⟨?_, ?_⟩, ?_, ?_, ⟨?_, ?_, ?_, ?_, ?_, ?_⟩, ?_, ?_⟩
  · unfold iNum
    rw [hG 1 (by decide), hG 3 (by decide), hG 5 (by decide), hG 8 (by decide), hG 9 (by decide), hG 10 (by decide)]
    exact iN
  · unfold iRol; rw [k3]; exact iR
  · intro j hj
    by_cases e : j = ed k
    · subst e
      rw [upf_eq]
      refine ⟨s5.trans (iD.1 (ed k) a1).1, iRow_congr (f := F) (ar := ar1) (fun q b1 b2 => ?_) (fun q b1 b2 => by rw [har q (by omega) (by omega) (by omega)]) s4⟩
      show (if q = 9 then F 9 + 1 else F q) = _
      rw [if_neg (by omega)]
    · rw [upf_ne e]
      exact ⟨(iD.1 j hj).1, iRow_congr (fun _ _ _ => rfl) (fun q b1 b2 => kd q j b1 b2 e) (iD.1 j hj).2⟩
  · intro j hj
    have e : j ≠ ed k := by omega
    rw [kd 7 j (by omega) (by omega) e, kd 8 j (by omega) (by omega) e, kd 9 j (by omega) (by omega) e, kd 10 j (by omega) (by omega) e, kd 12 j (by omega) (by omega) e]
    exact iD.2 j hj
  · unfold iFail; rw [k24]; exact s8
  · intro i hi
    rw [k14, k15, k16, k17]
    by_cases e : i = k
    · subst e
      rw [n18, n19, up2_eq]
      refine ⟨a1, a14, ⟨a, ha, ea⟩, a15, ⟨p, hp, ep⟩, a16, a17, rfl, Or.inl rfl, fun z => absurd z (by decide), fun z => absurd z s7⟩
    · rw [k18 i e, k19 i e, up2_ne e]; exact iE i hi
  · refine Chain_congr (fun b hb => hnx b (fun z => hkL (z ▸ hb)) (fun x hx z => ?_)) wa1.2
    have q1 := (hwr _ a1 x (hlast x hx)).2.2
    rw [← z] at q1
    exact hne01 b (hL18 b hb).2 q1
  · exact (List.nodup_cons.mp wa2).2
  · refine List.Pairwise.imp_of_mem (fun {x y} hx hy q => ?_) (List.pairwise_cons.mp wa3).2
    unfold bef at *
    rw [up2_ne (show x ≠ k from fun z => hkL (z ▸ hx)), up2_ne (show y ≠ k from fun z => hkL (z ▸ hy))]; exact q
  · rw [hG 7 (by decide)]
    show g 7 - 1 = _
    rw [wa4, List.length_cons, nI_pred]
  · rw [List.length_cons] at wa5; omega
  · intro i
    by_cases e : i = k
    · subst e
      rw [n18]
      exact ⟨fun z => absurd z hkL, fun z => absurd z.2 (by decide)⟩
    · rw [k18 i e, ← wa6 i, List.mem_cons]
      exact ⟨Or.inr, fun z => z.resolve_left e⟩
  · intro j hj
    obtain ⟨w1, w2, w3, w4, w5⟩ := iWr j hj
    have hnk : ∀ b ∈ wr j, b ≠ k := fun b hb z => hne01 b (by rw [z]; exact hk.2) (hwr j hj b hb).2.2
    by_cases e : j = ed k
    · subst e
      dsimp only
      rw [if_pos rfl, upf_eq, upo_eq]
      refine ⟨?_, by simp, ?_, ?_, ?_⟩
      · cases hlw : lw (ed k) with
        | none =>
          have hw0 : wr (ed k) = [] := by rw [hlw] at w2; simpa using w2.symm
          rw [hw0]
          show Chain (upo nx k none) [k] (upo fw (ed k) (some k) (ed k))
          rw [upo_eq]
          exact ⟨rfl, by rw [upo_eq]; rfl⟩
        | some x =>
          show Chain (upo (upo nx k none) x (some k)) (wr (ed k) ++ [k]) (fw (ed k))
          exact Chain_snoc (by rw [← w2, hlw]) w1 (srt_nodup w4) (fun z => hnk k z rfl)
      · show F 9 + 1 = _
        rw [s6, w3, List.length_append, List.length_singleton, nI_succ]
      · refine List.pairwise_append.mpr ⟨List.Pairwise.imp_of_mem (fun {x y} hx hy q => ?_) w4, List.pairwise_singleton _ _, fun x hx y hy => ?_⟩
        · rw [k20 x (hnk x hx), k20 y (hnk y hy)]; exact q
        · rw [List.mem_singleton.mp hy, n20, k20 x (hnk x hx)]
          obtain ⟨t, ht, et⟩ := t3 x (hwr _ a1 x hx).1 (hwr _ a1 x hx).2.2
          have := iN.2.2.2.2.2.2.2.2.1
          rw [et, t2, nI_ltI (by omega) (by omega)]; exact ht
      · intro b
        rw [List.mem_append, List.mem_singleton]
        by_cases eb : b = k
        · subst eb; rw [n18]; exact ⟨fun _ => ⟨hk.1, rfl, rfl⟩, fun _ => Or.inr rfl⟩
        · rw [k18 b eb, w5 b]
          exact ⟨fun z => z.resolve_right eb, Or.inl⟩
    · dsimp only
      rw [if_neg e, upf_ne e, upo_ne e]
      have hfw : wFw fw (lw (ed k)) (ed k) k j = fw j := by
        unfold wFw
        cases lw (ed k) with
        | none => exact upo_ne e
        | some x => rfl
      rw [hfw]
      refine ⟨Chain_congr (fun b hb => hnx b (hnk b hb) (fun x hx z => e ?_)) w1, w2, w3, List.Pairwise.imp_of_mem (fun {x y} hx hy q => by rw [k20 x (hnk x hx), k20 y (hnk y hy)]; exact q) w4, fun b => ?_⟩
      · rw [← (hwr j hj b hb).2.1, z]; exact (hwr _ a1 x (hlast x hx)).2.1
      · by_cases eb : b = k
        · subst eb
          exact ⟨fun z => absurd rfl (hnk b z), fun z => absurd z.2.1.symm e⟩
        · rw [k18 b eb]; exact w5 b
  · refine ⟨T + 1, by rw [List.length_cons] at t1; omega, by show h 21 + 1 = _; rw [t2, nI_succ], fun i hi z => ?_⟩
    by_cases e : i = k
    · subst e; exact ⟨T, by omega, by rw [n20, t2]⟩
    · rw [k18 i e] at z
      obtain ⟨t, ht, et⟩ := t3 i hi z
      exact ⟨t, by omega, by rw [k20 i e]; exact et⟩
theorem run_eq {t : Int32} : ∀ (L : List Nat) (n : Nat) (g : Nat → Int32) (fst : Option Nat) (d : Nat → Nat → Int32) (fw lw : Nat → Option Nat) (ev : Nat → Nat → Int32) (nx : Nat → Option Nat) (h : Nat → Int32) (ar : Nat → Nat → Int32) (wr : Nat → List Nat), INV g ro fst nD nE d fw lw ed ev nx h ar nP L wr → n + L.length ≤ 20 →
    mDone t nE (L.length + 1) h ar ∧ (mRun t nE (L.length + 1) h ar (nI n)).1 0 = h 0 ∧ (mRun t nE (L.length + 1) h ar (nI n)).2.2 = nI (tRun t ro ed L (g, fst, d, fw, lw, ev, nx) n).2 ∧ ∃ L' wr', INV (tRun t ro ed L (g, fst, d, fw, lw, ev, nx) n).1.1 ro (tRun t ro ed L (g, fst, d, fw, lw, ev, nx) n).1.2.1 nD nE (tRun t ro ed L (g, fst, d, fw, lw, ev, nx) n).1.2.2.1 (tRun t ro ed L (g, fst, d, fw, lw, ev, nx) n).1.2.2.2.1 (tRun t ro ed L (g, fst, d, fw, lw, ev, nx) n).1.2.2.2.2.1 ed (tRun t ro ed L (g, fst, d, fw, lw, ev, nx) n).1.2.2.2.2.2.1 (tRun t ro ed L (g, fst, d, fw, lw, ev, nx) n).1.2.2.2.2.2.2 (mRun t nE (L.length + 1) h ar (nI n)).1 (mRun t nE (L.length + 1) h ar (nI n)).2.1 nP L' wr'
  | [], n, g, fst, d, fw, lw, ev, nx, h, ar, wr, I, hn => by
    have hf : mFirst ar t nE < 0 := by rw [first_eq I t]; exact (by decide : (-1 : Int32) < 0)
    have e : mRun t nE (([] : List Nat).length + 1) h ar (nI n) = (h, ar, nI n) := by
      show (if mFirst ar t nE < 0 then _ else _) = _
      rw [if_pos hf]
    rw [e]
    exact ⟨Or.inl hf, rfl, rfl, [], wr, I⟩
  | k :: L, n, g, fst, d, fw, lw, ev, nx, h, ar, wr, I, hn => by
    have hf := first_eq I t
    rw [List.length_cons] at hn
    have hkE := ((I.2.2.2.2.2.1.2.2.2.2.2 k).mp List.mem_cons_self).1
    have hE : nE ≤ 120 := I.1.2.2.2.2.2.2.2.2.1
    by_cases c : t < ev k 3
    · have hf : mFirst ar t nE < 0 := by
        rw [hf]; show (if t < ev k 3 then (-1 : Int32) else nI k) < 0
        rw [if_pos c]; decide
      have e : mRun t nE ((k :: L).length + 1) h ar (nI n) = (h, ar, nI n) := by
        show (if mFirst ar t nE < 0 then _ else _) = _
        rw [if_pos hf]
      have e2 : tRun t ro ed (k :: L) (g, fst, d, fw, lw, ev, nx) n = ((g, fst, d, fw, lw, ev, nx), n) := by
        show (if t < ev k 3 then _ else _) = _
        rw [if_pos c]
      rw [e, e2]
      exact ⟨Or.inl hf, rfl, rfl, k :: L, wr, I⟩
    · have hf : mFirst ar t nE = nI k := by
        rw [hf]; show (if t < ev k 3 then (-1 : Int32) else nI k) = _
        rw [if_neg c]
      have hf0 : ¬ mFirst ar t nE < 0 := by rw [hf]; exact nI_pos (by omega)
      have hcl : (mFirst ar t nE).toNatClampNeg = k := by rw [hf]; exact nI_clamp (by omega)
      have e : mRun t nE ((k :: L).length + 1) h ar (nI n) = mRun t nE (L.length + 1) (mStepH h) (mStepA h ar k) (nI (n + 1)) := by
        show (if mFirst ar t nE < 0 then _ else mRun t nE (L.length + 1) (mStepH h) (mStepA h ar (mFirst ar t nE).toNatClampNeg) (nI n + 1)) = _
        rw [if_neg hf0, hcl, nI_1]
      have e2 : tRun t ro ed (k :: L) (g, fst, d, fw, lw, ev, nx) n = tRun t ro ed L (tStep ro ed k (g, fst, d, fw, lw, ev, nx)) (n + 1) := by
        show (if t < ev k 3 then _ else if (20 : Int32) ≤ nI n then _ else _) = _
        rw [if_neg c, if_neg (by rw [show (20 : Int32) = nI 20 from rfl, nI_leI (by omega) (by omega)]; omega)]
      rw [e, e2]
      obtain ⟨r1, r2, r3, r4⟩ := run_eq (t := t) L (n + 1) _ _ _ _ _ _ _ _ _ _ (S_step I) (by omega)
      refine ⟨Or.inr ⟨hf0, by rw [hcl]; exact r1⟩, r2, r3, r4⟩
theorem P_tickOk (I : INV g ro fst nD nE d fw lw ed ev nx h ar nP wl wr) : mOk ar nE := by
  intro e he
  obtain ⟨a1, a14, ⟨a, ha, ea⟩, a15, ⟨p, hp, ep⟩, a16, -⟩ := I.2.2.2.2.1 e he
  have hP : nP ≤ 12 := I.1.2.2.1
  have hD : nD ≤ 20 := I.1.2.2.2.2.2.1
  rw [a14, a15, a16, ea, ep]
  exact ⟨vp_in_nI (by omega) (by omega), vp_in_nI (by omega) (by omega), vp_in_nI (by omega) (by omega)⟩
theorem P_tick (I : INV g ro fst nD nE d fw lw ed ev nx h ar nP wl wr) (t : Int32) : mDone t nE (wl.length + 1) (upd h 0 0) ar ∧ (mTickF h ar (wl.length + 1) nE t).1 0 = fTickC g t ∧ (fTickC g t = 0 → nI (tRun t ro ed wl (g, fst, d, fw, lw, ev, nx) 0).2 = (mTickF h ar (wl.length + 1) nE t).2.2 ∧ ∃ wl' wr', INV (upd (tRun t ro ed wl (g, fst, d, fw, lw, ev, nx) 0).1.1 8 t) ro ((tRun t ro ed wl (g, fst, d, fw, lw, ev, nx) 0).1.2.1) nD nE ((tRun t ro ed wl (g, fst, d, fw, lw, ev, nx) 0).1.2.2.1) ((tRun t ro ed wl (g, fst, d, fw, lw, ev, nx) 0).1.2.2.2.1) ((tRun t ro ed wl (g, fst, d, fw, lw, ev, nx) 0).1.2.2.2.2.1) ed ((tRun t ro ed wl (g, fst, d, fw, lw, ev, nx) 0).1.2.2.2.2.2.1) ((tRun t ro ed wl (g, fst, d, fw, lw, ev, nx) 0).1.2.2.2.2.2.2) (mTickF h ar (wl.length + 1) nE t).1 (mTickF h ar (wl.length + 1) nE t).2.1 nP wl' wr') ∧ (¬ fTickC g t = 0 → INV g ro fst nD nE d fw lw ed ev nx (mTickF h ar (wl.length + 1) nE t).1 (mTickF h ar (wl.length + 1) nE t).2.1 nP wl wr) := by
  have hC : mTickC h t = fTickC g t := by
    unfold mTickC fTickC mIn
    rw [I.1.2.2.2.2.2.2.2.2.2.1]
    by_cases c1 : t < h 1
    · simp [c1]
    · by_cases c2 : t ≤ 100000
      · have c3 : ¬ 100000 < t := Int32.not_lt.mpr c2
        simp [c1, c2, c3]
      · have c3 : 100000 < t := Int32.not_le.mp c2
        simp [c1, c2, c3]
  obtain ⟨r1, r2, r3, L', wr', r4⟩ := run_eq (t := t) wl 0 _ _ _ _ _ _ _ _ _ _ (INV_h0 0 I) (by have := I.2.2.2.2.2.1.2.2.2.2.1; omega)
  refine ⟨r1, ?_⟩
  unfold mTickF
  rw [hC]
  by_cases hc : fTickC g t = 0
  · rw [if_pos hc]
    refine ⟨?_, fun _ => ⟨r3.symm, L', wr', ?_⟩, fun z => absurd hc z⟩
    · rw [hc]
      show (mRun t nE (wl.length + 1) (upd h 0 0) ar 0).1 0 = 0
      exact r2
    · obtain ⟨⟨q1, q2, q3, q4, q5, q6, q7, q8, q9, q10, q11, q12⟩, q13⟩ := r4
      exact ⟨⟨q1, q2, q3, q4, q5, q6, q7, q8, q9, rfl, q11, q12⟩, q13⟩
  · rw [if_neg hc]
    refine ⟨?_, fun z => absurd z hc, fun _ => INV_h0 1 I⟩
    show (1 : Int32) = _
    unfold fTickC at hc ⊢
    by_cases c1 : t < g 8
    · simp [c1]
    · by_cases c2 : t ≤ 100000 <;> simp [c1, c2] at hc ⊢
/-- for the class's own loop -/
theorem P_tickJ {k : Nat} {L : List Nat} {q : TS} (J : ∃ h ar wr, INV q.1 ro q.2.1 nD nE q.2.2.1 q.2.2.2.1 q.2.2.2.2.1 ed q.2.2.2.2.2.1 q.2.2.2.2.2.2 h ar nP (k :: L) wr) : ∃ h ar wr, INV (tStep ro ed k q).1 ro (tStep ro ed k q).2.1 nD nE (tStep ro ed k q).2.2.1 (tStep ro ed k q).2.2.2.1 (tStep ro ed k q).2.2.2.2.1 ed (tStep ro ed k q).2.2.2.2.2.1 (tStep ro ed k q).2.2.2.2.2.2 h ar nP L wr := by
  obtain ⟨h, ar, wr, I⟩ := J
  exact ⟨_, _, _, S_step I⟩
end P78
