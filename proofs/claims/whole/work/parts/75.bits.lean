-- bits of the failing acts
theorem bit_mask : ∀ k, k < 10 → ((1 : Int32) <<< (nI k &&& 31)).toBitVec = BitVec.twoPow 32 k := by decide +kernel
theorem bit_get {x : Int32} {k : Nat} (hk : k < 10) : fBit x (nI k) = if x.toBitVec.getLsbD k then 1 else 0 := by
  unfold fBit
  have e : (x &&& (1 : Int32) <<< (nI k &&& 31) = 0) ↔ x.toBitVec.getLsbD k = false := by
    rw [← Int32.toBitVec_inj, Int32.toBitVec_and, bit_mask k hk, BitVec.and_twoPow]
    constructor
    · intro h
      by_cases c : x.toBitVec.getLsbD k = true
      · rw [if_pos c] at h
        have : (BitVec.twoPow 32 k).getLsbD k = (0 : Int32).toBitVec.getLsbD k := by rw [h]
        rw [BitVec.getLsbD_twoPow] at this
        simp [show k < 32 by omega] at this
      · simpa using c
    · intro h; rw [h]; rfl
  by_cases c : x.toBitVec.getLsbD k = true
  · have : ¬ (x &&& (1 : Int32) <<< (nI k &&& 31) = 0) := fun z => by rw [e.mp z] at c; cases c
    rw [if_neg this, if_pos c]
  · have c2 : x.toBitVec.getLsbD k = false := by simpa using c
    rw [if_pos (e.mpr c2), if_neg c]
theorem bit_xor {x : Int32} {k i : Nat} (hk : k < 10) (hi : i < 10) : fBit (x ^^^ (1 : Int32) <<< (nI k &&& 31)) (nI i) = if i = k then (if fBit x (nI i) = 0 then 1 else 0) else fBit x (nI i) := by
  rw [bit_get hi, bit_get hi, Int32.toBitVec_xor, bit_mask k hk, BitVec.getLsbD_xor, BitVec.getLsbD_twoPow]
  by_cases e : i = k
  · subst e
    cases x.toBitVec.getLsbD i <;> simp [show i < 32 by omega]
  · have e' : ¬ k = i := fun z => e z.symm
    simp [e, e']
theorem bit_clear {x : Int32} {k i : Nat} (hk : k < 10) (hi : i < 10) : fBit (x &&& ((1 : Int32) <<< (nI k &&& 31) ^^^ (-1))) (nI i) = if i = k then 0 else fBit x (nI i) := by
  have hm : (-1 : Int32).toBitVec = BitVec.allOnes 32 := by decide +kernel
  rw [bit_get hi, bit_get hi, Int32.toBitVec_and, Int32.toBitVec_xor, bit_mask k hk, hm, BitVec.getLsbD_and, BitVec.getLsbD_xor, BitVec.getLsbD_twoPow, BitVec.getLsbD_allOnes]
  by_cases e : i = k
  · subst e
    simp [show i < 32 by omega]
  · have e' : ¬ k = i := fun z => e z.symm
    simp [e, e', show i < 32 by omega]
-- counting
def cB (P : Nat → Bool) : Nat → Nat
  | 0 => 0
  | n + 1 => cB P n + (if P n = true then 1 else 0)
theorem cB_filter {P : Nat → Bool} : ∀ n, cB P n = ((List.range n).filter P).length
  | 0 => rfl
  | n + 1 => by
    rw [List.range_succ, List.filter_append, List.length_append, ← cB_filter n]
    show cB P n + _ = _
    by_cases h : P n = true <;> simp [h]
theorem cB_list {P : Nat → Bool} {n : Nat} {L : List Nat} (hn : L.Nodup) (hm : ∀ k, k ∈ L ↔ k < n ∧ P k = true) : cB P n = L.length := by
  rw [cB_filter]
  refine List.Perm.length_eq ((List.perm_ext_iff_of_nodup (List.Pairwise.filter _ List.nodup_range) hn).mpr (fun k => ?_))
  rw [hm, List.mem_filter, List.mem_range]
theorem cB_le {P : Nat → Bool} : ∀ n, cB P n ≤ n
  | 0 => Nat.le_refl _
  | n + 1 => by
    have := cB_le (P := P) n
    show cB P n + _ ≤ _
    split <;> omega
theorem cntW_cB {ar : Nat → Nat → Int32} : ∀ n, mCntW ar n = nI (cB (fun k => !decide (ar 18 k = 0)) n)
  | 0 => rfl
  | n + 1 => by
    show mCntW ar n + _ = nI (cB _ n + _)
    rw [cntW_cB n, ← nI_add]
    by_cases h : ar 18 n = 0 <;> simp [h] <;> rfl
theorem cntO_cB {ar : Nat → Nat → Int32} {d : Int32} : ∀ n, mCntO ar d n = nI (cB (fun k => decide (ar 14 k = d) && decide (ar 18 k = 0)) n)
  | 0 => rfl
  | n + 1 => by
    show mCntO ar d n + _ = nI (cB _ n + _)
    rw [cntO_cB n, ← nI_add]
    by_cases h : ar 14 n = d <;> by_cases h2 : ar 18 n = 0 <;> simp [h, h2] <;> rfl
theorem ahead_cB {ar : Nat → Nat → Int32} {d : Int32} {e : Nat} : ∀ n, mAhead ar d e n = nI (cB (fun k => decide (ar 14 k = d) && (decide (ar 18 k = 0) && decide (ar 20 k < ar 20 e))) n)
  | 0 => rfl
  | n + 1 => by
    show mAhead ar d e n + _ = nI (cB _ n + _)
    rw [ahead_cB n, ← nI_add]
    by_cases h : ar 14 n = d
    · by_cases h2 : ar 18 n = 0
      · by_cases h3 : ar 20 n < ar 20 e
        · have h4 : ¬ ar 20 e ≤ ar 20 n := Int32.not_le.mpr h3
          simp [h, h2, h3, h4]; rfl
        · have h4 : ar 20 e ≤ ar 20 n := Int32.not_lt.mp h3
          simp [h, h2, h3, h4]; rfl
      · simp [h, h2]; rfl
    · simp [h]; rfl
theorem srt_filter {f : Nat → Int32} : ∀ {L : List Nat} {i e : Nat}, L.Pairwise (fun a b => f a < f b) → L[i]? = some e → (L.filter (fun k => decide (f k < f e))).length = i
  | [], i, e, _, h => by simp at h
  | a :: L, 0, e, hp, h => by
    simp at h; subst h
    have h0 : ∀ k ∈ L, ¬ f k < f a := fun k hk z => by
      have := (List.pairwise_cons.mp hp).1 k hk
      exact Int32.lt_irrefl (Int32.lt_trans z this)
    rw [List.filter_cons, if_neg (by simp [Int32.lt_irrefl]), List.filter_eq_nil_iff.mpr (fun k hk => by simp [h0 k hk])]; rfl
  | a :: L, i + 1, e, hp, h => by
    have h' : L[i]? = some e := by simpa using h
    have hlt := (List.pairwise_cons.mp hp).1 e (List.mem_of_getElem? h')
    rw [List.filter_cons, if_pos (by simp [hlt])]
    simp [srt_filter (List.pairwise_cons.mp hp).2 h']
theorem srt_nodup {f : Nat → Int32} {L : List Nat} (h : L.Pairwise (fun a b => f a < f b)) : L.Nodup :=
  List.Pairwise.imp (fun {a b} hab e => by subst e; exact Int32.lt_irrefl hab) h
theorem nodup_filter {L : List Nat} {P : Nat → Bool} (h : L.Nodup) : (L.filter P).Nodup := List.Pairwise.filter _ h
section P75
variable {g ro : Nat → Int32} {fst : Option Nat} {nD nE nP : Nat} {d : Nat → Nat → Int32} {fw lw : Nat → Option Nat} {ed : Nat → Nat} {ev : Nat → Nat → Int32} {nx : Nat → Option Nat} {h : Nat → Int32} {ar : Nat → Nat → Int32} {wl : List Nat} {wr : Nat → List Nat}
theorem cntW_eq (I : INV g ro fst nD nE d fw lw ed ev nx h ar nP wl wr) : mCntW ar nE = nI wl.length := by
  obtain ⟨-, -, -, -, iE, iWa, -, -⟩ := I
  rw [cntW_cB, cB_list iWa.2.1]
  intro k
  rw [iWa.2.2.2.2.2 k]
  refine and_congr_right (fun hk => ?_)
  rcases (iE k hk).2.2.2.2.2.2.2.2.1 with z | z <;> simp [z]
theorem cntO_eq (I : INV g ro fst nD nE d fw lw ed ev nx h ar nP wl wr) {j : Nat} (hj : j < nD) : mCntO ar (nI j) nE = d j 9 := by
  obtain ⟨iN, -, -, -, iE, -, iWr, -⟩ := I
  obtain ⟨w1, w2, w3, w4, w5⟩ := iWr j hj
  rw [cntO_cB, w3, cB_list (srt_nodup w4)]
  intro k
  rw [w5 k]
  refine and_congr_right (fun hk => ?_)
  have a := (iE k hk).2.1
  have b := (iE k hk).1
  have hD := iN.2.2.2.2.2.1
  rw [a, Bool.and_eq_true, decide_eq_true_iff, decide_eq_true_iff, nI_eq (by omega) (by omega)]
theorem ahead_eq (I : INV g ro fst nD nE d fw lw ed ev nx h ar nP wl wr) {j i e : Nat} (hj : j < nD) (he : (wr j)[i]? = some e) : mAhead ar (nI j) e nE = nI i := by
  obtain ⟨iN, -, -, -, iE, -, iWr, -⟩ := I
  obtain ⟨w1, w2, w3, w4, w5⟩ := iWr j hj
  rw [ahead_cB, cB_list (L := (wr j).filter (fun k => decide (ar 20 k < ar 20 e))) (nodup_filter (srt_nodup w4)), srt_filter w4 he]
  intro k
  rw [List.mem_filter, w5 k]
  constructor
  · rintro ⟨⟨a, b, c⟩, q⟩
    exact ⟨a, by rw [(iE k a).2.1, b]; simp [c]; simpa using q⟩
  · rintro ⟨a, q⟩
    have hD := iN.2.2.2.2.2.1
    have b := (iE k a).1
    rw [(iE k a).2.1, Bool.and_eq_true, Bool.and_eq_true, decide_eq_true_iff, decide_eq_true_iff, nI_eq (by omega) (by omega)] at q
    exact ⟨⟨a, q.1, q.2.1⟩, q.2.2⟩
theorem len_wr (I : INV g ro fst nD nE d fw lw ed ev nx h ar nP wl wr) {j : Nat} (hj : j < nD) : (wr j).length ≤ nE := by
  obtain ⟨-, -, -, -, iE, -, iWr, -⟩ := I
  obtain ⟨w1, w2, w3, w4, w5⟩ := iWr j hj
  rw [← cB_list (P := fun k => decide (ed k = j) && decide (ar 18 k = 0)) (n := nE) (srt_nodup w4)]
  · exact cB_le nE
  · intro k; rw [w5 k]; simp
/-- the reference's search for the i-th -/
theorem wr_at (I : INV g ro fst nD nE d fw lw ed ev nx h ar nP wl wr) {j : Nat} (hj : j < nD) (i9 : Int32) : ∀ n e, e + n = nE → mWr ar (nI j) i9 nE n e = (match (if i9 < 0 then none else (wr j)[i9.toNatClampNeg]?) with | none => -1 | some k => if e ≤ k then 16 * (ar 19 k + 8) + ar 15 k else -1)
  | 0, e, he => by
    show (-1 : Int32) = _
    by_cases c : i9 < 0
    · simp [c]
    · rw [if_neg c]
      cases hk : (wr j)[i9.toNatClampNeg]? with
      | none => rfl
      | some k =>
        have := ((I.2.2.2.2.2.2.1 j hj).2.2.2.2 k).mp (List.mem_of_getElem? hk)
        exact (if_neg (show ¬ e ≤ k by omega)).symm
  | n + 1, e, he => by
    have ih := wr_at I hj i9 n (e + 1) (by omega)
    have hl := len_wr I hj
    have hE : nE ≤ 120 := I.1.2.2.2.2.2.2.2.2.1
    have hmem := (I.2.2.2.2.2.2.1 j hj).2.2.2.2 e
    have hD := I.1.2.2.2.2.2.1
    have hed := (I.2.2.2.2.1 e (by omega)).1
    have h14 : ar 14 e = nI j ↔ ed e = j := by rw [(I.2.2.2.2.1 e (by omega)).2.1, nI_eq (by omega) (by omega)]
    -- when e is not what is looked for
    have skip : (∀ i : Nat, i9 = nI i → ¬ (wr j)[i]? = some e) → (match (if i9 < 0 then none else (wr j)[i9.toNatClampNeg]?) with | none => -1 | some k => if e + 1 ≤ k then 16 * (ar 19 k + 8) + ar 15 k else -1) = (match (if i9 < 0 then none else (wr j)[i9.toNatClampNeg]?) with | none => -1 | some k => if e ≤ k then 16 * (ar 19 k + 8) + ar 15 k else -1) := by
      intro hs
      by_cases c : i9 < 0
      · simp [c]
      · rw [if_neg c]
        cases hk : (wr j)[i9.toNatClampNeg]? with
        | none => rfl
        | some k =>
          have hne : k ≠ e := fun z => hs i9.toNatClampNeg (x_nI c) (by rw [hk, z])
          by_cases q : e ≤ k
          · simp [q, show e + 1 ≤ k by omega]
          · simp [q, show ¬ e + 1 ≤ k by omega]
    show (if ar 14 e = nI j then (if ar 18 e = 0 then (if mAhead ar (nI j) e nE = i9 then 16 * (ar 19 e + 8) + ar 15 e else mWr ar (nI j) i9 nE n (e + 1)) else mWr ar (nI j) i9 nE n (e + 1)) else mWr ar (nI j) i9 nE n (e + 1)) = _
    by_cases c1 : ar 14 e = nI j
    · by_cases c2 : ar 18 e = 0
      · have hm := hmem.mpr ⟨by omega, h14.mp c1, c2⟩
        obtain ⟨i, hi⟩ := List.getElem?_of_mem hm
        have hil : i < (wr j).length := (List.getElem?_eq_some_iff.mp hi).1
        rw [if_pos c1, if_pos c2, ahead_eq I hj hi]
        by_cases c3 : nI i = i9
        · rw [if_pos c3]
          subst c3
          rw [if_neg (nI_pos (by omega)), nI_clamp (by omega), hi]
          simp
        · rw [if_neg c3, ih]
          refine skip (fun i' e' z => c3 ?_)
          have hnd := srt_nodup (I.2.2.2.2.2.2.1 j hj).2.2.2.1
          have hil' : i' < (wr j).length := (List.getElem?_eq_some_iff.mp z).1
          have : i = i' := (List.getElem?_inj hil hnd).mp (hi.trans z.symm)
          rw [e', this]
      · rw [if_pos c1, if_neg c2, ih]
        exact skip (fun i' e' z => c2 (hmem.mp (List.mem_of_getElem? z)).2.2)
    · rw [if_neg c1, ih]
      exact skip (fun i' e' z => c1 (h14.mpr (hmem.mp (List.mem_of_getElem? z)).2.1))
theorem P_written (I : INV g ro fst nD nE d fw lw ed ev nx h ar nP wl wr) (d9 i9 : Int32) : (if mOne h d9 = 0 then upd h 0 1 else upd h 0 0) 0 = fWritC g d9 ∧ (fWritC g d9 = 0 → fWritR g d ev wr d9 i9 = mWrittenR h ar nE d9 i9) ∧ INV g ro fst nD nE d fw lw ed ev nx (if mOne h d9 = 0 then upd h 0 1 else upd h 0 0) ar nP wl wr := by
  refine ⟨?_, ?_, by by_cases hc : mOne h d9 = 0 <;> simp only [hc, if_true, if_false] <;> exact I⟩
  · rcases decl_cases I.1.2.2.2.1 I.1.2.2.2.2.1 I.1.2.2.2.2.2.1 d9 with ⟨z1, z2⟩ | ⟨j, hj, z, z0, z1, z2⟩
    · simp [fWritC, z1, z2, upd]
    · simp [fWritC, z1, z2, upd]
  · intro hc
    rcases decl_cases I.1.2.2.2.1 I.1.2.2.2.2.1 I.1.2.2.2.2.2.1 d9 with ⟨z1, z2⟩ | ⟨j, hj, z, z0, z1, z2⟩
    · simp [fWritC, z1] at hc
    · unfold fWritR mWrittenR
      rw [z1, if_neg (by rw [z2]; decide), z, wr_at I hj i9 nE 0 (by omega)]
      have hE : nE ≤ 120 := I.1.2.2.2.2.2.2.2.2.1
      have hl := len_wr I hj
      have hw := I.2.2.2.2.2.2.1 j hj
      have e1 : fWrittenAt (d j) (wr j) i9 = (if i9 < 0 then none else (wr j)[i9.toNatClampNeg]?) := by
        unfold fWrittenAt
        by_cases c : i9 < 0
        · simp [c]
        · rw [if_neg c, if_neg c]
          by_cases c2 : i9 < d j 9
          · rw [if_pos c2]
          · rw [if_neg c2]
            symm
            rw [List.getElem?_eq_none_iff]
            obtain ⟨q, hq, rfl⟩ := nI_of c
            rw [hw.2.2.1, nI_ltI hq (by omega)] at c2
            rw [nI_clamp hq]; omega
      show (match fWrittenAt (d j) (wr j) i9 with | none => -1 | some k => 16 * (ev k 4 + 8) + ev k 1) = _
      rw [e1]
      by_cases c : i9 < 0
      · simp [c]
      · rw [if_neg c]
        cases hk : (wr j)[i9.toNatClampNeg]? with
        | none => rfl
        | some k =>
          have hkE := ((hw.2.2.2.2 k).mp (List.mem_of_getElem? hk)).1
          obtain ⟨a1, a2, a3, a4, a5, a6, a7, a8, a9, a10⟩ := I.2.2.2.2.1 k hkE
          simp [a4, a8]
end P75
