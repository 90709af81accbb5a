theorem ins_split {ev : Nat → Nat → Int32} {v : Nat → Int32} : ∀ (L : List Nat) (a : Option Nat), ∃ pre post, L = pre ++ post ∧ (∀ b ∈ pre, fAhead v (ev b) = 0) ∧ (∀ b, post.head? = some b → ¬ fAhead v (ev b) = 0) ∧ insAt ev v a L = ((if pre = [] then a else pre.getLast?), post.head?)
  | [], a => ⟨[], [], rfl, fun b hb => absurd hb List.not_mem_nil, fun b hb => by simp at hb, rfl⟩
  | b :: L, a => by
    by_cases c : fAhead v (ev b) = 0
    · obtain ⟨pre, post, h1, h2, h3, h4⟩ := ins_split (ev := ev) (v := v) L (some b)
      refine ⟨b :: pre, post, by rw [h1]; rfl, ?_, h3, ?_⟩
      · intro x hx
        rcases List.mem_cons.mp hx with rfl | hx
        · exact c
        · exact h2 x hx
      · show (if fAhead v (ev b) = 0 then insAt ev v (some b) L else (a, some b)) = _
        rw [if_pos c, h4]
        cases pre with
        | nil => rfl
        | cons y pre => simp [List.getLast?_cons_cons]
    · refine ⟨[], b :: L, rfl, fun b hb => absurd hb List.not_mem_nil, fun x hx => ?_, ?_⟩
      · simp at hx; subst hx; exact c
      · show (if fAhead v (ev b) = 0 then insAt ev v (some b) L else (a, some b)) = _
        rw [if_neg c]; rfl
theorem Chain_head {nx : Nat → Option Nat} : ∀ {L : List Nat} {o : Option Nat}, Chain nx L o → o = L.head?
  | [], _, h => h
  | _ :: _, _, h => h.1
theorem Chain_ins {nx : Nat → Option Nat} {k : Nat} {post : List Nat} : ∀ {pre : List Nat} {o : Option Nat} {x : Nat}, pre.getLast? = some x → Chain nx (pre ++ post) o → (pre ++ post).Nodup → k ∉ pre ++ post → Chain (upo (upo nx k post.head?) x (some k)) (pre ++ k :: post) o
  | [], _, _, h, _, _, _ => by simp at h
  | [y], o, x, h, hc, hn, hk => by
    simp at h; subst h
    have hy : k ≠ y := fun z => hk (by simp [z])
    have hp : ∀ b ∈ post, b ≠ y ∧ b ≠ k := fun b hb => ⟨fun z => (List.nodup_cons.mp hn).1 (z ▸ hb), fun z => hk (by rw [z] at hb; simp [hb])⟩
    have e : nx y = post.head? := Chain_head hc.2
    refine ⟨hc.1, ?_⟩
    rw [upo_eq]
    refine ⟨rfl, ?_⟩
    rw [upo_ne hy, upo_eq]
    refine Chain_congr (nx := nx) (fun b hb => ?_) (by rw [← e]; exact hc.2)
    rw [upo_ne (hp b hb).1, upo_ne (hp b hb).2]
  | y :: z :: pre, o, x, h, hc, hn, hk => by
    have hl : (z :: pre).getLast? = some x := by rw [List.getLast?_cons_cons] at h; exact h
    have hlm : x ∈ z :: pre := List.mem_of_getLast? hl
    have hyx : y ≠ x := fun q => by
      rw [q] at hn; exact (List.nodup_cons.mp hn).1 (List.mem_append_left post hlm)
    have hyk : y ≠ k := fun q => hk (by simp [q])
    refine ⟨hc.1, ?_⟩
    rw [upo_ne hyx, upo_ne hyk]
    exact Chain_ins hl hc.2 (List.nodup_cons.mp hn).2 (fun q => hk (List.mem_cons_of_mem _ q))
theorem Chain_ins0 {nx : Nat → Option Nat} {k : Nat} {post : List Nat} {o : Option Nat} (hc : Chain nx post o) (hk : k ∉ post) : Chain (upo nx k post.head?) (k :: post) (some k) := by
  refine ⟨rfl, ?_⟩
  rw [upo_eq]
  refine Chain_congr (nx := nx) (fun b hb => upo_ne (fun z => hk (z ▸ hb))) (by rw [← Chain_head hc]; exact hc)
theorem ahead0 {a b : Nat → Int32} (h : fAhead a b = 0) : b 3 < a 3 ∨ (b 3 = a 3 ∧ b 1 ≤ a 1) := by
  unfold fAhead at h
  by_cases c1 : a 3 < b 3
  · simp [c1] at h
  · by_cases c2 : a 3 = b 3
    · by_cases c3 : b 1 ≤ a 1
      · exact Or.inr ⟨c2.symm, c3⟩
      · simp [c2, c3] at h
    · left
      rw [Int32.lt_iff_toInt_lt] at c1 ⊢
      rw [← Int32.toInt_inj] at c2
      omega
theorem ahead1 {a b : Nat → Int32} (h : ¬ fAhead a b = 0) : a 3 < b 3 ∨ (a 3 = b 3 ∧ a 1 < b 1) := by
  unfold fAhead at h
  by_cases c1 : a 3 < b 3
  · exact Or.inl c1
  · by_cases c2 : a 3 = b 3
    · by_cases c3 : b 1 ≤ a 1
      · simp [c2, c3] at h
      · exact Or.inr ⟨c2, Int32.not_le.mp c3⟩
    · simp [c1, c2] at h
theorem bef_lt {ev : Nat → Nat → Int32} {v b c : Nat} (h1 : ev v 3 < ev b 3 ∨ (ev v 3 = ev b 3 ∧ ev v 1 < ev b 1)) (h2 : bef ev b c) : bef ev v c := by
  unfold bef at *
  simp only [Int32.lt_iff_toInt_lt, ← Int32.toInt_inj] at *
  omega
section P77
variable {g ro : Nat → Int32} {fst : Option Nat} {nD nE nP : Nat} {d : Nat → Nat → Int32} {fw lw : Nat → Option Nat} {ed : Nat → Nat} {ev : Nat → Nat → Int32} {nx : Nat → Option Nat} {h : Nat → Int32} {ar : Nat → Nat → Int32} {wl : List Nat} {wr : Nat → List Nat}
theorem INV_hch (I : INV g ro fst nD nE d fw lw ed ev nx h ar nP wl wr) : Chain (upo nx nE none) wl fst := by
  obtain ⟨iN, iR, iD, iF, iE, iWa, iWr, iT⟩ := I
  refine Chain_congr (fun k hk => upo_ne ?_) iWa.1
  have := ((iWa.2.2.2.2.2 k).mp hk).1
  omega
theorem P_event (I : INV g ro fst nD nE d fw lw ed ev nx h ar nP wl wr) (d9 k w9 t9 : Int32) : mEvH h ar nE d9 k w9 t9 0 = fEvC g d9 k w9 t9 ∧ (fEvC g d9 k w9 t9 = 0 → g 5 = mEvR h ar nE d9 k w9 t9 ∧ ∀ j, fDeclAt g d9 = some j → ∃ wl', INV (upd (upd g 5 (g 5 + 1)) 7 ((upd g 5 (g 5 + 1)) 7 + 1)) ro (iFs fst nE (insAt (upf ev nE (fNewE k w9 t9)) ((upf ev nE (fNewE k w9 t9)) nE) none wl)) nD (nE + 1) d fw lw (va_up ed nE j) (upf ev nE (fNewE k w9 t9)) (iNx (upo nx nE none) nE (insAt (upf ev nE (fNewE k w9 t9)) ((upf ev nE (fNewE k w9 t9)) nE) none wl)) (mEvH h ar nE d9 k w9 t9) (mEvA h ar nE d9 k w9 t9) nP wl' wr) ∧ (¬ fEvC g d9 k w9 t9 = 0 → INV g ro fst nD nE d fw lw ed ev nx (mEvH h ar nE d9 k w9 t9) (mEvA h ar nE d9 k w9 t9) nP wl wr) := by
  have I0 := I
  have hW := cntW_eq I
  obtain ⟨⟨g1, h2, hnP, g3, h4, hnD, g5, h13, hnE, g8, g9, g10⟩, iR, iD, iF, iE, iWa, iWr, iT⟩ := I
  obtain ⟨wa1, wa2, wa3, wa4, wa5, wa6⟩ := iWa
  have hC : mEvC h ar nE d9 k w9 t9 = fEvC g d9 k w9 t9 := by
    unfold mEvC fEvC
    rcases decl_cases g3 h4 hnD d9 with ⟨z1, z2⟩ | ⟨j, hj, z, z0, z1, z2⟩
    · simp [z1, z2]
    · rw [z1, z2, hW, h13, g5, wa4, g8, if_neg (by decide)]
      show _ = if mIn k 0 9 = 0 then 1 else if fPerson g w9 = 0 then 1 else if t9 ≤ h 1 then 1 else if t9 ≤ 100000 then (if 120 ≤ nI nE then 2 else if nI wl.length < 20 then 0 else 2) else 1
      have e1 : (nI nE = 120) ↔ ((120 : Int32) ≤ nI nE) := by
        rw [show (120 : Int32) = nI 120 from rfl, nI_eq (by omega) (by omega), nI_leI (by omega) (by omega)]; omega
      have e2 : (nI wl.length = 20) ↔ ¬ (nI wl.length < 20) := by
        rw [show (20 : Int32) = nI 20 from rfl, nI_eq (by omega) (by omega), nI_ltI (by omega) (by omega)]; omega
      have e3 : fPerson g w9 = mPers h w9 := by
        rcases pers_cases g1 h2 hnP w9 with ⟨x1, x2⟩ | ⟨p, hp, x, x0, x1, x2⟩ <;> rw [x1, x2]
      rw [e3]
      by_cases c1 : (120 : Int32) ≤ nI nE
      · simp [c1, e1.mpr c1]
      · have c1' : ¬ nI nE = 120 := fun z => c1 (e1.mp z)
        by_cases c2 : nI wl.length < 20
        · have c2' : ¬ nI wl.length = 20 := fun z => e2.mp z c2
          simp [c1, c1', c2, c2']
        · simp [c1, c1', c2, e2.mpr c2]
  unfold mEvH mEvA mEvR
  rw [hC]
  refine ⟨?_, fun hc => ?_, fun hc => ?_⟩
  · by_cases hc : fEvC g d9 k w9 t9 = 0
    · rw [if_pos hc, hc]; rfl
    · rw [if_neg hc]; rfl
  · rw [if_pos hc, if_pos hc, if_pos hc]
    refine ⟨by rw [g5, h13, ← nI_succ, nI_pred], fun j hj => ?_⟩
    have hcl : (h 13).toNatClampNeg = nE := by rw [h13]; exact nI_clamp (by omega)
    rw [hcl]
    rcases decl_cases g3 h4 hnD d9 with ⟨z1, z2⟩ | ⟨j', hj', z, z0, z1, z2⟩
    · rw [z1] at hj; cases hj
    have hjj : j' = j := by rw [z1] at hj; cases hj; rfl
    subst hjj
    -- what holds as it is not refused
    have hk : ∃ a, a < 10 ∧ k = nI a := by
      rcases in_cases 9 (by omega) k with y | ⟨p, hp, y, -, -⟩
      · have y : fWithin k 9 = 0 := y
        simp [fEvC, z1, y] at hc
      · exact ⟨p, by omega, y⟩
    have hw : ∃ p, p < nP ∧ w9 = nI p := by
      rcases pers_cases g1 h2 hnP w9 with ⟨x1, x2⟩ | ⟨p, hp, x, x0, x1, x2⟩
      · by_cases c1 : fWithin k 9 = 0 <;> simp [fEvC, z1, x1, c1] at hc
      · exact ⟨p, hp, x⟩
    have hlim : nE < 120 ∧ wl.length < 20 := by
      have hc2 : mEvC h ar nE d9 k w9 t9 = 0 := hC.trans hc
      unfold mEvC at hc2
      rw [h13, hW] at hc2
      constructor
      · refine Nat.lt_of_le_of_ne hnE (fun q => ?_)
        rw [q] at hc2
        rw [show nI 120 = 120 from rfl] at hc2
        revert hc2
        repeat' split
        all_goals first | decide | contradiction
      · refine Nat.lt_of_le_of_ne wa5 (fun q => ?_)
        rw [q] at hc2
        rw [show nI 20 = 20 from rfl] at hc2
        revert hc2
        repeat' split
        all_goals first | decide | contradiction
    obtain ⟨hE1, hW1⟩ := hlim
    have hwlt : ∀ b ∈ wl, b < nE := fun b hb => ((wa6 b).mp hb).1
    have hnew : nE ∉ wl := fun q => by have := hwlt _ q; omega
    obtain ⟨pre, post, e1, e2, e3, e4⟩ := ins_split (ev := upf ev nE (fNewE k w9 t9)) (v := (upf ev nE (fNewE k w9 t9)) nE) wl none
    rw [e4]
    have hq1 : (if pre = [] then none else pre.getLast?) = pre.getLast? := by
      by_cases q : pre = []
      · rw [if_pos q, q]; rfl
      · rw [if_neg q]
    rw [hq1]
    have hch : Chain (upo nx nE none) wl fst := INV_hch I0
    have hperm : (pre ++ nE :: post).Perm (nE :: wl) := by rw [e1]; exact List.perm_middle
    have hmem : ∀ b, b ∈ pre ++ nE :: post ↔ b = nE ∨ b ∈ wl := fun b => by rw [hperm.mem_iff, List.mem_cons]
    have hin : ∀ b, b ∈ pre → b ∈ wl := fun b hb => by rw [e1]; exact List.mem_append_left _ hb
    have hout : ∀ b, b ∈ post → b ∈ wl := fun b hb => by rw [e1]; exact List.mem_append_right _ hb
    -- the chain
    have hnxo : ∀ b, b < nE → b ∉ wl → iNx (upo nx nE none) nE (pre.getLast?, post.head?) b = nx b := by
      intro b hb hbw
      unfold iNx
      cases hp : pre.getLast? with
      | none => show upo _ _ _ b = _; rw [upo_ne (by omega), upo_ne (by omega)]
      | some x =>
        have hx : b ≠ x := fun q => hbw (q ▸ hin x (List.mem_of_getLast? hp))
        show upo (upo _ _ _) _ _ b = _
        rw [upo_ne hx, upo_ne (by omega), upo_ne (by omega)]
    have hcn : Chain (iNx (upo nx nE none) nE (pre.getLast?, post.head?)) (pre ++ nE :: post) (iFs fst nE (pre.getLast?, post.head?)) := by
      unfold iNx iFs
      cases hp : pre.getLast? with
      | none =>
        have hpn : pre = [] := by simpa using hp
        subst hpn
        simp only [List.nil_append] at e1
        show Chain (upo (upo nx nE none) nE post.head?) (nE :: post) (some nE)
        exact Chain_ins0 (o := fst) (by rw [← e1]; exact hch) (fun q => hnew (by rw [e1]; exact q))
      | some x =>
        show Chain (upo (upo (upo nx nE none) nE post.head?) x (some nE)) (pre ++ nE :: post) fst
        exact Chain_ins hp (by rw [← e1]; exact hch) (by rw [← e1]; exact wa2) (by rw [← e1]; exact hnew)
    -- the order
    have hbef : ∀ a b, a ≠ nE → b ≠ nE → bef ev a b → bef (upf ev nE (fNewE k w9 t9)) a b := fun a b ha hb q => by
      unfold bef at *; rw [upf_ne ha, upf_ne hb]; exact q
    have hne : ∀ b ∈ wl, b ≠ nE := fun b hb q => hnew (q ▸ hb)
    have hpair0 : (pre ++ post).Pairwise (bef (upf ev nE (fNewE k w9 t9))) := by
      rw [← e1]
      exact List.Pairwise.imp_of_mem (fun {a b} ha hb q => hbef a b (hne a ha) (hne b hb) q) wa3
    have hpair : (pre ++ nE :: post).Pairwise (bef (upf ev nE (fNewE k w9 t9))) := by
      obtain ⟨p1, p2, p3⟩ := List.pairwise_append.mp hpair0
      have hpo : ∀ b ∈ post, bef (upf ev nE (fNewE k w9 t9)) nE b := by
        cases post with
        | nil => intro b hb; exact absurd hb List.not_mem_nil
        | cons c post =>
          have hc1 := ahead1 (e3 c rfl)
          intro b hb
          rcases List.mem_cons.mp hb with rfl | hb
          · rcases hc1 with q | ⟨q1, q2⟩
            · exact Or.inl q
            · exact Or.inr ⟨q1, Or.inl q2⟩
          · exact bef_lt hc1 ((List.pairwise_cons.mp p2).1 b hb)
      have hpr : ∀ a ∈ pre, bef (upf ev nE (fNewE k w9 t9)) a nE := by
        intro a ha
        have ha2 := hwlt a (hin a ha)
        rcases ahead0 (e2 a ha) with q | ⟨q1, q2⟩
        · exact Or.inl q
        · refine Or.inr ⟨q1, ?_⟩
          by_cases q3 : (upf ev nE (fNewE k w9 t9)) a 1 = (upf ev nE (fNewE k w9 t9)) nE 1
          · exact Or.inr ⟨q3, ha2⟩
          · left
            rw [Int32.lt_iff_toInt_lt]; rw [Int32.le_iff_toInt_le] at q2; rw [← Int32.toInt_inj] at q3; omega
      refine List.pairwise_append.mpr ⟨p1, List.pairwise_cons.mpr ⟨hpo, p2⟩, fun a ha b hb => ?_⟩
      rcases List.mem_cons.mp hb with rfl | hb
      · exact hpr a ha
      · exact p3 a ha b hb
    -- the arrays
    have hoff : ∀ q i, i ≠ nE → mSt (mSt (mSt (mSt (mSt (mSt ar 14 nE d9) 15 nE k) 16 nE w9) 17 nE t9) 18 nE 1) 19 nE (-1) q i = ar q i := fun q i hi => by simp [mSt_get, hi]
    have hq : ∀ q, q ≤ 13 ∨ 20 ≤ q → mSt (mSt (mSt (mSt (mSt (mSt ar 14 nE d9) 15 nE k) 16 nE w9) 17 nE t9) 18 nE 1) 19 nE (-1) q = ar q := fun q hq => by
      rw [mSt_ne (by omega), mSt_ne (by omega), mSt_ne (by omega), mSt_ne (by omega), mSt_ne (by omega), mSt_ne (by omega)]
    generalize har : mSt (mSt (mSt (mSt (mSt (mSt ar 14 nE d9) 15 nE k) 16 nE w9) 17 nE t9) 18 nE 1) 19 nE (-1) = ar' at hoff hq ⊢
    have n14 : ar' 14 nE = d9 := by rw [← har]; simp [mSt_get]
    have n15 : ar' 15 nE = k := by rw [← har]; simp [mSt_get]
    have n16 : ar' 16 nE = w9 := by rw [← har]; simp [mSt_get]
    have n17 : ar' 17 nE = t9 := by rw [← har]; simp [mSt_get]
    have n18 : ar' 18 nE = 1 := by rw [← har]; simp [mSt_get]
    have n19 : ar' 19 nE = -1 := by rw [← har]; simp [mSt_get]
    refine ⟨pre ++ nE :: post, ⟨g1, h2, hnP, g3, h4, hnD, ?_, ?_, by omega, g8, g9, g10⟩, ?_, iDec_congr (fun q a b => hq q (by omega)) iD, ?_, ?_, ⟨hcn, ?_, hpair, ?_, ?_, ?_⟩, ?_, ?_⟩
    · show g 5 + 1 = _; rw [g5, nI_succ]
    · show h 13 + 1 = _; rw [h13, nI_succ]
    · unfold iRol; rw [hq 3 (by omega)]; exact iR
    · unfold iFail; rw [hq 24 (by omega)]; exact iF
    · intro i hi
      by_cases e : i = nE
      · subst e
        rw [va_up_self, upf_eq, n14, n15, n16, n17, n18, n19]
        exact ⟨hj', z, hk, rfl, hw, rfl, rfl, rfl, Or.inr rfl, ⟨fun _ => rfl, fun _ => rfl⟩⟩
      · rw [va_up_ne ed j' e, upf_ne e, hoff 14 i e, hoff 15 i e, hoff 16 i e, hoff 17 i e, hoff 18 i e, hoff 19 i e]
        exact iE i (by omega)
    · exact hperm.nodup_iff.mpr (List.nodup_cons.mpr ⟨hnew, wa2⟩)
    · show g 7 + 1 = _
      rw [wa4, hperm.length_eq, List.length_cons, nI_succ]
    · rw [hperm.length_eq, List.length_cons]; omega
    · intro i
      rw [hmem]
      by_cases e : i = nE
      · subst e; rw [n18]; exact ⟨fun _ => ⟨by omega, rfl⟩, fun _ => Or.inl rfl⟩
      · rw [hoff 18 i e, wa6 i]
        constructor
        · rintro (q | q)
          · exact absurd q e
          · exact ⟨by omega, q.2⟩
        · rintro ⟨q1, q2⟩; exact Or.inr ⟨by omega, q2⟩
    · intro i hi
      obtain ⟨w1, w2, w3, w4, w5⟩ := iWr i hi
      have hb : ∀ b ∈ wr i, b < nE ∧ b ∉ wl := fun b hb => ⟨((w5 b).mp hb).1, fun q => by
        have q1 := ((wa6 b).mp q).2
        rw [((w5 b).mp hb).2.2] at q1
        exact absurd q1 (by decide)⟩
      refine ⟨Chain_congr (fun b hb' => hnxo b (hb b hb').1 (hb b hb').2) w1, w2, w3, by rw [hq 20 (by omega)]; exact w4, fun b => ?_⟩
      by_cases e : b = nE
      · subst e
        rw [n18]
        constructor
        · intro q; have := (hb _ q).1; omega
        · rintro ⟨-, -, q⟩; exact absurd q (by decide)
      · rw [va_up_ne ed j' e, hoff 18 b e, w5 b]
        constructor
        · rintro ⟨a, b, c⟩; exact ⟨by omega, b, c⟩
        · rintro ⟨a, b, c⟩; exact ⟨by omega, b, c⟩
    · obtain ⟨T, t1, t2, t3⟩ := iT
      refine ⟨T, by rw [hperm.length_eq, List.length_cons]; omega, t2, fun i hi q => ?_⟩
      by_cases e : i = nE
      · subst e; rw [n18] at q; exact absurd q (by decide)
      · rw [hoff 18 i e] at q
        rw [hq 20 (by omega)]
        exact t3 i (by omega) q
  · rw [if_neg hc, if_neg hc]; exact I0
end P77
