theorem n0 : nI 0 = 0 := rfl
theorem n1 : nI 1 = 1 := rfl
theorem n2 : nI 2 = 2 := rfl
theorem n3 : nI 3 = 3 := rfl
theorem n4 : nI 4 = 4 := rfl
theorem n5 : nI 5 = 5 := rfl
theorem n6 : nI 6 = 6 := rfl
theorem n7 : nI 7 = 7 := rfl
theorem n8 : nI 8 = 8 := rfl
theorem n9 : nI 9 = 9 := rfl
theorem lt10 {a : Nat} (h : a < 10) : a = 0 ∨ a = 1 ∨ a = 2 ∨ a = 3 ∨ a = 4 ∨ a = 5 ∨ a = 6 ∨ a = 7 ∨ a = 8 ∨ a = 9 := by omega
theorem fPerson_at {g : Nat → Int32} {nP p : Nat} (hg : g 1 = nI nP) (hn : nP ≤ 12) (hp : p < nP) : fPerson g (nI p) = 1 := by
  have h0 : ¬ nI p < 0 := nI_pos (by omega)
  have h1 : ¬ g 1 ≤ nI p := by rw [hg, nI_leI (by omega) (by omega)]; omega
  have h2 : ¬ (12 : Int32) ≤ nI p := by rw [show (12 : Int32) = nI 12 from rfl, nI_leI (by omega) (by omega)]; omega
  simp [fPerson, h0, h1, h2]
theorem fRole_at {g ro : Nat → Int32} {nP p : Nat} (hg : g 1 = nI nP) (hn : nP ≤ 12) (hp : p < nP) : fRole g ro (nI p) = ro p := by
  simp [fRole, fPerson_at hg hn hp, nI_clamp (show p < 2 ^ 31 by omega)]
theorem may_eq {g ro f v : Nat → Int32} {rl : Int32} {a : Nat} (ha : a < 10) (e1 : v 1 = nI a) (hr : fRole g ro (v 2) = rl) (hrl : rl = 0 ∨ rl = 1 ∨ rl = 2) : fMayTell g ro f v = mMay (nI a) (v 2) rl (f 2) := by
  rcases lt10 ha with rfl | rfl | rfl | rfl | rfl | rfl | rfl | rfl | rfl | rfl <;> rcases hrl with rfl | rfl | rfl <;> simp [fMayTell, mMay, mOff, e1, hr, n0, n1, n2, n3, n4, n5, n6, n7, n8, n9]
theorem open_eq {g : Nat → Int32} {t op cl x : Int32} (h9 : g 9 = op) (h10 : g 10 = cl) : (if fOpen g t = 0 then 3 else x) = (if t - t / 24 * 24 < op then 3 else if t - t / 24 * 24 < cl then x else 3) := by
  subst h9 h10
  unfold fOpen
  by_cases h1 : t - t / 24 * 24 < g 9
  · simp [h1]
  · by_cases h2 : g 10 ≤ t - t / 24 * 24
    · simp [h1, h2, show ¬ t - t / 24 * 24 < g 10 from Int32.not_lt.mpr h2]
    · simp [h1, h2, show t - t / 24 * 24 < g 10 from Int32.not_le.mp h2]
/-- the reasons agree -/
theorem why_eq {g ro f v h : Nat → Int32} {ar : Nat → Nat → Int32} {e j a p nP : Nat} (hg1 : g 1 = nI nP) (hnP : nP ≤ 12) (h9 : g 9 = h 22) (h10 : g 10 = h 23) (hro : iRol ro ar nP) (hf : iFail g ar) (hrow : iRow f ar j)
    (ha : a < 10) (e1 : v 1 = nI a) (hp : p < nP) (e2 : v 2 = nI p) (a14 : ar 14 e = nI j) (hj : j < 20) (a15 : ar 15 e = v 1) (a16 : ar 16 e = v 2) (a17 : ar 17 e = v 3) : mWhy h ar e = fRefusal g ro f v := by
  have hr : fRole g ro (v 2) = ar 3 p := by rw [e2, fRole_at hg1 hnP hp]; exact (hro p hp).1
  have hm := may_eq (f := f) ha e1 hr (hro p hp).2
  have hcj : (ar 14 e).toNatClampNeg = j := by rw [a14]; exact nI_clamp (by omega)
  have hcp : (ar 16 e).toNatClampNeg = p := by rw [a16, e2]; exact nI_clamp (by omega)
  have hca : (ar 15 e).toNatClampNeg = a := by rw [a15, e1]; exact nI_clamp (by omega)
  have hfl := hf a ha
  have hfi := fits_eq hrow ha
  have hma := marks_eq hrow ha
  have hof := pa_off a ha
  have hop := fun x => open_eq (g := g) (t := v 3) (x := x) h9 h10
  unfold mWhy mWhyV fRefusal
  rw [hcj, hcp, hca, a15, a16, a17, e1, ← hfl, hm, hof, hfi, hma, hrow.1 2 (by omega) (by omega)]
  unfold mFM
  rw [hop]
theorem Chain_congr {nx nx' : Nat → Option Nat} : ∀ {L : List Nat} {o : Option Nat}, (∀ k ∈ L, nx' k = nx k) → Chain nx L o → Chain nx' L o
  | [], _, _, h => h
  | k :: L, _, hk, h => ⟨h.1, by rw [hk k List.mem_cons_self]; exact Chain_congr (fun i hi => hk i (List.mem_cons_of_mem _ hi)) h.2⟩
theorem Chain_snoc {nx : Nat → Option Nat} {k : Nat} : ∀ {L : List Nat} {o : Option Nat} {l : Nat}, L.getLast? = some l → Chain nx L o → L.Nodup → k ∉ L → Chain (upo (upo nx k none) l (some k)) (L ++ [k]) o
  | [], _, _, h, _, _, _ => by simp at h
  | [x], o, l, h, hc, hn, hk => by
    simp at h; subst h
    have hx : k ≠ x := fun z => hk (by simp [z])
    refine ⟨hc.1, ?_⟩
    rw [upo_eq]
    refine ⟨rfl, ?_⟩
    rw [upo_ne hx, upo_eq]; rfl
  | x :: y :: L, o, l, h, hc, hn, hk => by
    have hl : (y :: L).getLast? = some l := by rw [List.getLast?_cons_cons] at h; exact h
    have hlm : l ∈ y :: L := List.mem_of_getLast? hl
    have hxl : x ≠ l := fun z => by rw [z] at hn; exact (List.nodup_cons.mp hn).1 hlm
    have hxk : x ≠ k := fun z => hk (by simp [z])
    refine ⟨hc.1, ?_⟩
    rw [upo_ne hxl, upo_ne hxk]
    exact Chain_snoc hl hc.2 (List.nodup_cons.mp hn).2 (fun z => hk (List.mem_cons_of_mem _ z))
