-- THE CLASS'S STATE: g: the object's numbers by their places (1 people, 3 declared, 5 told, 7 waiting, 8 now, 9 opens, 10 closes, 11 failing); ro: roles;
-- fst: the first that waits; d: a declaration's numbers; fw, lw: first and last written; ed, ev: an event's declaration and numbers (1 kind, 2 who, 3 time, 4 result); nx: the next in its chain
def xFs (aR aD aE : Nat) (eA : Nat → Nat) (g : Nat → Int32) (fst : Option Nat) : List Value := [.ref aR, .int (g 1), .ref aD, .int (g 3), .ref aE, .int (g 5), va_rf (fst.map eA), .int (g 7), .int (g 8), .int (g 9), .int (g 10), .int (g 11)]
def dFs (eA : Nat → Nat) (f : Nat → Int32) (a b : Option Nat) : List Value := [.int (f 0), .int (f 1), .int (f 2), .int (f 3), .int (f 4), .int (f 5), .int (f 6), .int (f 7), .int (f 8), .int (f 9), va_rf (a.map eA), va_rf (b.map eA)]
def eFs (dA eA : Nat → Nat) (dj : Nat) (f : Nat → Int32) (n : Option Nat) : List Value := [.ref (dA dj), .int (f 1), .int (f 2), .int (f 3), .int (f 4), va_rf (n.map eA)]
def rA (dA : Nat → Nat) (n : Nat) (k : Nat) : Option Nat := if k < n then some (dA k) else none
abbrev arR (c : ClassId) (n : Nat) (f : Nat → Option Nat) : va_E := .inl (c, n, .inr (.inr (.inr (.inr f))))
abbrev arI (c : ClassId) (n : Nat) (f : Nat → Int32) : va_E := .inl (c, n, .inl f)
def okP (n : Nat) (o : Option Nat) : Prop := ∀ k, o = some k → k < n
theorem okP_none {n : Nat} : okP n none := fun _ h => by cases h
theorem okP_some {n k : Nat} (h : k < n) : okP n (some k) := fun _ e => by cases e; exact h
theorem okP_mono {n n' : Nat} {o : Option Nat} (h : okP n o) (hn : n ≤ n') : okP n' o := fun k e => Nat.lt_of_lt_of_le (h k e) hn
def xCells (cI cD cE : ClassId) (aX aR aD aE : Nat) (dA eA : Nat → Nat) (g ro : Nat → Int32) (fst : Option Nat) (nD nE : Nat) (d : Nat → Nat → Int32) (fw lw : Nat → Option Nat) (ed : Nat → Nat) (ev : Nat → Nat → Int32) (nx : Nat → Option Nat) (iD iE : Nat → Nat) (w : va_W) : Prop :=
  w[0]? = some (aX, .inr (ciX, xFs aR aD aE eA g fst)) ∧ w[1]? = some (aR, arI cI 12 ro) ∧ w[2]? = some (aD, arR cD 20 (rA dA nD)) ∧ w[3]? = some (aE, arR cE 120 (rA eA nE)) ∧
  (∀ j, j < nD → w[iD j]? = some (dA j, .inr (ciD, dFs eA (d j) (fw j) (lw j)))) ∧ (∀ k, k < nE → w[iE k]? = some (eA k, .inr (ciE, eFs dA eA (ed k) (ev k) (nx k))))
def xInj (nD nE : Nat) (iD iE : Nat → Nat) : Prop := (∀ i j, i < nD → j < nD → iD i = iD j → i = j) ∧ (∀ i j, i < nE → j < nE → iE i = iE j → i = j)
def xOk (nD nE : Nat) (fst : Option Nat) (fw lw : Nat → Option Nat) (ed : Nat → Nat) (nx : Nat → Option Nat) : Prop := okP nE fst ∧ (∀ j, j < nD → okP nE (fw j) ∧ okP nE (lw j)) ∧ ∀ k, k < nE → ed k < nD ∧ okP nE (nx k)
def RX (cI cD cE : ClassId) (aX aR aD aE : Nat) (dA eA : Nat → Nat) (g ro : Nat → Int32) (fst : Option Nat) (nD nE : Nat) (d : Nat → Nat → Int32) (fw lw : Nat → Option Nat) (ed : Nat → Nat) (ev : Nat → Nat → Int32) (nx : Nat → Option Nat) (w : va_W) : Prop :=
  (∃ iD iE : Nat → Nat, xCells cI cD cE aX aR aD aE dA eA g ro fst nD nE d fw lw ed ev nx iD iE w ∧ xInj nD nE iD iE) ∧ xOk nD nE fst fw lw ed nx
def up2 (f : Nat → Nat → Int32) (j : Nat) (k : Nat) (v : Int32) : Nat → Nat → Int32 := fun i => if i = j then upd (f i) k v else f i
def upo (f : Nat → Option Nat) (j : Nat) (v : Option Nat) : Nat → Option Nat := fun i => if i = j then v else f i
section RXS
variable {cI cD cE : ClassId} {aX aR aD aE : Nat} {dA eA : Nat → Nat} {g ro : Nat → Int32} {fst : Option Nat} {nD nE : Nat} {d : Nat → Nat → Int32} {fw lw : Nat → Option Nat} {ed : Nat → Nat} {ev : Nat → Nat → Int32} {nx : Nat → Option Nat} {iD iE : Nat → Nat} {w : va_W}
theorem RX.x (h : RX cI cD cE aX aR aD aE dA eA g ro fst nD nE d fw lw ed ev nx w) : w[0]? = some (aX, .inr (ciX, xFs aR aD aE eA g fst)) := by obtain ⟨⟨iD, iE, h, -⟩, -⟩ := h; exact h.1
theorem RX.r (h : RX cI cD cE aX aR aD aE dA eA g ro fst nD nE d fw lw ed ev nx w) : w[1]? = some (aR, arI cI 12 ro) := by obtain ⟨⟨iD, iE, h, -⟩, -⟩ := h; exact h.2.1
theorem RX.da (h : RX cI cD cE aX aR aD aE dA eA g ro fst nD nE d fw lw ed ev nx w) : w[2]? = some (aD, arR cD 20 (rA dA nD)) := by obtain ⟨⟨iD, iE, h, -⟩, -⟩ := h; exact h.2.2.1
theorem RX.ea (h : RX cI cD cE aX aR aD aE dA eA g ro fst nD nE d fw lw ed ev nx w) : w[3]? = some (aE, arR cE 120 (rA eA nE)) := by obtain ⟨⟨iD, iE, h, -⟩, -⟩ := h; exact h.2.2.2.1
theorem RX.dc (h : RX cI cD cE aX aR aD aE dA eA g ro fst nD nE d fw lw ed ev nx w) {j : Nat} (hj : j < nD) : ∃ q : Nat, w[q]? = some (dA j, .inr (ciD, dFs eA (d j) (fw j) (lw j))) := by obtain ⟨⟨iD, iE, h, -⟩, -⟩ := h; exact ⟨_, h.2.2.2.2.1 j hj⟩
theorem RX.ec (h : RX cI cD cE aX aR aD aE dA eA g ro fst nD nE d fw lw ed ev nx w) {k : Nat} (hk : k < nE) : ∃ q : Nat, w[q]? = some (eA k, .inr (ciE, eFs dA eA (ed k) (ev k) (nx k))) := by obtain ⟨⟨iD, iE, h, -⟩, -⟩ := h; exact ⟨_, h.2.2.2.2.2 k hk⟩
theorem RX.ok (h : RX cI cD cE aX aR aD aE dA eA g ro fst nD nE d fw lw ed ev nx w) : xOk nD nE fst fw lw ed nx := h.2
theorem x_set_ne {i q : Nat} {x y : Nat × va_E} (h : w[q]? = some y) (hne : i ≠ q) : (w.set i x)[q]? = some y := by rw [List.getElem?_set_ne hne]; exact h
theorem x_set_eq {i : Nat} {x y : Nat × va_E} (h : w[i]? = some y) : (w.set i x)[i]? = some x := List.getElem?_set_self (List.getElem?_eq_some_iff.mp h).1
theorem x_idx_ne {i q : Nat} {x y : Nat × va_E} (h1 : w[i]? = some x) (h2 : w[q]? = some y) (hne : x.2 ≠ y.2) : i ≠ q := fun e => by subst e; rw [h1] at h2; cases h2; exact hne rfl
/-- the object's own cell is written -/
theorem RX.setX (h : RX cI cD cE aX aR aD aE dA eA g ro fst nD nE d fw lw ed ev nx w) {g' : Nat → Int32} {fst' : Option Nat} (hf : okP nE fst') : RX cI cD cE aX aR aD aE dA eA g' ro fst' nD nE d fw lw ed ev nx (w.set 0 (aX, .inr (ciX, xFs aR aD aE eA g' fst'))) := by
  obtain ⟨⟨iD, iE, ⟨h0, h1, h2, h3, h4, h5⟩, hi⟩, hk⟩ := h
  refine ⟨⟨iD, iE, ⟨x_set_eq h0, x_set_ne h1 (by decide), x_set_ne h2 (by decide), x_set_ne h3 (by decide), fun j hj => x_set_ne (h4 j hj) (x_idx_ne h0 (h4 j hj) ?_), fun k hk => x_set_ne (h5 k hk) (x_idx_ne h0 (h5 k hk) ?_)⟩, hi⟩, hf, hk.2⟩
  · intro e; simp [ciX, ciD] at e
  · intro e; simp [ciX, ciE] at e
theorem RX.setR (h : RX cI cD cE aX aR aD aE dA eA g ro fst nD nE d fw lw ed ev nx w) {ro' : Nat → Int32} : RX cI cD cE aX aR aD aE dA eA g ro' fst nD nE d fw lw ed ev nx (w.set 1 (aR, arI cI 12 ro')) := by
  obtain ⟨⟨iD, iE, ⟨h0, h1, h2, h3, h4, h5⟩, hi⟩, hk⟩ := h
  refine ⟨⟨iD, iE, ⟨x_set_ne h0 (by decide), x_set_eq h1, x_set_ne h2 (by decide), x_set_ne h3 (by decide), fun j hj => x_set_ne (h4 j hj) (x_idx_ne h1 (h4 j hj) ?_), fun k hk => x_set_ne (h5 k hk) (x_idx_ne h1 (h5 k hk) ?_)⟩, hi⟩, hk⟩
  · intro e; cases e
  · intro e; cases e
/-- a declaration's cell is written -/
theorem RX.setD (h : RX cI cD cE aX aR aD aE dA eA g ro fst nD nE d fw lw ed ev nx w) {j q : Nat} (hj : j < nD) {e0 : va_E} (hA : va_D (fun _ => True) w) (hq : w[q]? = some (dA j, e0)) {d' : Nat → Nat → Int32} {fw' lw' : Nat → Option Nat} (hd : ∀ i, i ≠ j → d' i = d i ∧ fw' i = fw i ∧ lw' i = lw i) (h1 : okP nE (fw' j)) (h2 : okP nE (lw' j)) :
    RX cI cD cE aX aR aD aE dA eA g ro fst nD nE d' fw' lw' ed ev nx (w.set q (dA j, .inr (ciD, dFs eA (d' j) (fw' j) (lw' j)))) := by
  obtain ⟨⟨iD, iE, ⟨h0, h1', h2', h3, h4, h5⟩, hi⟩, hk⟩ := h
  have hqi : q = iD j := hA.1 q (iD j) _ _ hq (h4 j hj) rfl
  subst hqi
  refine ⟨⟨iD, iE, ⟨x_set_ne h0 (x_idx_ne (h4 j hj) h0 ?_), x_set_ne h1' (x_idx_ne (h4 j hj) h1' ?_), x_set_ne h2' (x_idx_ne (h4 j hj) h2' ?_), x_set_ne h3 (x_idx_ne (h4 j hj) h3 ?_), fun i hi' => ?_, fun k hk => x_set_ne (h5 k hk) (x_idx_ne (h4 j hj) (h5 k hk) ?_)⟩, hi⟩, hk.1, fun i hi' => ?_, hk.2.2⟩
  · intro e; simp [ciX, ciD] at e
  · intro e; cases e
  · intro e; cases e
  · intro e; cases e
  · by_cases e : i = j
    · subst e; exact x_set_eq (h4 i hj)
    · rw [x_set_ne (h4 i hi') (fun z => e (hi.1 i j hi' hj z.symm)), (hd i e).1, (hd i e).2.1, (hd i e).2.2]
  · intro e; simp [ciE, ciD] at e
  · by_cases e : i = j
    · subst e; exact ⟨h1, h2⟩
    · rw [(hd i e).2.1, (hd i e).2.2]; exact hk.2.1 i hi'
/-- an event's cell is written -/
theorem RX.setE (h : RX cI cD cE aX aR aD aE dA eA g ro fst nD nE d fw lw ed ev nx w) {k q : Nat} (hkn : k < nE) {e0 : va_E} (hA : va_D (fun _ => True) w) (hq : w[q]? = some (eA k, e0)) {ev' : Nat → Nat → Int32} {nx' : Nat → Option Nat} (hd : ∀ i, i ≠ k → ev' i = ev i ∧ nx' i = nx i) (h1 : okP nE (nx' k)) :
    RX cI cD cE aX aR aD aE dA eA g ro fst nD nE d fw lw ed ev' nx' (w.set q (eA k, .inr (ciE, eFs dA eA (ed k) (ev' k) (nx' k)))) := by
  obtain ⟨⟨iD, iE, ⟨h0, h1', h2', h3, h4, h5⟩, hi⟩, hk⟩ := h
  have hqi : q = iE k := hA.1 q (iE k) _ _ hq (h5 k hkn) rfl
  subst hqi
  refine ⟨⟨iD, iE, ⟨x_set_ne h0 (x_idx_ne (h5 k hkn) h0 ?_), x_set_ne h1' (x_idx_ne (h5 k hkn) h1' ?_), x_set_ne h2' (x_idx_ne (h5 k hkn) h2' ?_), x_set_ne h3 (x_idx_ne (h5 k hkn) h3 ?_), fun j hj => x_set_ne (h4 j hj) (x_idx_ne (h5 k hkn) (h4 j hj) ?_), fun i hi' => ?_⟩, hi⟩, hk.1, hk.2.1, fun i hi' => ?_⟩
  · intro e; simp [ciX, ciE] at e
  · intro e; cases e
  · intro e; cases e
  · intro e; cases e
  · intro e; simp [ciE, ciD] at e
  · by_cases e : i = k
    · subst e; exact x_set_eq (h5 i hkn)
    · rw [x_set_ne (h5 i hi') (fun z => e (hi.2 i k hi' hkn z.symm)), (hd i e).1, (hd i e).2]
  · by_cases e : i = k
    · subst e; exact ⟨(hk.2.2 i hkn).1, h1⟩
    · rw [(hd i e).2]; exact hk.2.2 i hi'
end RXS
