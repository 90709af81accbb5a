-- new objects
theorem x_app_get {w : va_W} {x : Nat × va_E} : (w ++ [x])[w.length]? = some x := by simp
theorem x_app_set {w : va_W} {x y : Nat × va_E} : (w ++ [x]).set w.length y = w ++ [y] := by simp
theorem x_app_old {w : va_W} {x y : Nat × va_E} {i : Nat} (h : w[i]? = some x) : (w ++ [y])[i]? = some x := by
  rw [List.getElem?_append_left (List.getElem?_eq_some_iff.mp h).1]; exact h
def fNewD (a b c : Int32) : Nat → Int32
  | 0 => a | 1 => b | 2 => c | 7 => -1 | _ => 0
def fNewE (k who t : Int32) : Nat → Int32
  | 1 => k | 2 => who | 3 => t | 4 => -1 | _ => 0
abbrev dB : List Value := [.int 0, .int 0, .int 0, .int 0, .int 0, .int 0, .int 0, .int 0, .int 0, .int 0, .null, .null]
abbrev eB : List Value := [.null, .int 0, .int 0, .int 0, .int 0, .null]
theorem rA_up {dA : Nat → Nat} {n q : Nat} : va_up (rA dA n) n (some q) = rA (va_up dA n q) (n + 1) := by
  funext k
  unfold va_up rA
  by_cases e : k = n
  · subst e; simp
  · by_cases h : k < n
    · simp [e, h, show k < n + 1 by omega]
    · simp [e, h, show ¬ k < n + 1 by omega]
theorem upn_self {f : Nat → Nat} {n q : Nat} : va_up f n q n = q := if_pos rfl
theorem upn_ne {f : Nat → Nat} {n q k : Nat} (h : k ≠ n) : va_up f n q k = f k := if_neg h
theorem va_up_lt {f : Nat → Nat} {n q k : Nat} (h : k < n) : va_up f n q k = f k := upn_ne (by omega)
theorem map_up {eA : Nat → Nat} {n q : Nat} {o : Option Nat} (h : okP n o) : o.map (va_up eA n q) = o.map eA := by
  cases o with
  | none => rfl
  | some k => simp [va_up_lt (h k rfl)]
section RXN
variable {cI cD cE : ClassId} {aX aR aD aE : Nat} {dA eA : Nat → Nat} {g ro : Nat → Int32} {fst : Option Nat} {nD nE : Nat} {d : Nat → Nat → Int32} {fw lw : Nat → Option Nat} {ed : Nat → Nat} {ev : Nat → Nat → Int32} {nx : Nat → Option Nat} {w : va_W}
theorem RX.newD (hR : RX cI cD cE aX aR aD aE dA eA g ro fst nD nE d fw lw ed ev nx w) (q : Nat) (f : Nat → Int32) :
    RX cI cD cE aX aR aD aE (va_up dA nD q) eA g ro fst (nD + 1) nE (upf d nD f) (upo fw nD none) (upo lw nD none) ed ev nx ((w ++ ([(q, .inr (ciD, dFs eA f none none))] : va_W)).set 2 (aD, arR cD 20 (va_up (rA dA nD) nD (some q)))) := by
  obtain ⟨⟨iD, iE, ⟨h0, h1, h2, h3, h4, h5⟩, hi⟩, hk⟩ := hR
  have l3 : 3 < w.length := (List.getElem?_eq_some_iff.mp h3).1
  have lD : ∀ j, j < nD → iD j < w.length := fun j hj => (List.getElem?_eq_some_iff.mp (h4 j hj)).1
  have h2' := x_app_old (y := (q, .inr (ciD, dFs eA f none none))) h2
  rw [rA_up]
  refine ⟨⟨va_up iD nD w.length, iE, ⟨x_set_ne (x_app_old h0) (by decide), x_set_ne (x_app_old h1) (by decide), x_set_eq h2', x_set_ne (x_app_old h3) (by decide), fun j hj => ?_, fun k hk' => ?_⟩, fun i j hi' hj' e => ?_, hi.2⟩, hk.1, fun j hj => ?_, fun k hk' => ⟨Nat.lt_succ_of_lt (hk.2.2 k hk').1, (hk.2.2 k hk').2⟩⟩
  · by_cases e : j = nD
    · subst e
      rw [upn_self, upn_self, upf_eq, upo_eq, upo_eq]
      exact x_set_ne x_app_get (by omega)
    · have hj2 : j < nD := by omega
      rw [upn_ne e, upn_ne e, upf_ne e, upo_ne e, upo_ne e]
      exact x_set_ne (x_app_old (h4 j hj2)) (x_idx_ne h2 (h4 j hj2) (by intro z; cases z))
  · rw [show eFs (va_up dA nD q) eA (ed k) (ev k) (nx k) = eFs dA eA (ed k) (ev k) (nx k) by unfold eFs; rw [va_up_lt (hk.2.2 k hk').1]]
    exact x_set_ne (x_app_old (h5 k hk')) (x_idx_ne h2 (h5 k hk') (by intro z; cases z))
  · by_cases e1 : i = nD
    · by_cases e2 : j = nD
      · omega
      · subst e1; rw [upn_self, upn_ne e2] at e
        have := lD j (by omega); omega
    · by_cases e2 : j = nD
      · subst e2; rw [upn_self, upn_ne e1] at e
        have := lD i (by omega); omega
      · rw [upn_ne e1, upn_ne e2] at e
        exact hi.1 i j (by omega) (by omega) e
  · by_cases e : j = nD
    · subst e; rw [upo_eq, upo_eq]; exact ⟨okP_none, okP_none⟩
    · rw [upo_ne e, upo_ne e]; exact hk.2.1 j (by omega)
theorem RX.newE (hR : RX cI cD cE aX aR aD aE dA eA g ro fst nD nE d fw lw ed ev nx w) (q j : Nat) (hj : j < nD) (f : Nat → Int32) :
    RX cI cD cE aX aR aD aE dA (va_up eA nE q) g ro fst nD (nE + 1) d fw lw (va_up ed nE j) (upf ev nE f) (upo nx nE none) ((w ++ ([(q, .inr (ciE, eFs dA eA j f none))] : va_W)).set 3 (aE, arR cE 120 (va_up (rA eA nE) nE (some q)))) := by
  obtain ⟨⟨iD, iE, ⟨h0, h1, h2, h3, h4, h5⟩, hi⟩, hk⟩ := hR
  have l3 : 3 < w.length := (List.getElem?_eq_some_iff.mp h3).1
  have lE : ∀ j, j < nE → iE j < w.length := fun j hj => (List.getElem?_eq_some_iff.mp (h5 j hj)).1
  have h3' := x_app_old (y := (q, .inr (ciE, eFs dA eA j f none))) h3
  rw [rA_up]
  refine ⟨⟨iD, va_up iE nE w.length, ⟨?_, x_set_ne (x_app_old h1) (by decide), x_set_ne (x_app_old h2) (by decide), x_set_eq h3', fun i hi' => ?_, fun k hk' => ?_⟩, hi.1, fun i j hi' hj' e => ?_⟩, okP_mono hk.1 (by omega), fun i hi' => ⟨okP_mono (hk.2.1 i hi').1 (by omega), okP_mono (hk.2.1 i hi').2 (by omega)⟩, fun k hk' => ?_⟩
  · rw [show xFs aR aD aE (va_up eA nE q) g fst = xFs aR aD aE eA g fst by unfold xFs; rw [map_up hk.1]]
    exact x_set_ne (x_app_old h0) (by decide)
  · rw [show dFs (va_up eA nE q) (d i) (fw i) (lw i) = dFs eA (d i) (fw i) (lw i) by unfold dFs; rw [map_up (hk.2.1 i hi').1, map_up (hk.2.1 i hi').2]]
    exact x_set_ne (x_app_old (h4 i hi')) (x_idx_ne h3 (h4 i hi') (by intro z; cases z))
  · by_cases e : k = nE
    · subst e
      rw [upn_self, upn_self, upn_self, upf_eq, upo_eq]
      exact x_set_ne x_app_get (by omega)
    · have hk2 : k < nE := by omega
      rw [upn_ne e, upn_ne e, upn_ne e, upf_ne e, upo_ne e, show eFs dA (va_up eA nE q) (ed k) (ev k) (nx k) = eFs dA eA (ed k) (ev k) (nx k) by unfold eFs; rw [map_up (hk.2.2 k hk2).2]]
      exact x_set_ne (x_app_old (h5 k hk2)) (x_idx_ne h3 (h5 k hk2) (by intro z; cases z))
  · by_cases e1 : i = nE
    · by_cases e2 : j = nE
      · omega
      · subst e1; rw [upn_self, upn_ne e2] at e
        have := lE j (by omega); omega
    · by_cases e2 : j = nE
      · subst e2; rw [upn_self, upn_ne e1] at e
        have := lE i (by omega); omega
      · rw [upn_ne e1, upn_ne e2] at e
        exact hi.2 i j (by omega) (by omega) e
  · by_cases e : k = nE
    · subst e; rw [upn_self, upo_eq]; exact ⟨hj, okP_none⟩
    · rw [upn_ne e, upo_ne e]; exact ⟨(hk.2.2 k (by omega)).1, okP_mono (hk.2.2 k (by omega)).2 (by omega)⟩
end RXN
