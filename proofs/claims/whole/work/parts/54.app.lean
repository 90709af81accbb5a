section RXA
variable {cI cD cE : ClassId} {aX aR aD aE : Nat} {dA eA : Nat → Nat} {g ro : Nat → Int32} {fst : Option Nat} {nD nE : Nat} {d : Nat → Nat → Int32} {fw lw : Nat → Option Nat} {ed : Nat → Nat} {ev : Nat → Nat → Int32} {nx : Nat → Option Nat} {w : va_W}
theorem RX.app (hR : RX cI cD cE aX aR aD aE dA eA g ro fst nD nE d fw lw ed ev nx w) (x : Nat × va_E) : RX cI cD cE aX aR aD aE dA eA g ro fst nD nE d fw lw ed ev nx (w ++ [x]) := by
  obtain ⟨⟨iD, iE, ⟨h0, h1, h2, h3, h4, h5⟩, hi⟩, hk⟩ := hR
  exact ⟨⟨iD, iE, ⟨x_app_old h0, x_app_old h1, x_app_old h2, x_app_old h3, fun j hj => x_app_old (h4 j hj), fun k hk => x_app_old (h5 k hk)⟩, hi⟩, hk⟩
end RXA
def fDeclC (g ro : Nat → Int32) (k t : Int32) : Int32 := if fWithin k 2 = 0 then 1 else if fRole g ro t = 0 then (if g 3 < 20 then 0 else 2) else 1
def fEvC (g : Nat → Int32) (d9 k w9 t : Int32) : Int32 := match fDeclAt g d9 with
  | none => 1
  | some _ => if fWithin k 9 = 0 then 1 else if fPerson g w9 = 0 then 1 else if t ≤ g 8 then 1 else if t ≤ 100000 then (if 120 ≤ g 5 then 2 else if g 7 < 20 then 0 else 2) else 1
theorem m_inG {x M : Int32} {n N : Nat} (hx : x = nI n) (h : ¬ M ≤ x) (hn : n < 2 ^ 31) (hM : M = nI N) (hN : N < 2 ^ 31) : vp_in x N := by
  subst hx hM
  rw [nI_leI hN hn] at h
  exact vp_in_nI (by omega) hN
