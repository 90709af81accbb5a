/-- the events l, one behind the other, from o on -/
def Chain (nx : Nat → Option Nat) : List Nat → Option Nat → Prop
  | [], o => o = none
  | k :: l, o => o = some k ∧ Chain nx l (nx k)
def fWrittenAt (f : Nat → Int32) (wr : List Nat) (v : Int32) : Option Nat := if v < 0 then none else if v < f 9 then wr[v.toNatClampNeg]? else none
def insAt (ev : Nat → Nat → Int32) (v : Nat → Int32) : Option Nat → List Nat → Option Nat × Option Nat
  | a, [] => (a, none)
  | a, b :: l => if fAhead v (ev b) = 0 then insAt ev v (some b) l else (a, some b)
def iNx (nx : Nat → Option Nat) (k : Nat) (q : Option Nat × Option Nat) : Nat → Option Nat := match q.1 with
  | none => upo nx k q.2
  | some a => upo (upo nx k q.2) a (some k)
def iFs (fst : Option Nat) (k : Nat) (q : Option Nat × Option Nat) : Option Nat := match q.1 with
  | none => some k
  | some _ => fst
theorem x_pl (v : Int32) : (v < 0 ∧ True) ∨ ∃ pl : Nat, pl < 2 ^ 31 ∧ v = nI pl := by
  by_cases h : v < 0
  · exact Or.inl ⟨h, trivial⟩
  · obtain ⟨j, hj, e⟩ := nI_of h; exact Or.inr ⟨j, hj, e⟩
theorem x_ltn' {x a : Int32} {i n : Nat} (hx : x = nI i) (ha : a = nI n) (h : ¬ a ≤ x) (hi : i < 2 ^ 31) (hn : n < 2 ^ 31) : i + 1 ≤ n := x_ltn hx ha h hi hn
theorem x_geq {x a : Int32} {i n : Nat} (hx : x = nI i) (ha : a = nI n) (h : a ≤ x) (hi : i ≤ n) (hn : n < 2 ^ 31) : i = n := x_gen hx ha h hi hn
theorem x_nb {v : Int32} (h0 : ¬ v < 0) : v.toNatClampNeg < 2 ^ 31 := by
  obtain ⟨j, hj, rfl⟩ := nI_of h0
  rw [nI_clamp hj]; exact hj
theorem x_lt9 {v a : Int32} {n : Nat} (h0 : ¬ v < 0) (h : v < a) (ha : a = nI n) (hn : n < 2 ^ 31) : v.toNatClampNeg < 0 + n := by
  obtain ⟨j, hj, rfl⟩ := nI_of h0
  rw [ha, nI_ltI hj hn] at h
  rw [nI_clamp hj]; omega
theorem va_rf_cat (o : Option Nat) : (va_rf o).category = 1 := by cases o <;> rfl
