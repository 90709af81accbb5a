-- ROWS over the class's state
abbrev xTys (cI cD cE : ClassId) : List (ClassId × FieldType) := [(cI, .int), (cD, .object NmD), (cE, .object NmE)]
theorem dFs_set {eA : Nat → Nat} {f : Nat → Int32} {a b : Option Nat} {v : Int32} {k : Nat} (hk : k < 10) : (dFs eA f a b).set k (.int v) = dFs eA (upd f k v) a b := by
  match k, hk with
  | 0, _ => rfl | 1, _ => rfl | 2, _ => rfl | 3, _ => rfl | 4, _ => rfl | 5, _ => rfl | 6, _ => rfl | 7, _ => rfl | 8, _ => rfl | 9, _ => rfl
theorem dFs_get {eA : Nat → Nat} {f : Nat → Int32} {a b : Option Nat} {k : Nat} (hk : k < 10) : (dFs eA f a b)[k]? = some (.int (f k)) := by
  match k, hk with
  | 0, _ => rfl | 1, _ => rfl | 2, _ => rfl | 3, _ => rfl | 4, _ => rfl | 5, _ => rfl | 6, _ => rfl | 7, _ => rfl | 8, _ => rfl | 9, _ => rfl
theorem eFs_set {dA eA : Nat → Nat} {dj : Nat} {f : Nat → Int32} {n : Option Nat} {v : Int32} {k : Nat} (h1 : 1 ≤ k) (hk : k < 5) : (eFs dA eA dj f n).set k (.int v) = eFs dA eA dj (upd f k v) n := by
  match k, h1, hk with
  | 1, _, _ => rfl | 2, _, _ => rfl | 3, _, _ => rfl | 4, _, _ => rfl
theorem eFs_get {dA eA : Nat → Nat} {dj : Nat} {f : Nat → Int32} {n : Option Nat} {k : Nat} (h1 : 1 ≤ k) (hk : k < 5) : (eFs dA eA dj f n)[k]? = some (.int (f k)) := by
  match k, h1, hk with
  | 1, _, _ => rfl | 2, _, _ => rfl | 3, _, _ => rfl | 4, _, _ => rfl
def xNum (k : Nat) : Bool := k == 1 || k == 3 || k == 5 || k == 7 || k == 8 || k == 9 || k == 10 || k == 11
theorem xNum_or {k : Nat} (h : xNum k = true) : k = 1 ∨ k = 3 ∨ k = 5 ∨ k = 7 ∨ k = 8 ∨ k = 9 ∨ k = 10 ∨ k = 11 := by
  simp only [xNum, Bool.or_eq_true, beq_iff_eq] at h
  omega
theorem xFs_set {aR aD aE : Nat} {eA : Nat → Nat} {g : Nat → Int32} {fst : Option Nat} {v : Int32} {k : Nat} (hk : xNum k = true) : (xFs aR aD aE eA g fst).set k (.int v) = xFs aR aD aE eA (upd g k v) fst := by
  rcases xNum_or hk with rfl | rfl | rfl | rfl | rfl | rfl | rfl | rfl <;> rfl
theorem xFs_get {aR aD aE : Nat} {eA : Nat → Nat} {g : Nat → Int32} {fst : Option Nat} {k : Nat} (hk : xNum k = true) : (xFs aR aD aE eA g fst)[k]? = some (.int (g k)) := by
  rcases xNum_or hk with rfl | rfl | rfl | rfl | rfl | rfl | rfl | rfl <;> rfl
theorem up2_eq {f : Nat → Nat → Int32} {j k : Nat} {v : Int32} : up2 f j k v j = upd (f j) k v := if_pos rfl
theorem up2_ne {f : Nat → Nat → Int32} {i j k : Nat} {v : Int32} (h : i ≠ j) : up2 f j k v i = f i := if_neg h
theorem upo_eq {f : Nat → Option Nat} {j : Nat} {v : Option Nat} : upo f j v j = v := if_pos rfl
theorem upo_ne {f : Nat → Option Nat} {i j : Nat} {v : Option Nat} (h : i ≠ j) : upo f j v i = f i := if_neg h
/-- a declaration's numbers, all of them anew -/
def upf (d : Nat → Nat → Int32) (j : Nat) (f : Nat → Int32) : Nat → Nat → Int32 := fun i => if i = j then f else d i
theorem upf_up2 {d : Nat → Nat → Int32} {j k : Nat} {v : Int32} : up2 d j k v = upf d j (upd (d j) k v) := by
  funext i; unfold up2 upf; by_cases h : i = j
  · subst h; rfl
  · rw [if_neg h, if_neg h]
theorem upf_eq {d : Nat → Nat → Int32} {j : Nat} {f : Nat → Int32} : upf d j f j = f := if_pos rfl
theorem upf_ne {d : Nat → Nat → Int32} {i j : Nat} {f : Nat → Int32} (h : i ≠ j) : upf d j f i = d i := if_neg h
theorem upf_upf {d : Nat → Nat → Int32} {j : Nat} {f f' : Nat → Int32} : upf (upf d j f) j f' = upf d j f' := by
  funext i; unfold upf; by_cases h : i = j
  · rw [if_pos h, if_pos h]
  · rw [if_neg h, if_neg h, if_neg h]
theorem upf_self {d : Nat → Nat → Int32} {j : Nat} : upf d j (d j) = d := by
  funext i; unfold upf; by_cases h : i = j
  · subst h; exact if_pos rfl
  · exact if_neg h
section XR
variable {p : Program} {l : Launch} {e : Env} {R : Room} {s : State} {m : MethodId} {args : Array Value} {below : List Frame} {meth : Method} {c : Code} {H : Heap} {locs : List Loc} {cells slots : Nat} {Q : State → Prop}
variable {cc : ByteArray} {pc : Nat} {ls : Array Slot} {rest : List Value} {A : Nat → Prop} {H0 : Heap} {G : va_G} {tys : List (ClassId × FieldType)} {Ts : List Cond} {own : String} {index : Nat}
variable {cI cD cE : ClassId} {aX aR aD aE : Nat} {dA eA : Nat → Nat} {g ro : Nat → Int32} {fst : Option Nat} {nD nE : Nat} {d : Nat → Nat → Int32} {fw lw : Nat → Option Nat} {ed : Nat → Nat} {ev : Nat → Nat → Int32} {nx : Nat → Option Nat} {w : va_W}
/-- a number of the object is read -/
theorem x_getX (k : Nat) (hx : p.tables.exec = Jvm.exec) (hb : c.code = cc) (hts : ∀ w ∈ Ts, w.before args s = true) (hin : ∀ w ∈ u_ws NmX TmX 12, w ∈ Ts) (hown : s.vm.findClass own = some m.cls) (hK : va_K G vwCl tys s) (hP : va_P G vwCl w H) (hR : RX cI cD cE aX aR aD aE dA eA g ro fst nD nE d fw lw ed ev nx w) (hk : xNum k = true)
    (hlink : (Cond.fieldLink own index NmX (TmX k).2.1 (TmX k).2.2.1).before args s = true) (hsame : (TmX k).1 = NmX) (hdg : decode cc pc = .ok (.getfield index, 3))
    (kk : W p l e R s m args below meth c H locs cells slots Q (F0 m (pc + 3) ls (.int (g k) :: rest))) : W p l e R s m args below meth c H locs cells slots Q (F0 m pc ls (.ref aX :: rest)) :=
  va_get (D := G) (ci := ciX) (v := .int (g k)) (C := NmX) (T := TmX) (N := 12) hx hb hts hin hown hK hP 0 hR.x rfl k (by have := xNum_or hk; omega) hlink (fun _ h9 => by rw [hsame] at h9; exact h9) (xFs_get hk) hdg kk
theorem x_putX (k : Nat) (v : Int32) (hx : p.tables.exec = Jvm.exec) (hb : c.code = cc) (hts : ∀ w ∈ Ts, w.before args s = true) (hin : ∀ w ∈ u_ws NmX TmX 12, w ∈ Ts) (hown : s.vm.findClass own = some m.cls) (hK : va_K G vwCl tys s) (hP : va_P G vwCl w H) (hD : va_D A w) (hS : va_S A H0 H locs) (hR : RX cI cD cE aX aR aD aE dA eA g ro fst nD nE d fw lw ed ev nx w) (hk : xNum k = true)
    (hlink : (Cond.fieldLink own index NmX (TmX k).2.1 (TmX k).2.2.1).before args s = true) (hsame : (TmX k).1 = NmX) (hfin : (TmX k).2.2.2 = false) (hd : parseFieldDescriptor (TmX k).2.2.1 = some .int) (hdg : decode cc pc = .ok (.putfield index, 3))
    (kk : ∀ (w' : va_W) (H1 : Heap) (locs1 : List Loc), RX cI cD cE aX aR aD aE dA eA (upd g k v) ro fst nD nE d fw lw ed ev nx w' → va_P G vwCl w' H1 → va_D A w' → va_S A H0 H1 locs1 → W p l e R s m args below meth c H1 locs1 cells slots Q (F0 m (pc + 3) ls rest)) : W p l e R s m args below meth c H locs cells slots Q (F0 m pc ls (.int v :: .ref aX :: rest)) :=
  va_put (D := G) (ci := ciX) (v := .int v) (ty := .int) (C := NmX) (T := TmX) (N := 12) hx hb hts hin tyX tyX_ok nmX hown hK hP hD hS 0 hR.x rfl k (by have := xNum_or hk; omega) hlink (fun _ h9 => by rw [hsame] at h9; exact h9) hfin hd rfl rfl (by have := xNum_or hk; show k < 12; omega) hdg
    (fun H1 locs1 hP hD hS => by rw [xFs_set hk] at hP hD; exact kk _ H1 locs1 (hR.setX (g' := upd g k v) hR.ok.1) hP hD hS)
/-- the first that waits -/
theorem x_getF (hx : p.tables.exec = Jvm.exec) (hb : c.code = cc) (hts : ∀ w ∈ Ts, w.before args s = true) (hin : ∀ w ∈ u_ws NmX TmX 12, w ∈ Ts) (hown : s.vm.findClass own = some m.cls) (hK : va_K G vwCl tys s) (hP : va_P G vwCl w H) (hR : RX cI cD cE aX aR aD aE dA eA g ro fst nD nE d fw lw ed ev nx w)
    (hlink : (Cond.fieldLink own index NmX (TmX 6).2.1 (TmX 6).2.2.1).before args s = true) (hdg : decode cc pc = .ok (.getfield index, 3))
    (kk : W p l e R s m args below meth c H locs cells slots Q (F0 m (pc + 3) ls (va_rf (fst.map eA) :: rest))) : W p l e R s m args below meth c H locs cells slots Q (F0 m pc ls (.ref aX :: rest)) :=
  va_get (D := G) (ci := ciX) (v := va_rf (fst.map eA)) (C := NmX) (T := TmX) (N := 12) hx hb hts hin hown hK hP 0 hR.x rfl 6 (by decide) hlink (fun _ h9 => h9) rfl hdg kk
theorem x_putF (o : Option Nat) (ho : okP nE o) (hx : p.tables.exec = Jvm.exec) (hb : c.code = cc) (hts : ∀ w ∈ Ts, w.before args s = true) (hin : ∀ w ∈ u_ws NmX TmX 12, w ∈ Ts) (hown : s.vm.findClass own = some m.cls) (hK : va_K G vwCl tys s) (hP : va_P G vwCl w H) (hD : va_D A w) (hS : va_S A H0 H locs) (hR : RX cI cD cE aX aR aD aE dA eA g ro fst nD nE d fw lw ed ev nx w)
    (hlink : (Cond.fieldLink own index NmX (TmX 6).2.1 (TmX 6).2.2.1).before args s = true) (hdg : decode cc pc = .ok (.putfield index, 3))
    (kk : ∀ (w' : va_W) (H1 : Heap) (locs1 : List Loc), RX cI cD cE aX aR aD aE dA eA g ro o nD nE d fw lw ed ev nx w' → va_P G vwCl w' H1 → va_D A w' → va_S A H0 H1 locs1 → W p l e R s m args below meth c H1 locs1 cells slots Q (F0 m (pc + 3) ls rest)) : W p l e R s m args below meth c H locs cells slots Q (F0 m pc ls (va_rf (o.map eA) :: .ref aX :: rest)) :=
  va_put (D := G) (ci := ciX) (v := va_rf (o.map eA)) (ty := .object NmE) (C := NmX) (T := TmX) (N := 12) hx hb hts hin tyX tyX_ok nmX hown hK hP hD hS 0 hR.x rfl 6 (by decide) hlink (fun _ h9 => h9) rfl (by decide +kernel) (by cases o <;> rfl) (by cases o <;> rfl) (Nat.le_of_ble_eq_true rfl) hdg
    (fun H1 locs1 hP hD hS => kk _ H1 locs1 (hR.setX (g' := g) ho) hP hD hS)
/-- the arrays -/
theorem x_getA0 (hx : p.tables.exec = Jvm.exec) (hb : c.code = cc) (hts : ∀ w ∈ Ts, w.before args s = true) (hin : ∀ w ∈ u_ws NmX TmX 12, w ∈ Ts) (hown : s.vm.findClass own = some m.cls) (hK : va_K G vwCl tys s) (hP : va_P G vwCl w H) (hR : RX cI cD cE aX aR aD aE dA eA g ro fst nD nE d fw lw ed ev nx w)
    (hlink : (Cond.fieldLink own index NmX (TmX 0).2.1 (TmX 0).2.2.1).before args s = true) (hdg : decode cc pc = .ok (.getfield index, 3))
    (kk : W p l e R s m args below meth c H locs cells slots Q (F0 m (pc + 3) ls (.ref aR :: rest))) : W p l e R s m args below meth c H locs cells slots Q (F0 m pc ls (.ref aX :: rest)) :=
  va_get (D := G) (ci := ciX) (v := .ref aR) (C := NmX) (T := TmX) (N := 12) hx hb hts hin hown hK hP 0 hR.x rfl 0 (by decide) hlink (fun _ h9 => h9) rfl hdg kk
theorem x_getA2 (hx : p.tables.exec = Jvm.exec) (hb : c.code = cc) (hts : ∀ w ∈ Ts, w.before args s = true) (hin : ∀ w ∈ u_ws NmX TmX 12, w ∈ Ts) (hown : s.vm.findClass own = some m.cls) (hK : va_K G vwCl tys s) (hP : va_P G vwCl w H) (hR : RX cI cD cE aX aR aD aE dA eA g ro fst nD nE d fw lw ed ev nx w)
    (hlink : (Cond.fieldLink own index NmX (TmX 2).2.1 (TmX 2).2.2.1).before args s = true) (hdg : decode cc pc = .ok (.getfield index, 3))
    (kk : W p l e R s m args below meth c H locs cells slots Q (F0 m (pc + 3) ls (.ref aD :: rest))) : W p l e R s m args below meth c H locs cells slots Q (F0 m pc ls (.ref aX :: rest)) :=
  va_get (D := G) (ci := ciX) (v := .ref aD) (C := NmX) (T := TmX) (N := 12) hx hb hts hin hown hK hP 0 hR.x rfl 2 (by decide) hlink (fun _ h9 => h9) rfl hdg kk
theorem x_getA4 (hx : p.tables.exec = Jvm.exec) (hb : c.code = cc) (hts : ∀ w ∈ Ts, w.before args s = true) (hin : ∀ w ∈ u_ws NmX TmX 12, w ∈ Ts) (hown : s.vm.findClass own = some m.cls) (hK : va_K G vwCl tys s) (hP : va_P G vwCl w H) (hR : RX cI cD cE aX aR aD aE dA eA g ro fst nD nE d fw lw ed ev nx w)
    (hlink : (Cond.fieldLink own index NmX (TmX 4).2.1 (TmX 4).2.2.1).before args s = true) (hdg : decode cc pc = .ok (.getfield index, 3))
    (kk : W p l e R s m args below meth c H locs cells slots Q (F0 m (pc + 3) ls (.ref aE :: rest))) : W p l e R s m args below meth c H locs cells slots Q (F0 m pc ls (.ref aX :: rest)) :=
  va_get (D := G) (ci := ciX) (v := .ref aE) (C := NmX) (T := TmX) (N := 12) hx hb hts hin hown hK hP 0 hR.x rfl 4 (by decide) hlink (fun _ h9 => h9) rfl hdg kk
/-- a declaration's numbers and chains -/
theorem x_getD (k : Nat) {j : Nat} (hj : j < nD) (hx : p.tables.exec = Jvm.exec) (hb : c.code = cc) (hts : ∀ w ∈ Ts, w.before args s = true) (hin : ∀ w ∈ u_ws NmD TmD 12, w ∈ Ts) (hown : s.vm.findClass own = some m.cls) (hK : va_K G vwCl tys s) (hP : va_P G vwCl w H) (hR : RX cI cD cE aX aR aD aE dA eA g ro fst nD nE d fw lw ed ev nx w) (hk : k < 10)
    (hlink : (Cond.fieldLink own index NmD (TmD k).2.1 (TmD k).2.2.1).before args s = true) (hsame : (TmD k).1 = NmD) (hdg : decode cc pc = .ok (.getfield index, 3))
    (kk : W p l e R s m args below meth c H locs cells slots Q (F0 m (pc + 3) ls (.int (d j k) :: rest))) : W p l e R s m args below meth c H locs cells slots Q (F0 m pc ls (.ref (dA j) :: rest)) := by
  obtain ⟨q, hq⟩ := hR.dc hj
  exact va_get (D := G) (ci := ciD) (v := .int (d j k)) (C := NmD) (T := TmD) (N := 12) hx hb hts hin hown hK hP q hq rfl k (by omega) hlink (fun _ h9 => by rw [hsame] at h9; exact h9) (dFs_get hk) hdg kk
theorem x_getD10 {j : Nat} (hj : j < nD) (hx : p.tables.exec = Jvm.exec) (hb : c.code = cc) (hts : ∀ w ∈ Ts, w.before args s = true) (hin : ∀ w ∈ u_ws NmD TmD 12, w ∈ Ts) (hown : s.vm.findClass own = some m.cls) (hK : va_K G vwCl tys s) (hP : va_P G vwCl w H) (hR : RX cI cD cE aX aR aD aE dA eA g ro fst nD nE d fw lw ed ev nx w)
    (hlink : (Cond.fieldLink own index NmD (TmD 10).2.1 (TmD 10).2.2.1).before args s = true) (hdg : decode cc pc = .ok (.getfield index, 3))
    (kk : W p l e R s m args below meth c H locs cells slots Q (F0 m (pc + 3) ls (va_rf ((fw j).map eA) :: rest))) : W p l e R s m args below meth c H locs cells slots Q (F0 m pc ls (.ref (dA j) :: rest)) := by
  obtain ⟨q, hq⟩ := hR.dc hj
  exact va_get (D := G) (ci := ciD) (v := va_rf ((fw j).map eA)) (C := NmD) (T := TmD) (N := 12) hx hb hts hin hown hK hP q hq rfl 10 (by decide) hlink (fun _ h9 => h9) rfl hdg kk
theorem x_getD11 {j : Nat} (hj : j < nD) (hx : p.tables.exec = Jvm.exec) (hb : c.code = cc) (hts : ∀ w ∈ Ts, w.before args s = true) (hin : ∀ w ∈ u_ws NmD TmD 12, w ∈ Ts) (hown : s.vm.findClass own = some m.cls) (hK : va_K G vwCl tys s) (hP : va_P G vwCl w H) (hR : RX cI cD cE aX aR aD aE dA eA g ro fst nD nE d fw lw ed ev nx w)
    (hlink : (Cond.fieldLink own index NmD (TmD 11).2.1 (TmD 11).2.2.1).before args s = true) (hdg : decode cc pc = .ok (.getfield index, 3))
    (kk : W p l e R s m args below meth c H locs cells slots Q (F0 m (pc + 3) ls (va_rf ((lw j).map eA) :: rest))) : W p l e R s m args below meth c H locs cells slots Q (F0 m pc ls (.ref (dA j) :: rest)) := by
  obtain ⟨q, hq⟩ := hR.dc hj
  exact va_get (D := G) (ci := ciD) (v := va_rf ((lw j).map eA)) (C := NmD) (T := TmD) (N := 12) hx hb hts hin hown hK hP q hq rfl 11 (by decide) hlink (fun _ h9 => h9) rfl hdg kk
theorem x_putD (k : Nat) (v : Int32) {j : Nat} (hj : j < nD) (hx : p.tables.exec = Jvm.exec) (hb : c.code = cc) (hts : ∀ w ∈ Ts, w.before args s = true) (hin : ∀ w ∈ u_ws NmD TmD 12, w ∈ Ts) (hown : s.vm.findClass own = some m.cls) (hK : va_K G vwCl tys s) (hP : va_P G vwCl w H) (hD : va_D A w) (hS : va_S A H0 H locs) (hR : RX cI cD cE aX aR aD aE dA eA g ro fst nD nE d fw lw ed ev nx w) (hk : k < 10)
    (hlink : (Cond.fieldLink own index NmD (TmD k).2.1 (TmD k).2.2.1).before args s = true) (hsame : (TmD k).1 = NmD) (hfin : (TmD k).2.2.2 = false) (hd : parseFieldDescriptor (TmD k).2.2.1 = some .int) (hdg : decode cc pc = .ok (.putfield index, 3))
    (kk : ∀ (w' : va_W) (H1 : Heap) (locs1 : List Loc), RX cI cD cE aX aR aD aE dA eA g ro fst nD nE (upf d j (upd (d j) k v)) fw lw ed ev nx w' → va_P G vwCl w' H1 → va_D A w' → va_S A H0 H1 locs1 → W p l e R s m args below meth c H1 locs1 cells slots Q (F0 m (pc + 3) ls rest)) : W p l e R s m args below meth c H locs cells slots Q (F0 m pc ls (.int v :: .ref (dA j) :: rest)) := by
  obtain ⟨q, hq⟩ := hR.dc hj
  have hA := hD.weaken (B := fun _ => True) (fun _ _ _ _ => trivial)
  refine va_put (D := G) (ci := ciD) (v := .int v) (ty := .int) (C := NmD) (T := TmD) (N := 12) hx hb hts hin tyD tyD_ok nmD hown hK hP hD hS q hq rfl k (by omega) hlink (fun _ h9 => by rw [hsame] at h9; exact h9) hfin hd rfl rfl (show k < 12 by omega) hdg
    (fun H1 locs1 hP hD hS => ?_)
  have hR' := hR.setD hj hA hq (d' := upf d j (upd (d j) k v)) (fw' := fw) (lw' := lw) (fun i hi => ⟨upf_ne hi, rfl, rfl⟩) (hR.ok.2.1 j hj).1 (hR.ok.2.1 j hj).2
  rw [dFs_set hk] at hP hD
  rw [upf_eq] at hR'
  exact kk _ H1 locs1 hR' hP hD hS
theorem x_putD10 (o : Option Nat) (ho : okP nE o) {j : Nat} (hj : j < nD) (hx : p.tables.exec = Jvm.exec) (hb : c.code = cc) (hts : ∀ w ∈ Ts, w.before args s = true) (hin : ∀ w ∈ u_ws NmD TmD 12, w ∈ Ts) (hown : s.vm.findClass own = some m.cls) (hK : va_K G vwCl tys s) (hP : va_P G vwCl w H) (hD : va_D A w) (hS : va_S A H0 H locs) (hR : RX cI cD cE aX aR aD aE dA eA g ro fst nD nE d fw lw ed ev nx w)
    (hlink : (Cond.fieldLink own index NmD (TmD 10).2.1 (TmD 10).2.2.1).before args s = true) (hdg : decode cc pc = .ok (.putfield index, 3))
    (kk : ∀ (w' : va_W) (H1 : Heap) (locs1 : List Loc), RX cI cD cE aX aR aD aE dA eA g ro fst nD nE d (upo fw j o) lw ed ev nx w' → va_P G vwCl w' H1 → va_D A w' → va_S A H0 H1 locs1 → W p l e R s m args below meth c H1 locs1 cells slots Q (F0 m (pc + 3) ls rest)) : W p l e R s m args below meth c H locs cells slots Q (F0 m pc ls (va_rf (o.map eA) :: .ref (dA j) :: rest)) := by
  obtain ⟨q, hq⟩ := hR.dc hj
  have hA := hD.weaken (B := fun _ => True) (fun _ _ _ _ => trivial)
  refine va_put (D := G) (ci := ciD) (v := va_rf (o.map eA)) (ty := .object NmE) (C := NmD) (T := TmD) (N := 12) hx hb hts hin tyD tyD_ok nmD hown hK hP hD hS q hq rfl 10 (by decide) hlink (fun _ h9 => h9) rfl (by decide +kernel) (by cases o <;> rfl) (by cases o <;> rfl) (Nat.le_of_ble_eq_true rfl) hdg
    (fun H1 locs1 hP hD hS => ?_)
  have hR' := hR.setD hj hA hq (d' := d) (fw' := upo fw j o) (lw' := lw) (fun i hi => ⟨rfl, upo_ne hi, rfl⟩) (by rw [upo_eq]; exact ho) (hR.ok.2.1 j hj).2
  rw [upo_eq] at hR'
  exact kk _ H1 locs1 hR' hP hD hS
theorem x_putD11 (o : Option Nat) (ho : okP nE o) {j : Nat} (hj : j < nD) (hx : p.tables.exec = Jvm.exec) (hb : c.code = cc) (hts : ∀ w ∈ Ts, w.before args s = true) (hin : ∀ w ∈ u_ws NmD TmD 12, w ∈ Ts) (hown : s.vm.findClass own = some m.cls) (hK : va_K G vwCl tys s) (hP : va_P G vwCl w H) (hD : va_D A w) (hS : va_S A H0 H locs) (hR : RX cI cD cE aX aR aD aE dA eA g ro fst nD nE d fw lw ed ev nx w)
    (hlink : (Cond.fieldLink own index NmD (TmD 11).2.1 (TmD 11).2.2.1).before args s = true) (hdg : decode cc pc = .ok (.putfield index, 3))
    (kk : ∀ (w' : va_W) (H1 : Heap) (locs1 : List Loc), RX cI cD cE aX aR aD aE dA eA g ro fst nD nE d fw (upo lw j o) ed ev nx w' → va_P G vwCl w' H1 → va_D A w' → va_S A H0 H1 locs1 → W p l e R s m args below meth c H1 locs1 cells slots Q (F0 m (pc + 3) ls rest)) : W p l e R s m args below meth c H locs cells slots Q (F0 m pc ls (va_rf (o.map eA) :: .ref (dA j) :: rest)) := by
  obtain ⟨q, hq⟩ := hR.dc hj
  have hA := hD.weaken (B := fun _ => True) (fun _ _ _ _ => trivial)
  refine va_put (D := G) (ci := ciD) (v := va_rf (o.map eA)) (ty := .object NmE) (C := NmD) (T := TmD) (N := 12) hx hb hts hin tyD tyD_ok nmD hown hK hP hD hS q hq rfl 11 (by decide) hlink (fun _ h9 => h9) rfl (by decide +kernel) (by cases o <;> rfl) (by cases o <;> rfl) (Nat.le_of_ble_eq_true rfl) hdg
    (fun H1 locs1 hP hD hS => ?_)
  have hR' := hR.setD hj hA hq (d' := d) (fw' := fw) (lw' := upo lw j o) (fun i hi => ⟨rfl, rfl, upo_ne hi⟩) (hR.ok.2.1 j hj).1 (by rw [upo_eq]; exact ho)
  rw [upo_eq] at hR'
  exact kk _ H1 locs1 hR' hP hD hS
/-- an event's -/
theorem x_getE (k : Nat) {j : Nat} (hj : j < nE) (hx : p.tables.exec = Jvm.exec) (hb : c.code = cc) (hts : ∀ w ∈ Ts, w.before args s = true) (hin : ∀ w ∈ u_ws NmE TmE 6, w ∈ Ts) (hown : s.vm.findClass own = some m.cls) (hK : va_K G vwCl tys s) (hP : va_P G vwCl w H) (hR : RX cI cD cE aX aR aD aE dA eA g ro fst nD nE d fw lw ed ev nx w) (h1 : 1 ≤ k) (hk : k < 5)
    (hlink : (Cond.fieldLink own index NmE (TmE k).2.1 (TmE k).2.2.1).before args s = true) (hsame : (TmE k).1 = NmE) (hdg : decode cc pc = .ok (.getfield index, 3))
    (kk : W p l e R s m args below meth c H locs cells slots Q (F0 m (pc + 3) ls (.int (ev j k) :: rest))) : W p l e R s m args below meth c H locs cells slots Q (F0 m pc ls (.ref (eA j) :: rest)) := by
  obtain ⟨q, hq⟩ := hR.ec hj
  exact va_get (D := G) (ci := ciE) (v := .int (ev j k)) (C := NmE) (T := TmE) (N := 6) hx hb hts hin hown hK hP q hq rfl k (by omega) hlink (fun _ h9 => by rw [hsame] at h9; exact h9) (eFs_get h1 hk) hdg kk
theorem x_getE0 {j : Nat} (hj : j < nE) (hx : p.tables.exec = Jvm.exec) (hb : c.code = cc) (hts : ∀ w ∈ Ts, w.before args s = true) (hin : ∀ w ∈ u_ws NmE TmE 6, w ∈ Ts) (hown : s.vm.findClass own = some m.cls) (hK : va_K G vwCl tys s) (hP : va_P G vwCl w H) (hR : RX cI cD cE aX aR aD aE dA eA g ro fst nD nE d fw lw ed ev nx w)
    (hlink : (Cond.fieldLink own index NmE (TmE 0).2.1 (TmE 0).2.2.1).before args s = true) (hdg : decode cc pc = .ok (.getfield index, 3))
    (kk : W p l e R s m args below meth c H locs cells slots Q (F0 m (pc + 3) ls (.ref (dA (ed j)) :: rest))) : W p l e R s m args below meth c H locs cells slots Q (F0 m pc ls (.ref (eA j) :: rest)) := by
  obtain ⟨q, hq⟩ := hR.ec hj
  exact va_get (D := G) (ci := ciE) (v := .ref (dA (ed j))) (C := NmE) (T := TmE) (N := 6) hx hb hts hin hown hK hP q hq rfl 0 (by decide) hlink (fun _ h9 => h9) rfl hdg kk
theorem x_getE5 {j : Nat} (hj : j < nE) (hx : p.tables.exec = Jvm.exec) (hb : c.code = cc) (hts : ∀ w ∈ Ts, w.before args s = true) (hin : ∀ w ∈ u_ws NmE TmE 6, w ∈ Ts) (hown : s.vm.findClass own = some m.cls) (hK : va_K G vwCl tys s) (hP : va_P G vwCl w H) (hR : RX cI cD cE aX aR aD aE dA eA g ro fst nD nE d fw lw ed ev nx w)
    (hlink : (Cond.fieldLink own index NmE (TmE 5).2.1 (TmE 5).2.2.1).before args s = true) (hdg : decode cc pc = .ok (.getfield index, 3))
    (kk : W p l e R s m args below meth c H locs cells slots Q (F0 m (pc + 3) ls (va_rf ((nx j).map eA) :: rest))) : W p l e R s m args below meth c H locs cells slots Q (F0 m pc ls (.ref (eA j) :: rest)) := by
  obtain ⟨q, hq⟩ := hR.ec hj
  exact va_get (D := G) (ci := ciE) (v := va_rf ((nx j).map eA)) (C := NmE) (T := TmE) (N := 6) hx hb hts hin hown hK hP q hq rfl 5 (by decide) hlink (fun _ h9 => h9) rfl hdg kk
theorem x_putE4 (v : Int32) {j : Nat} (hj : j < nE) (hx : p.tables.exec = Jvm.exec) (hb : c.code = cc) (hts : ∀ w ∈ Ts, w.before args s = true) (hin : ∀ w ∈ u_ws NmE TmE 6, w ∈ Ts) (hown : s.vm.findClass own = some m.cls) (hK : va_K G vwCl tys s) (hP : va_P G vwCl w H) (hD : va_D A w) (hS : va_S A H0 H locs) (hR : RX cI cD cE aX aR aD aE dA eA g ro fst nD nE d fw lw ed ev nx w)
    (hlink : (Cond.fieldLink own index NmE (TmE 4).2.1 (TmE 4).2.2.1).before args s = true) (hdg : decode cc pc = .ok (.putfield index, 3))
    (kk : ∀ (w' : va_W) (H1 : Heap) (locs1 : List Loc), RX cI cD cE aX aR aD aE dA eA g ro fst nD nE d fw lw ed (up2 ev j 4 v) nx w' → va_P G vwCl w' H1 → va_D A w' → va_S A H0 H1 locs1 → W p l e R s m args below meth c H1 locs1 cells slots Q (F0 m (pc + 3) ls rest)) : W p l e R s m args below meth c H locs cells slots Q (F0 m pc ls (.int v :: .ref (eA j) :: rest)) := by
  obtain ⟨q, hq⟩ := hR.ec hj
  have hA := hD.weaken (B := fun _ => True) (fun _ _ _ _ => trivial)
  refine va_put (D := G) (ci := ciE) (v := .int v) (ty := .int) (C := NmE) (T := TmE) (N := 6) hx hb hts hin tyE tyE_ok nmE hown hK hP hD hS q hq rfl 4 (by decide) hlink (fun _ h9 => h9) rfl (by decide +kernel) rfl rfl (Nat.le_of_ble_eq_true rfl) hdg
    (fun H1 locs1 hP hD hS => ?_)
  have hR' := hR.setE hj hA hq (ev' := up2 ev j 4 v) (nx' := nx) (fun i hi => ⟨up2_ne hi, rfl⟩) (hR.ok.2.2 j hj).2
  rw [eFs_set (by decide) (by decide)] at hP hD
  rw [up2_eq] at hR'
  exact kk _ H1 locs1 hR' hP hD hS
theorem x_putE5 (o : Option Nat) (ho : okP nE o) {j : Nat} (hj : j < nE) (hx : p.tables.exec = Jvm.exec) (hb : c.code = cc) (hts : ∀ w ∈ Ts, w.before args s = true) (hin : ∀ w ∈ u_ws NmE TmE 6, w ∈ Ts) (hown : s.vm.findClass own = some m.cls) (hK : va_K G vwCl tys s) (hP : va_P G vwCl w H) (hD : va_D A w) (hS : va_S A H0 H locs) (hR : RX cI cD cE aX aR aD aE dA eA g ro fst nD nE d fw lw ed ev nx w)
    (hlink : (Cond.fieldLink own index NmE (TmE 5).2.1 (TmE 5).2.2.1).before args s = true) (hdg : decode cc pc = .ok (.putfield index, 3))
    (kk : ∀ (w' : va_W) (H1 : Heap) (locs1 : List Loc), RX cI cD cE aX aR aD aE dA eA g ro fst nD nE d fw lw ed ev (upo nx j o) w' → va_P G vwCl w' H1 → va_D A w' → va_S A H0 H1 locs1 → W p l e R s m args below meth c H1 locs1 cells slots Q (F0 m (pc + 3) ls rest)) : W p l e R s m args below meth c H locs cells slots Q (F0 m pc ls (va_rf (o.map eA) :: .ref (eA j) :: rest)) := by
  obtain ⟨q, hq⟩ := hR.ec hj
  have hA := hD.weaken (B := fun _ => True) (fun _ _ _ _ => trivial)
  refine va_put (D := G) (ci := ciE) (v := va_rf (o.map eA)) (ty := .object NmE) (C := NmE) (T := TmE) (N := 6) hx hb hts hin tyE tyE_ok nmE hown hK hP hD hS q hq rfl 5 (by decide) hlink (fun _ h9 => h9) rfl (by decide +kernel) (by cases o <;> rfl) (by cases o <;> rfl) (Nat.le_of_ble_eq_true rfl) hdg
    (fun H1 locs1 hP hD hS => ?_)
  have hR' := hR.setE hj hA hq (ev' := ev) (nx' := upo nx j o) (fun i hi => ⟨rfl, upo_ne hi⟩) (by rw [upo_eq]; exact ho)
  rw [upo_eq] at hR'
  exact kk _ H1 locs1 hR' hP hD hS
end XR
