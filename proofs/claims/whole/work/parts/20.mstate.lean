-- THE REFERENCE'S STATE: h: its numbers by their places (0 thrown, 1 now, 2 people, 4 declarations, 13 events, 21 turns, 22 opens, 23 closes); ar k: what the array at place k holds
def mNum (k : Nat) : Bool := k == 0 || k == 1 || k == 2 || k == 4 || k == 13 || k == 21 || k == 22 || k == 23
def mInt (k : Nat) : Bool := k == 3 || k == 5 || k == 6 || k == 7 || k == 8 || k == 9 || k == 10 || k == 11 || k == 12 || k == 14 || k == 15 || k == 16 || k == 17 || k == 19 || k == 20
def mBoo (k : Nat) : Bool := k == 18 || k == 24
def mArr (k : Nat) : Bool := mInt k || mBoo k
def mi : Nat → Nat
  | 3 => 1 | 5 => 2 | 6 => 3 | 7 => 4 | 8 => 5 | 9 => 6 | 10 => 7 | 11 => 8 | 12 => 9 | 14 => 10 | 15 => 11 | 16 => 12 | 17 => 13 | 18 => 14 | 19 => 15 | 20 => 16 | 24 => 17 | _ => 0
def mLen : Nat → Nat
  | 3 => 12 | 5 => 20 | 6 => 20 | 7 => 20 | 8 => 20 | 9 => 20 | 10 => 20 | 11 => 20 | 12 => 20 | 24 => 10 | _ => 120
def mFs (am : Nat → Nat) (h : Nat → Int32) : List Value := [.int (h 0), .int (h 1), .int (h 2), .ref (am 3), .int (h 4), .ref (am 5), .ref (am 6), .ref (am 7), .ref (am 8), .ref (am 9), .ref (am 10), .ref (am 11), .ref (am 12), .int (h 13), .ref (am 14), .ref (am 15), .ref (am 16), .ref (am 17), .ref (am 18), .ref (am 19), .ref (am 20), .int (h 21), .int (h 22), .int (h 23), .ref (am 24)]
abbrev mTys (ca : Nat → ClassId) : List (ClassId × FieldType) := [(ca 3, .int), (ca 5, .int), (ca 6, .int), (ca 7, .int), (ca 8, .int), (ca 9, .int), (ca 10, .int), (ca 11, .int), (ca 12, .int), (ca 14, .int), (ca 15, .int), (ca 16, .int), (ca 17, .int), (ca 18, .boolean), (ca 19, .int), (ca 20, .int), (ca 24, .boolean)]
def RM (ca : Nat → ClassId) (aM : Nat) (am : Nat → Nat) (h : Nat → Int32) (ar : Nat → Nat → Int32) (w : va_W) : Prop :=
  w[0]? = some (aM, .inr (ciM, mFs am h)) ∧ ∀ k, mArr k = true → w[mi k]? = some (am k, arI (ca k) (mLen k) (ar k))
theorem mArr_lt {k : Nat} (h : mArr k = true) : k < 25 := by
  simp only [mArr, mInt, mBoo, Bool.or_eq_true, beq_iff_eq] at h; omega
theorem mNum_lt {k : Nat} (h : mNum k = true) : k < 25 := by
  simp only [mNum, Bool.or_eq_true, beq_iff_eq] at h; omega
theorem mi_inj0 : ∀ a, a < 25 → ∀ b, b < 25 → mArr a = true → mArr b = true → mi a = mi b → a = b := by decide +kernel
theorem mi_pos0 : ∀ a, a < 25 → mArr a = true → mi a ≠ 0 := by decide +kernel
theorem mTys_i0 (ca : Nat → ClassId) : ∀ k, mInt k = true → (mTys ca)[mi k - 1]? = some (ca k, .int) := by
  intro k h
  simp only [mInt, Bool.or_eq_true, beq_iff_eq] at h
  rcases h with ((((((((((((((rfl | rfl) | rfl) | rfl) | rfl) | rfl) | rfl) | rfl) | rfl) | rfl) | rfl) | rfl) | rfl) | rfl) | rfl) <;> rfl
theorem mTys_b0 (ca : Nat → ClassId) : ∀ k, mBoo k = true → (mTys ca)[mi k - 1]? = some (ca k, .boolean) := by
  intro k h
  simp only [mBoo, Bool.or_eq_true, beq_iff_eq] at h
  rcases h with rfl | rfl <;> rfl
theorem mFs_set {am : Nat → Nat} {h : Nat → Int32} {v : Int32} {k : Nat} (hk : mNum k = true) : (mFs am h).set k (.int v) = mFs am (upd h k v) := by
  simp only [mNum, Bool.or_eq_true, beq_iff_eq] at hk
  rcases hk with ((((((rfl | rfl) | rfl) | rfl) | rfl) | rfl) | rfl) | rfl <;> rfl
theorem mFs_get {am : Nat → Nat} {h : Nat → Int32} {k : Nat} (hk : mNum k = true) : (mFs am h)[k]? = some (.int (h k)) := by
  simp only [mNum, Bool.or_eq_true, beq_iff_eq] at hk
  rcases hk with ((((((rfl | rfl) | rfl) | rfl) | rfl) | rfl) | rfl) | rfl <;> rfl
theorem mFs_arr {am : Nat → Nat} {h : Nat → Int32} {k : Nat} (hk : mArr k = true) : (mFs am h)[k]? = some (.ref (am k)) := by
  simp only [mArr, mInt, mBoo, Bool.or_eq_true, beq_iff_eq] at hk
  rcases hk with ((((((((((((((rfl | rfl) | rfl) | rfl) | rfl) | rfl) | rfl) | rfl) | rfl) | rfl) | rfl) | rfl) | rfl) | rfl) | rfl) | (rfl | rfl) <;> rfl
def mSt (ar : Nat → Nat → Int32) (p j : Nat) (v : Int32) : Nat → Nat → Int32 := upf ar p (upd (ar p) j v)
section MXR
variable {p : Program} {l : Launch} {e : Env} {R : Room} {s : State} {m : MethodId} {args : Array Value} {below : List Frame} {meth : Method} {c : Code} {H : Heap} {locs : List Loc} {cells slots : Nat} {Q : State → Prop}
variable {cc : ByteArray} {pc : Nat} {ls : Array Slot} {rest : List Value} {A : Nat → Prop} {H0 : Heap} {G : va_G} {Ts : List Cond} {own : String} {index : Nat}
variable {ca : Nat → ClassId} {aM : Nat} {am : Nat → Nat} {h : Nat → Int32} {ar : Nat → Nat → Int32} {w : va_W}
theorem RM.setO (hR : RM ca aM am h ar w) (h' : Nat → Int32) : RM ca aM am h' ar (w.set 0 (aM, .inr (ciM, mFs am h'))) :=
  ⟨x_set_eq hR.1, fun k hk => x_set_ne (hR.2 k hk) (fun z => mi_pos0 k (mArr_lt hk) hk z.symm)⟩
theorem RM.setA (hR : RM ca aM am h ar w) {k : Nat} (hk : mArr k = true) (f : Nat → Int32) : RM ca aM am h (upf ar k f) (w.set (mi k) (am k, arI (ca k) (mLen k) f)) := by
  refine ⟨x_set_ne hR.1 (mi_pos0 k (mArr_lt hk) hk), fun i hi => ?_⟩
  by_cases e : i = k
  · subst e; rw [upf_eq]; exact x_set_eq (hR.2 i hi)
  · rw [upf_ne e]; exact x_set_ne (hR.2 i hi) (fun z => e (mi_inj0 i (mArr_lt hi) k (mArr_lt hk) hi hk z.symm))
theorem m_get (k : Nat) (hx : p.tables.exec = Jvm.exec) (hb : c.code = cc) (hts : ∀ w ∈ Ts, w.before args s = true) (hin : ∀ w ∈ u_ws NmM TmM 25, w ∈ Ts) (hown : s.vm.findClass own = some m.cls) (hK : va_K G vwCl (mTys ca) s) (hP : va_P G vwCl w H) (hR : RM ca aM am h ar w) (hk : mNum k = true)
    (hlink : (Cond.fieldLink own index NmM (TmM k).2.1 (TmM k).2.2.1).before args s = true) (hsame : (TmM k).1 = NmM) (hdg : decode cc pc = .ok (.getfield index, 3))
    (kk : W p l e R s m args below meth c H locs cells slots Q (F0 m (pc + 3) ls (.int (h k) :: rest))) : W p l e R s m args below meth c H locs cells slots Q (F0 m pc ls (.ref aM :: rest)) :=
  va_get (D := G) (ci := ciM) (v := .int (h k)) (C := NmM) (T := TmM) (N := 25) hx hb hts hin hown hK hP 0 hR.1 rfl k (mNum_lt hk) hlink (fun _ h9 => by rw [hsame] at h9; exact h9) (mFs_get hk) hdg kk
theorem m_arr (k : Nat) (hx : p.tables.exec = Jvm.exec) (hb : c.code = cc) (hts : ∀ w ∈ Ts, w.before args s = true) (hin : ∀ w ∈ u_ws NmM TmM 25, w ∈ Ts) (hown : s.vm.findClass own = some m.cls) (hK : va_K G vwCl (mTys ca) s) (hP : va_P G vwCl w H) (hR : RM ca aM am h ar w) (hk : mArr k = true)
    (hlink : (Cond.fieldLink own index NmM (TmM k).2.1 (TmM k).2.2.1).before args s = true) (hsame : (TmM k).1 = NmM) (hdg : decode cc pc = .ok (.getfield index, 3))
    (kk : W p l e R s m args below meth c H locs cells slots Q (F0 m (pc + 3) ls (.ref (am k) :: rest))) : W p l e R s m args below meth c H locs cells slots Q (F0 m pc ls (.ref aM :: rest)) :=
  va_get (D := G) (ci := ciM) (v := .ref (am k)) (C := NmM) (T := TmM) (N := 25) hx hb hts hin hown hK hP 0 hR.1 rfl k (mArr_lt hk) hlink (fun _ h9 => by rw [hsame] at h9; exact h9) (mFs_arr hk) hdg kk
theorem m_put (k : Nat) (v : Int32) (hx : p.tables.exec = Jvm.exec) (hb : c.code = cc) (hts : ∀ w ∈ Ts, w.before args s = true) (hin : ∀ w ∈ u_ws NmM TmM 25, w ∈ Ts) (hown : s.vm.findClass own = some m.cls) (hK : va_K G vwCl (mTys ca) s) (hP : va_P G vwCl w H) (hD : va_D A w) (hS : va_S A H0 H locs) (hR : RM ca aM am h ar w) (hk : mNum k = true)
    (hlink : (Cond.fieldLink own index NmM (TmM k).2.1 (TmM k).2.2.1).before args s = true) (hsame : (TmM k).1 = NmM) (hfin : (TmM k).2.2.2 = false) (hd : parseFieldDescriptor (TmM k).2.2.1 = some .int) (hdg : decode cc pc = .ok (.putfield index, 3))
    (kk : ∀ (w' : va_W) (H1 : Heap) (locs1 : List Loc), RM ca aM am (upd h k v) ar w' → va_P G vwCl w' H1 → va_D A w' → va_S A H0 H1 locs1 → W p l e R s m args below meth c H1 locs1 cells slots Q (F0 m (pc + 3) ls rest)) : W p l e R s m args below meth c H locs cells slots Q (F0 m pc ls (.int v :: .ref aM :: rest)) :=
  va_put (D := G) (ci := ciM) (v := .int v) (ty := .int) (C := NmM) (T := TmM) (N := 25) hx hb hts hin tyM tyM_ok nmM hown hK hP hD hS 0 hR.1 rfl k (mNum_lt hk) hlink (fun _ h9 => by rw [hsame] at h9; exact h9) hfin hd rfl rfl (mNum_lt hk) hdg
    (fun H1 locs1 hP hD hS => by rw [mFs_set hk] at hP hD; exact kk _ H1 locs1 (hR.setO (upd h k v)) hP hD hS)
theorem m_ld (k : Nat) {i : Int32} (hin : vp_in i (mLen k)) (hx : p.tables.exec = Jvm.exec) (hb : c.code = cc) (hK : va_K G vwCl (mTys ca) s) (hP : va_P G vwCl w H) (hR : RM ca aM am h ar w) (hk : mInt k = true) (hdg : decode cc pc = .ok (.iaload, 1))
    (kk : W p l e R s m args below meth c H locs cells slots Q (F0 m (pc + 1) ls (.int (ar k i.toNatClampNeg) :: rest))) : W p l e R s m args below meth c H locs cells slots Q (F0 m pc ls (.int i :: .ref (am k) :: rest)) :=
  va_iald hx hb hK hP (mi k) (mi k - 1) (hR.2 k (by rw [mArr, hk]; rfl)) (mTys_i0 ca k hk) hin hdg kk
theorem m_ldz (k : Nat) {i : Int32} (hin : vp_in i (mLen k)) (hx : p.tables.exec = Jvm.exec) (hb : c.code = cc) (hK : va_K G vwCl (mTys ca) s) (hP : va_P G vwCl w H) (hR : RM ca aM am h ar w) (hk : mBoo k = true) (hdg : decode cc pc = .ok (.baload, 1))
    (kk : W p l e R s m args below meth c H locs cells slots Q (F0 m (pc + 1) ls (.int (ar k i.toNatClampNeg) :: rest))) : W p l e R s m args below meth c H locs cells slots Q (F0 m pc ls (.int i :: .ref (am k) :: rest)) :=
  va_zald hx hb hK hP (mi k) (mi k - 1) (hR.2 k (by rw [mArr, hk, Bool.or_true])) (mTys_b0 ca k hk) hin hdg kk
theorem m_st (k : Nat) {i x : Int32} (hin : vp_in i (mLen k)) (hx : p.tables.exec = Jvm.exec) (hb : c.code = cc) (hK : va_K G vwCl (mTys ca) s) (hP : va_P G vwCl w H) (hD : va_D A w) (hS : va_S A H0 H locs) (hR : RM ca aM am h ar w) (hk : mInt k = true) (hdg : decode cc pc = .ok (.iastore, 1))
    (kk : ∀ (w' : va_W) (H1 : Heap) (locs1 : List Loc), RM ca aM am h (mSt ar k i.toNatClampNeg x) w' → va_P G vwCl w' H1 → va_D A w' → va_S A H0 H1 locs1 → W p l e R s m args below meth c H1 locs1 cells slots Q (F0 m (pc + 1) ls rest)) : W p l e R s m args below meth c H locs cells slots Q (F0 m pc ls (.int x :: .int i :: .ref (am k) :: rest)) :=
  va_iast hx hb hK hP hD hS (mi k) (mi k - 1) (hR.2 k (by rw [mArr, hk]; rfl)) (mTys_i0 ca k hk) hin hdg (fun H1 locs1 hP hD hS => kk _ H1 locs1 (hR.setA (by rw [mArr, hk]; rfl) _) hP hD hS)
theorem m_stz (k : Nat) {i x : Int32} (hv : vp_nar .boolean x = x) (hin : vp_in i (mLen k)) (hx : p.tables.exec = Jvm.exec) (hb : c.code = cc) (hK : va_K G vwCl (mTys ca) s) (hP : va_P G vwCl w H) (hD : va_D A w) (hS : va_S A H0 H locs) (hR : RM ca aM am h ar w) (hk : mBoo k = true) (hdg : decode cc pc = .ok (.bastore, 1))
    (kk : ∀ (w' : va_W) (H1 : Heap) (locs1 : List Loc), RM ca aM am h (mSt ar k i.toNatClampNeg x) w' → va_P G vwCl w' H1 → va_D A w' → va_S A H0 H1 locs1 → W p l e R s m args below meth c H1 locs1 cells slots Q (F0 m (pc + 1) ls rest)) : W p l e R s m args below meth c H locs cells slots Q (F0 m pc ls (.int x :: .int i :: .ref (am k) :: rest)) :=
  va_zast hx hb hK hP hD hS (mi k) (mi k - 1) (hR.2 k (by rw [mArr, hk, Bool.or_true])) (mTys_b0 ca k hk) hin hdg (fun H1 locs1 hP hD hS => by rw [hv] at hP hD; exact kk _ H1 locs1 (hR.setA (by rw [mArr, hk, Bool.or_true]) _) hP hD hS)
end MXR
