-- OWN KIT: a method's world is one list w of cells, handed on whole; its end is a world w'
def xPre (G : va_G) (tys : List (ClassId × FieldType)) (w : va_W) (sz : Nat) (U : State) : Prop := U.heap.size = sz ∧ va_P G vwCl w U.heap ∧ va_K G vwCl tys U ∧ va_D (fun _ => True) w
def xEnd (G : va_G) (tys : List (ClassId × FieldType)) (A : Nat → Prop) (w' : va_W) (t : State) : Prop := va_P G vwCl w' t.heap ∧ va_K G vwCl tys t ∧ va_D A w'
/-- answers an int (a boolean) -/
abbrev xMi (l : Launch) (y : MethodName) (ws : List Cond) (rm : Room) (av : List Value) (G : va_G) (tys : List (ClassId × FieldType)) (w : va_W) (sz : Nat) (post : Int32 → va_W → Prop) (mc ms : Nat) : Prop :=
  Met l y ws rm (va_Pc av (xPre G tys w sz)) (va_Qi post (xEnd G tys (va_A w sz)) (va_A w sz)) mc ms (va_A w sz)
abbrev xMv (l : Launch) (y : MethodName) (ws : List Cond) (rm : Room) (av : List Value) (G : va_G) (tys : List (ClassId × FieldType)) (w : va_W) (sz : Nat) (post : va_W → Prop) (mc ms : Nat) : Prop :=
  Met l y ws rm (va_Pc av (xPre G tys w sz)) (va_Qv post (xEnd G tys (va_A w sz)) (va_A w sz)) mc ms (va_A w sz)
abbrev xMq (l : Launch) (y : MethodName) (ws : List Cond) (rm : Room) (av : List Value) (G : va_G) (tys : List (ClassId × FieldType)) (w : va_W) (sz : Nat) (post : Option Nat → va_W → Prop) (mc ms : Nat) : Prop :=
  Met l y ws rm (va_Pc av (xPre G tys w sz)) (va_Qq post (xEnd G tys (va_A w sz)) (va_A w sz)) mc ms (va_A w sz)
theorem x_blind {G : va_G} {tys : List (ClassId × FieldType)} {w : va_W} {sz : Nat} {av : List Value} : FrameBlind (va_Pc av (xPre G tys w sz)) := fun a U g mk q => by
  obtain ⟨q0, q1, qP, qK, qD⟩ := q
  exact ⟨q0, q1, qP, va_K.moved (u := U) (U := U.calling g mk a) (Vm.Alike.refl U.vm) qK, qD⟩
theorem x_preS {s : State} {H : Heap} {A : Nat → Prop} {G : va_G} {tys : List (ClassId × FieldType)} {w : va_W} {As : List Value} (hP : va_P G vwCl w H) (hK : va_K G vwCl tys s) (hD : va_D A w) : PreS s H (va_Pc As (xPre G tys w H.size)) As :=
  ⟨x_blind, fun U hU hW => ⟨rfl, by rw [hU], by rw [hU]; exact hP, va_K.moved hW.alike hK, hD.weaken (fun _ _ _ _ => trivial)⟩⟩
theorem x_preV {s : State} {H : Heap} {A : Nat → Prop} {G : va_G} {tys : List (ClassId × FieldType)} {w : va_W} {As fs : List Value} {b k ci : Nat} {q : vw_C} (hP : va_P G vwCl w H) (hK : va_K G vwCl tys s) (hD : va_D A w) (he : w[k]? = some (b, .inr (ci, fs))) (hc : vwCl[ci]? = some q) : PreV s H q.1 b (va_Pc (.ref b :: As) (xPre G tys w H.size)) As :=
  ⟨x_blind, va_recv hK hP hc he, fun U hU hW => ⟨rfl, by rw [hU], by rw [hU]; exact hP, va_K.moved hW.alike hK, hD.weaken (fun _ _ _ _ => trivial)⟩⟩
theorem x_free {A : Nat → Prop} {w : va_W} {H0 H : Heap} {locs : List Loc} (hD : va_D A w) (hS : va_S A H0 H locs) (hA : ∀ q, H0.size ≤ q → A q) : ∀ q, va_A w H.size q → A q := by
  intro q h
  rcases h with ⟨k, e, h⟩ | h
  · exact hD.2 k _ h
  · exact hA q (Nat.le_trans hS.1 h)
section XK
variable {p : Program} {l : Launch} {e : Env} {R : Room} {s : State} {m : MethodId} {args : Array Value} {below : List Frame} {meth : Method} {c : Code} {H : Heap} {locs : List Loc} {cells slots : Nat} {Q : State → Prop}
variable {cc : ByteArray} {pc : Nat} {ls : Array Slot} {rest st0 : List Value} {A : Nat → Prop} {H0 : Heap} {G : va_G} {tys : List (ClassId × FieldType)} {w : va_W} {mc ms : Nat} {a : Array Value}
theorem x_calli {post : Int32 → va_W → Prop} (hr : va_Run p l e R s m args below meth c H locs cells slots mc ms (F0 m pc ls st0) rest (va_Qi post (xEnd G tys (va_A w H.size)) (va_A w H.size) a) (va_A w H.size)) (hD : va_D A w) (hS : va_S A H0 H locs) (hA : ∀ q, H0.size ≤ q → A q)
    (kk : ∀ (r : Int32) (w' : va_W) (H1 : Heap) (locs1 : List Loc), post r w' → va_P G vwCl w' H1 → va_D A w' → va_S A H0 H1 locs1 → W p l e R s m args below meth c H1 locs1 (cells + mc) (slots + ms) Q (F0 m (pc + 3) ls (.int r :: rest))) : W p l e R s m args below meth c H locs cells slots Q (F0 m pc ls st0) := by
  have hF := x_free hD hS hA
  exact va_calli hr hS (fun q _ h => hF q h) hF (fun r u t H1 locs ht hvm hw hB hz1 hk1 hS => kk r u H1 locs hw (by rw [← ht]; exact hB.1) (hB.2.2.weaken (fun _ _ _ h => hF _ h)) hS)
theorem x_callv {post : va_W → Prop} (hr : va_Run p l e R s m args below meth c H locs cells slots mc ms (F0 m pc ls st0) rest (va_Qv post (xEnd G tys (va_A w H.size)) (va_A w H.size) a) (va_A w H.size)) (hD : va_D A w) (hS : va_S A H0 H locs) (hA : ∀ q, H0.size ≤ q → A q)
    (kk : ∀ (w' : va_W) (H1 : Heap) (locs1 : List Loc), post w' → va_P G vwCl w' H1 → va_D A w' → va_S A H0 H1 locs1 → W p l e R s m args below meth c H1 locs1 (cells + mc) (slots + ms) Q (F0 m (pc + 3) ls rest)) : W p l e R s m args below meth c H locs cells slots Q (F0 m pc ls st0) := by
  have hF := x_free hD hS hA
  exact va_callv hr hS (fun q _ h => hF q h) hF (fun u t H1 locs ht hvm hw hB hz1 hk1 hS => kk u H1 locs hw (by rw [← ht]; exact hB.1) (hB.2.2.weaken (fun _ _ _ h => hF _ h)) hS)
theorem x_callq {post : Option Nat → va_W → Prop} (hr : va_Run p l e R s m args below meth c H locs cells slots mc ms (F0 m pc ls st0) rest (va_Qq post (xEnd G tys (va_A w H.size)) (va_A w H.size) a) (va_A w H.size)) (hD : va_D A w) (hS : va_S A H0 H locs) (hA : ∀ q, H0.size ≤ q → A q)
    (kk : ∀ (r : Option Nat) (w' : va_W) (H1 : Heap) (locs1 : List Loc), post r w' → va_P G vwCl w' H1 → va_D A w' → va_S A H0 H1 locs1 → W p l e R s m args below meth c H1 locs1 (cells + mc) (slots + ms) Q (F0 m (pc + 3) ls (va_rf r :: rest))) : W p l e R s m args below meth c H locs cells slots Q (F0 m pc ls st0) := by
  have hF := x_free hD hS hA
  exact va_callq hr hS (fun q _ h => hF q h) hF (fun r u t H1 locs ht hvm hw hB hz1 hk1 hS => kk r u H1 locs hw (by rw [← ht]; exact hB.1) (hB.2.2.weaken (fun _ _ _ h => hF _ h)) hS)
/-- ends -/
theorem x_iret {post : Int32 → va_W → Prop} {v : Int32} (hx : p.tables.exec = Jvm.exec) (hb : c.code = cc) (hr : meth.sig.returnType = some .int) (hlocks : meth.locks = false) (hp : post v w) (hP : va_P G vwCl w H) (hK : va_K G vwCl tys s) (hD : va_D A w) (hS : va_S A s.heap H locs) (hdg : decode cc pc = .ok (.ireturn, 1)) :
    W p l e R s m args below meth c H locs cells slots (MQ below (va_Qi post (xEnd G tys A) A) args s cells slots A) (F0 m pc ls [.int v]) :=
  W.iret hx hb hr (fun t ht hW => ⟨⟨v, w, rfl, hp, by rw [ht]; exact hP, va_K.moved hW.alike hK, hD⟩, hS.F ht⟩) hS.2.2 hdg hlocks
theorem x_zret {post : Int32 → va_W → Prop} {v : Int32} (hx : p.tables.exec = Jvm.exec) (hb : c.code = cc) (hr : meth.sig.returnType = some .boolean) (hlocks : meth.locks = false) (hn : narrow .boolean (.int v) = .int v) (hp : post v w) (hP : va_P G vwCl w H) (hK : va_K G vwCl tys s) (hD : va_D A w) (hS : va_S A s.heap H locs) (hdg : decode cc pc = .ok (.ireturn, 1)) :
    W p l e R s m args below meth c H locs cells slots (MQ below (va_Qi post (xEnd G tys A) A) args s cells slots A) (F0 m pc ls [.int v]) :=
  W.zret hx hb hr hn (fun t ht hW => ⟨⟨v, w, rfl, hp, by rw [ht]; exact hP, va_K.moved hW.alike hK, hD⟩, hS.F ht⟩) hS.2.2 hdg hlocks
theorem x_vret {post : va_W → Prop} (hx : p.tables.exec = Jvm.exec) (hb : c.code = cc) (hr : meth.sig.returnType = none) (hlocks : meth.locks = false) (hp : post w) (hP : va_P G vwCl w H) (hK : va_K G vwCl tys s) (hD : va_D A w) (hS : va_S A s.heap H locs) (hdg : decode cc pc = .ok (.return_, 1)) :
    W p l e R s m args below meth c H locs cells slots (MQ below (va_Qv post (xEnd G tys A) A) args s cells slots A) (F0 m pc ls []) :=
  W.vret hx hb hr (fun t ht hW => ⟨⟨w, rfl, hp, by rw [ht]; exact hP, va_K.moved hW.alike hK, hD⟩, hS.F ht⟩) hS.2.2 hdg hlocks
theorem x_qret {post : Option Nat → va_W → Prop} {r : Option Nat} {n : String} (hx : p.tables.exec = Jvm.exec) (hb : c.code = cc) (hr : meth.sig.returnType = some (.object n)) (hlocks : meth.locks = false) (hp : post r w) (hP : va_P G vwCl w H) (hK : va_K G vwCl tys s) (hD : va_D A w) (hS : va_S A s.heap H locs) (hdg : decode cc pc = .ok (.areturn, 1)) :
    W p l e R s m args below meth c H locs cells slots (MQ below (va_Qq post (xEnd G tys A) A) args s cells slots A) (F0 m pc ls [va_rf r]) :=
  W.aret hx hb hr (Or.inl ⟨n, rfl⟩) (va_rf_or r) (fun t ht hW => ⟨⟨r, w, rfl, hp, by rw [ht]; exact hP, va_K.moved hW.alike hK, hD⟩, hS.F ht⟩) hS.2.2 hdg hlocks
/-- the stack, spelled otherwise -/
theorem x_st {st st' : List Value} (h : st = st') (k : W p l e R s m args below meth c H locs cells slots Q (F0 m pc ls st')) : W p l e R s m args below meth c H locs cells slots Q (F0 m pc ls st) := h ▸ k
theorem x_ls {ls' : Array Slot} {nL : Nat} {lv lv' : List (Nat × Value)} (hl : lv_has ls nL lv) (h : lv = lv') : lv_has ls nL lv' := h ▸ hl
/-- a local that may be null is loaded, stored -/
theorem x_aload_n {o : Option Nat} {k : Fin 4} {i : Nat} (hx : p.tables.exec = Jvm.exec) (hb : c.code = cc) (hdg : decode cc pc = .ok (.aload_n k, 1)) (hi : (k : Nat) = i) (hl : ls[i]? = some (.val (va_rf o)))
    (kk : W p l e R s m args below meth c H locs cells slots Q (F0 m (pc + 1) ls (va_rf o :: rest))) : W p l e R s m args below meth c H locs cells slots Q (F0 m pc ls rest) := by
  cases o with
  | none => exact lv_aload_nN hx hb hdg hi hl kk
  | some x => exact lv_aload_n hx hb hdg hi hl kk
theorem x_aload {o : Option Nat} {i : Nat} (hx : p.tables.exec = Jvm.exec) (hb : c.code = cc) (hdg : decode cc pc = .ok (.aload i, 2)) (hl : ls[i]? = some (.val (va_rf o)))
    (kk : W p l e R s m args below meth c H locs cells slots Q (F0 m (pc + 2) ls (va_rf o :: rest))) : W p l e R s m args below meth c H locs cells slots Q (F0 m pc ls rest) := by
  cases o with
  | none => exact lv_aloadN hx hb hdg hl kk
  | some x => exact lv_aload hx hb hdg hl kk
theorem x_astore_n {o : Option Nat} {k : Fin 4} {i nL : Nat} {lv lv' : List (Nat × Value)} (hx : p.tables.exec = Jvm.exec) (hb : c.code = cc) (hdg : decode cc pc = .ok (.astore_n k, 1)) (hi : (k : Nat) = i) (h : lv_has ls nL lv) (hn : i < nL) (hl : (i, va_rf o) :: lv.filter (fun q => !(q.1 == i) && !(q.1 + 1 == i && q.2.category == 2)) = lv')
    (kk : ∀ ls' : Array Slot, lv_has ls' nL lv' → W p l e R s m args below meth c H locs cells slots Q (F0 m (pc + 1) ls' rest)) : W p l e R s m args below meth c H locs cells slots Q (F0 m pc ls (va_rf o :: rest)) := by
  cases o with
  | none => exact lv_astore_nN hx hb hdg hi h hn hl kk
  | some x => exact lv_astore_n hx hb hdg hi h hn hl kk
theorem x_astore {o : Option Nat} {i nL : Nat} {lv lv' : List (Nat × Value)} (hx : p.tables.exec = Jvm.exec) (hb : c.code = cc) (hdg : decode cc pc = .ok (.astore i, 2)) (h : lv_has ls nL lv) (hn : i < nL) (hl : (i, va_rf o) :: lv.filter (fun q => !(q.1 == i) && !(q.1 + 1 == i && q.2.category == 2)) = lv')
    (kk : ∀ ls' : Array Slot, lv_has ls' nL lv' → W p l e R s m args below meth c H locs cells slots Q (F0 m (pc + 2) ls' rest)) : W p l e R s m args below meth c H locs cells slots Q (F0 m pc ls (va_rf o :: rest)) := by
  cases o with
  | none => exact lv_astoreN hx hb hdg h hn hl kk
  | some x => exact lv_astore hx hb hdg h hn hl kk
/-- a test for null -/
theorem x_ifnull {o : Option Nat} {off : Int} {tgt : Nat} (hx : p.tables.exec = Jvm.exec) (hb : c.code = cc) (hdg : decode cc pc = .ok (.ifnull off, 3)) (ht : (pc : Int) + off = (tgt : Int))
    (kn : o = none → W p l e R s m args below meth c H locs cells slots Q (F0 m tgt ls rest)) (ks : ∀ x, o = some x → W p l e R s m args below meth c H locs cells slots Q (F0 m (pc + 3) ls rest)) : W p l e R s m args below meth c H locs cells slots Q (F0 m pc ls (va_rf o :: rest)) := by
  cases o with
  | none => exact lv_ifnullN hx hb hdg ht (kn rfl)
  | some x => exact lv_ifnull hx hb hdg (ks x rfl)
theorem x_ifnonnull {o : Option Nat} {off : Int} {tgt : Nat} (hx : p.tables.exec = Jvm.exec) (hb : c.code = cc) (hdg : decode cc pc = .ok (.ifnonnull off, 3)) (ht : (pc : Int) + off = (tgt : Int))
    (ks : ∀ x, o = some x → W p l e R s m args below meth c H locs cells slots Q (F0 m tgt ls rest)) (kn : o = none → W p l e R s m args below meth c H locs cells slots Q (F0 m (pc + 3) ls rest)) : W p l e R s m args below meth c H locs cells slots Q (F0 m pc ls (va_rf o :: rest)) := by
  cases o with
  | none => exact lv_ifnonnullN hx hb hdg (kn rfl)
  | some x => exact lv_ifnonnull hx hb hdg ht (ks x rfl)
end XK
/-- a method's body, from its entry, in a world w -/
theorem x_ofW {l : Launch} {y : MethodName} {ws : List Cond} {rm : Room} {av : List Value} {G : va_G} {tys : List (ClassId × FieldType)} {w : va_W} {sz : Nat} (Qc : (Nat → Prop) → Array Value → State → Outcome → State → Prop) {mc ms : Nat} (cc : ByteArray) (maxL : Nat) (ret : Option FieldType) (hy : plainName y.cls = true) (hw : ws = Cond.code y cc maxL ret :: BIG) (hn : (lg_sl av).length ≤ maxL)
    (body : ∀ (p : Program) (e : Env) (s : State) (m : MethodId) (below : List Frame) (meth : Method) (c : Code) (A : Nat → Prop) (ls : Array Slot), p.tables.exec = Jvm.exec → c.code = cc → meth.sig.returnType = ret → meth.locks = false → c.maxLocals = maxL → meth.name = y.name → s.vm.findClass y.cls = some m.cls → (∀ w ∈ BIG, w.before av.toArray s = true) → (∀ q, s.heap.size ≤ q → A q) →
      va_P G vwCl w s.heap → va_K G vwCl tys s → va_D A w → va_S A s.heap s.heap [] → lv_has ls maxL (lv_args 0 av) → W p l e rm s m av.toArray below meth c s.heap [] 0 0 (MQ below (Qc A) av.toArray s mc ms A) (F0 m 0 ls [])) :
    Met l y ws rm (va_Pc av (xPre G tys w sz)) (Qc (va_A w sz)) mc ms (va_A w sz) := by
  refine Met.ofW (cc := cc) (maxL := maxL) (ret := ret) hy hw ?_
  intro p e s m args below meth c s₁ B hml hv
  obtain ⟨rfl, hsz, hP, hK, hD0⟩ := hv
  subst hsz
  rw [lg_entry_eq]
  exact body p e s m below meth c _ _ B.exec B.bytes B.returns B.notSynchronized hml (name_of_methodNamed B.named B.method).1 (findClass_of_methodNamed B.named) (fun w h => atoms_spec (ws := ws) B.pre w (by rw [hw]; exact List.mem_cons_of_mem _ h)) (fun q h => Or.inr h) hP hK (hD0.self (sz := s.heap.size)) va_S.rf (lv_entry av hn)
